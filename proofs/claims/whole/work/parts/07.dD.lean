set_option maxRecDepth 20000 in
theorem ggX7_init_X7_clear : GoodIn wsX7_init wsX7_clear := goodIn_r _ [16] (by decide +kernel) (by decide +kernel)
set_option maxRecDepth 20000 in
theorem gX7_init_X7_clear : GoodIn wsX7_init (va_wsS RX7 32 yX7_clear wsX7_clear) := goodIn_app (goodIn_of _ (by decide +kernel)) ggX7_init_X7_clear
theorem dX7_init_0 : decode cX7_init 0 = .ok (.aload_n 0, 1) := by decide +kernel
theorem dX7_init_1 : decode cX7_init 1 = .ok (.invokespecial 1, 3) := by decide +kernel
theorem dX7_init_4 : decode cX7_init 4 = .ok (.aload_n 0, 1) := by decide +kernel
theorem dX7_init_5 : decode cX7_init 5 = .ok (.bipush 120, 2) := by decide +kernel
theorem dX7_init_7 : decode cX7_init 7 = .ok (.newarray .int, 2) := by decide +kernel
theorem dX7_init_9 : decode cX7_init 9 = .ok (.putfield 7, 3) := by decide +kernel
theorem dX7_init_12 : decode cX7_init 12 = .ok (.aload_n 0, 1) := by decide +kernel
theorem dX7_init_13 : decode cX7_init 13 = .ok (.bipush 121, 2) := by decide +kernel
theorem dX7_init_15 : decode cX7_init 15 = .ok (.newarray .int, 2) := by decide +kernel
theorem dX7_init_17 : decode cX7_init 17 = .ok (.putfield 13, 3) := by decide +kernel
theorem dX7_init_20 : decode cX7_init 20 = .ok (.aload_n 0, 1) := by decide +kernel
theorem dX7_init_21 : decode cX7_init 21 = .ok (.bipush 121, 2) := by decide +kernel
theorem dX7_init_23 : decode cX7_init 23 = .ok (.newarray .int, 2) := by decide +kernel
theorem dX7_init_25 : decode cX7_init 25 = .ok (.putfield 16, 3) := by decide +kernel
theorem dX7_init_28 : decode cX7_init 28 = .ok (.aload_n 0, 1) := by decide +kernel
theorem dX7_init_29 : decode cX7_init 29 = .ok (.bipush 121, 2) := by decide +kernel
theorem dX7_init_31 : decode cX7_init 31 = .ok (.newarray .int, 2) := by decide +kernel
theorem dX7_init_33 : decode cX7_init 33 = .ok (.putfield 19, 3) := by decide +kernel
theorem dX7_init_36 : decode cX7_init 36 = .ok (.aload_n 0, 1) := by decide +kernel
theorem dX7_init_37 : decode cX7_init 37 = .ok (.sipush 1694, 3) := by decide +kernel
theorem dX7_init_40 : decode cX7_init 40 = .ok (.newarray .int, 2) := by decide +kernel
theorem dX7_init_42 : decode cX7_init 42 = .ok (.putfield 22, 3) := by decide +kernel
theorem dX7_init_45 : decode cX7_init 45 = .ok (.aload_n 0, 1) := by decide +kernel
theorem dX7_init_46 : decode cX7_init 46 = .ok (.sipush 242, 3) := by decide +kernel
theorem dX7_init_49 : decode cX7_init 49 = .ok (.newarray .int, 2) := by decide +kernel
theorem dX7_init_51 : decode cX7_init 51 = .ok (.putfield 25, 3) := by decide +kernel
theorem dX7_init_54 : decode cX7_init 54 = .ok (.aload_n 0, 1) := by decide +kernel
theorem dX7_init_55 : decode cX7_init 55 = .ok (.iconst 2, 1) := by decide +kernel
theorem dX7_init_56 : decode cX7_init 56 = .ok (.newarray .boolean, 2) := by decide +kernel
theorem dX7_init_58 : decode cX7_init 58 = .ok (.putfield 28, 3) := by decide +kernel
theorem dX7_init_61 : decode cX7_init 61 = .ok (.aload_n 0, 1) := by decide +kernel
theorem dX7_init_62 : decode cX7_init 62 = .ok (.getfield 13, 3) := by decide +kernel
theorem dX7_init_65 : decode cX7_init 65 = .ok (.invokestatic 32, 3) := by decide +kernel
theorem dX7_init_68 : decode cX7_init 68 = .ok (.return_, 1) := by decide +kernel
theorem dX7_thrown_0 : decode cX7_thrown 0 = .ok (.aload_n 0, 1) := by decide +kernel
theorem dX7_thrown_1 : decode cX7_thrown 1 = .ok (.getfield 36, 3) := by decide +kernel
theorem dX7_thrown_4 : decode cX7_thrown 4 = .ok (.ireturn, 1) := by decide +kernel
theorem dX7_refused_0 : decode cX7_refused 0 = .ok (.aload_n 0, 1) := by decide +kernel
theorem dX7_refused_1 : decode cX7_refused 1 = .ok (.iload_n 1, 1) := by decide +kernel
theorem dX7_refused_2 : decode cX7_refused 2 = .ok (.putfield 36, 3) := by decide +kernel
theorem dX7_refused_5 : decode cX7_refused 5 = .ok (.iload_n 1, 1) := by decide +kernel
theorem dX7_refused_6 : decode cX7_refused 6 = .ok (.ifCond .le 7, 3) := by decide +kernel
theorem dX7_refused_9 : decode cX7_refused 9 = .ok (.iconst 1, 1) := by decide +kernel
theorem dX7_refused_10 : decode cX7_refused 10 = .ok (.goto 4, 3) := by decide +kernel
theorem dX7_refused_13 : decode cX7_refused 13 = .ok (.iconst 0, 1) := by decide +kernel
theorem dX7_refused_14 : decode cX7_refused 14 = .ok (.ireturn, 1) := by decide +kernel
theorem dX7_in_0 : decode cX7_in 0 = .ok (.lload_n 0, 1) := by decide +kernel
theorem dX7_in_1 : decode cX7_in 1 = .ok (.lload_n 2, 1) := by decide +kernel
theorem dX7_in_2 : decode cX7_in 2 = .ok (.lcmp, 1) := by decide +kernel
theorem dX7_in_3 : decode cX7_in 3 = .ok (.ifCond .lt 14, 3) := by decide +kernel
theorem dX7_in_6 : decode cX7_in 6 = .ok (.lload_n 0, 1) := by decide +kernel
theorem dX7_in_7 : decode cX7_in 7 = .ok (.lload 4, 2) := by decide +kernel
theorem dX7_in_9 : decode cX7_in 9 = .ok (.lcmp, 1) := by decide +kernel
theorem dX7_in_10 : decode cX7_in 10 = .ok (.ifCond .gt 7, 3) := by decide +kernel
theorem dX7_in_13 : decode cX7_in 13 = .ok (.iconst 1, 1) := by decide +kernel
theorem dX7_in_14 : decode cX7_in 14 = .ok (.goto 4, 3) := by decide +kernel
theorem dX7_in_17 : decode cX7_in 17 = .ok (.iconst 0, 1) := by decide +kernel
theorem dX7_in_18 : decode cX7_in 18 = .ok (.ireturn, 1) := by decide +kernel
theorem dX7_copyState_0 : decode cX7_copyState 0 = .ok (.iconst 0, 1) := by decide +kernel
theorem dX7_copyState_1 : decode cX7_copyState 1 = .ok (.istore 4, 2) := by decide +kernel
theorem dX7_copyState_3 : decode cX7_copyState 3 = .ok (.iload 4, 2) := by decide +kernel
theorem dX7_copyState_5 : decode cX7_copyState 5 = .ok (.bipush 121, 2) := by decide +kernel
theorem dX7_copyState_7 : decode cX7_copyState 7 = .ok (.if_icmp .ge 21, 3) := by decide +kernel
theorem dX7_copyState_10 : decode cX7_copyState 10 = .ok (.aload_n 2, 1) := by decide +kernel
theorem dX7_copyState_11 : decode cX7_copyState 11 = .ok (.iload_n 3, 1) := by decide +kernel
theorem dX7_copyState_12 : decode cX7_copyState 12 = .ok (.iload 4, 2) := by decide +kernel
theorem dX7_copyState_14 : decode cX7_copyState 14 = .ok (.iadd, 1) := by decide +kernel
theorem dX7_copyState_15 : decode cX7_copyState 15 = .ok (.aload_n 0, 1) := by decide +kernel
theorem dX7_copyState_16 : decode cX7_copyState 16 = .ok (.iload_n 1, 1) := by decide +kernel
theorem dX7_copyState_17 : decode cX7_copyState 17 = .ok (.iload 4, 2) := by decide +kernel
theorem dX7_copyState_19 : decode cX7_copyState 19 = .ok (.iadd, 1) := by decide +kernel
theorem dX7_copyState_20 : decode cX7_copyState 20 = .ok (.iaload, 1) := by decide +kernel
theorem dX7_copyState_21 : decode cX7_copyState 21 = .ok (.iastore, 1) := by decide +kernel
theorem dX7_copyState_22 : decode cX7_copyState 22 = .ok (.iinc 4 1, 3) := by decide +kernel
theorem dX7_copyState_25 : decode cX7_copyState 25 = .ok (.goto (-22), 3) := by decide +kernel
theorem dX7_copyState_28 : decode cX7_copyState 28 = .ok (.return_, 1) := by decide +kernel
theorem dX7_clear_0 : decode cX7_clear 0 = .ok (.iconst 0, 1) := by decide +kernel
theorem dX7_clear_1 : decode cX7_clear 1 = .ok (.istore_n 1, 1) := by decide +kernel
theorem dX7_clear_2 : decode cX7_clear 2 = .ok (.iload_n 1, 1) := by decide +kernel
theorem dX7_clear_3 : decode cX7_clear 3 = .ok (.bipush 121, 2) := by decide +kernel
theorem dX7_clear_5 : decode cX7_clear 5 = .ok (.if_icmp .ge 13, 3) := by decide +kernel
theorem dX7_clear_8 : decode cX7_clear 8 = .ok (.aload_n 0, 1) := by decide +kernel
theorem dX7_clear_9 : decode cX7_clear 9 = .ok (.iload_n 1, 1) := by decide +kernel
theorem dX7_clear_10 : decode cX7_clear 10 = .ok (.iconst 0, 1) := by decide +kernel
theorem dX7_clear_11 : decode cX7_clear 11 = .ok (.iastore, 1) := by decide +kernel
theorem dX7_clear_12 : decode cX7_clear 12 = .ok (.iinc 1 1, 3) := by decide +kernel
theorem dX7_clear_15 : decode cX7_clear 15 = .ok (.goto (-13), 3) := by decide +kernel
theorem dX7_clear_18 : decode cX7_clear 18 = .ok (.aload_n 0, 1) := by decide +kernel
theorem dX7_clear_19 : decode cX7_clear 19 = .ok (.iconst 5, 1) := by decide +kernel
theorem dX7_clear_20 : decode cX7_clear 20 = .ok (.iconst (-1), 1) := by decide +kernel
theorem dX7_clear_21 : decode cX7_clear 21 = .ok (.iastore, 1) := by decide +kernel
theorem dX7_clear_22 : decode cX7_clear 22 = .ok (.aload_n 0, 1) := by decide +kernel
theorem dX7_clear_23 : decode cX7_clear 23 = .ok (.bipush 6, 2) := by decide +kernel
theorem dX7_clear_25 : decode cX7_clear 25 = .ok (.iconst 4, 1) := by decide +kernel
theorem dX7_clear_26 : decode cX7_clear 26 = .ok (.iastore, 1) := by decide +kernel
theorem dX7_clear_27 : decode cX7_clear 27 = .ok (.aload_n 0, 1) := by decide +kernel
theorem dX7_clear_28 : decode cX7_clear 28 = .ok (.bipush 7, 2) := by decide +kernel
theorem dX7_clear_30 : decode cX7_clear 30 = .ok (.iconst 3, 1) := by decide +kernel
theorem dX7_clear_31 : decode cX7_clear 31 = .ok (.iastore, 1) := by decide +kernel
theorem dX7_clear_32 : decode cX7_clear 32 = .ok (.aload_n 0, 1) := by decide +kernel
theorem dX7_clear_33 : decode cX7_clear 33 = .ok (.bipush 8, 2) := by decide +kernel
theorem dX7_clear_35 : decode cX7_clear 35 = .ok (.bipush 60, 2) := by decide +kernel
theorem dX7_clear_37 : decode cX7_clear 37 = .ok (.iastore, 1) := by decide +kernel
theorem dX7_clear_38 : decode cX7_clear 38 = .ok (.return_, 1) := by decide +kernel
theorem dX7_at_0 : decode cX7_at 0 = .ok (.bipush 9, 2) := by decide +kernel
theorem dX7_at_2 : decode cX7_at 2 = .ok (.bipush 28, 2) := by decide +kernel
theorem dX7_at_4 : decode cX7_at 4 = .ok (.iload_n 0, 1) := by decide +kernel
theorem dX7_at_5 : decode cX7_at 5 = .ok (.imul, 1) := by decide +kernel
theorem dX7_at_6 : decode cX7_at 6 = .ok (.iadd, 1) := by decide +kernel
theorem dX7_at_7 : decode cX7_at 7 = .ok (.ireturn, 1) := by decide +kernel
set_option maxRecDepth 20000 in
theorem ggX7_isPlayer_X7_in : GoodIn wsX7_isPlayer wsX7_in := goodIn_r _ [4] (by decide +kernel) (by decide +kernel)
set_option maxRecDepth 20000 in
theorem gX7_isPlayer_X7_in : GoodIn wsX7_isPlayer (va_wsS RX7 40 yX7_in wsX7_in) := goodIn_app (goodIn_of _ (by decide +kernel)) ggX7_isPlayer_X7_in
theorem dX7_isPlayer_0 : decode cX7_isPlayer 0 = .ok (.iload_n 1, 1) := by decide +kernel
theorem dX7_isPlayer_1 : decode cX7_isPlayer 1 = .ok (.i2l, 1) := by decide +kernel
theorem dX7_isPlayer_2 : decode cX7_isPlayer 2 = .ok (.lconst 0, 1) := by decide +kernel
theorem dX7_isPlayer_3 : decode cX7_isPlayer 3 = .ok (.aload_n 0, 1) := by decide +kernel
theorem dX7_isPlayer_4 : decode cX7_isPlayer 4 = .ok (.iconst 0, 1) := by decide +kernel
theorem dX7_isPlayer_5 : decode cX7_isPlayer 5 = .ok (.iaload, 1) := by decide +kernel
theorem dX7_isPlayer_6 : decode cX7_isPlayer 6 = .ok (.iconst 1, 1) := by decide +kernel
theorem dX7_isPlayer_7 : decode cX7_isPlayer 7 = .ok (.isub, 1) := by decide +kernel
theorem dX7_isPlayer_8 : decode cX7_isPlayer 8 = .ok (.i2l, 1) := by decide +kernel
theorem dX7_isPlayer_9 : decode cX7_isPlayer 9 = .ok (.invokestatic 40, 3) := by decide +kernel
theorem dX7_isPlayer_12 : decode cX7_isPlayer 12 = .ok (.ireturn, 1) := by decide +kernel
set_option maxRecDepth 20000 in
theorem ggX7_isPlace_X7_in : GoodIn wsX7_isPlace wsX7_in := goodIn_r _ [5] (by decide +kernel) (by decide +kernel)
set_option maxRecDepth 20000 in
theorem gX7_isPlace_X7_in : GoodIn wsX7_isPlace (va_wsS RX7 40 yX7_in wsX7_in) := goodIn_app (goodIn_of _ (by decide +kernel)) ggX7_isPlace_X7_in
theorem dX7_isPlace_0 : decode cX7_isPlace 0 = .ok (.iload_n 0, 1) := by decide +kernel
theorem dX7_isPlace_1 : decode cX7_isPlace 1 = .ok (.i2l, 1) := by decide +kernel
theorem dX7_isPlace_2 : decode cX7_isPlace 2 = .ok (.lconst 0, 1) := by decide +kernel
theorem dX7_isPlace_3 : decode cX7_isPlace 3 = .ok (.ldc2_w 44, 3) := by decide +kernel
theorem dX7_isPlace_6 : decode cX7_isPlace 6 = .ok (.invokestatic 40, 3) := by decide +kernel
theorem dX7_isPlace_9 : decode cX7_isPlace 9 = .ok (.ireturn, 1) := by decide +kernel
set_option maxRecDepth 20000 in
theorem ggX7_isLine_X7_in : GoodIn wsX7_isLine wsX7_in := goodIn_r _ [5] (by decide +kernel) (by decide +kernel)
set_option maxRecDepth 20000 in
theorem gX7_isLine_X7_in : GoodIn wsX7_isLine (va_wsS RX7 40 yX7_in wsX7_in) := goodIn_app (goodIn_of _ (by decide +kernel)) ggX7_isLine_X7_in
theorem dX7_isLine_0 : decode cX7_isLine 0 = .ok (.iload_n 0, 1) := by decide +kernel
theorem dX7_isLine_1 : decode cX7_isLine 1 = .ok (.i2l, 1) := by decide +kernel
theorem dX7_isLine_2 : decode cX7_isLine 2 = .ok (.lconst 0, 1) := by decide +kernel
theorem dX7_isLine_3 : decode cX7_isLine 3 = .ok (.ldc2_w 46, 3) := by decide +kernel
theorem dX7_isLine_6 : decode cX7_isLine 6 = .ok (.invokestatic 40, 3) := by decide +kernel
theorem dX7_isLine_9 : decode cX7_isLine 9 = .ok (.ireturn, 1) := by decide +kernel
theorem dX7_isOn_0 : decode cX7_isOn 0 = .ok (.aload_n 0, 1) := by decide +kernel
theorem dX7_isOn_1 : decode cX7_isOn 1 = .ok (.iconst 0, 1) := by decide +kernel
theorem dX7_isOn_2 : decode cX7_isOn 2 = .ok (.iaload, 1) := by decide +kernel
theorem dX7_isOn_3 : decode cX7_isOn 3 = .ok (.ifCond .le 13, 3) := by decide +kernel
theorem dX7_isOn_6 : decode cX7_isOn 6 = .ok (.aload_n 0, 1) := by decide +kernel
theorem dX7_isOn_7 : decode cX7_isOn 7 = .ok (.iconst 4, 1) := by decide +kernel
theorem dX7_isOn_8 : decode cX7_isOn 8 = .ok (.iaload, 1) := by decide +kernel
theorem dX7_isOn_9 : decode cX7_isOn 9 = .ok (.ifCond .ne 7, 3) := by decide +kernel
theorem dX7_isOn_12 : decode cX7_isOn 12 = .ok (.iconst 1, 1) := by decide +kernel
theorem dX7_isOn_13 : decode cX7_isOn 13 = .ok (.goto 4, 3) := by decide +kernel
theorem dX7_isOn_16 : decode cX7_isOn 16 = .ok (.iconst 0, 1) := by decide +kernel
theorem dX7_isOn_17 : decode cX7_isOn 17 = .ok (.ireturn, 1) := by decide +kernel
theorem dX7_drawn_0 : decode cX7_drawn 0 = .ok (.aload_n 0, 1) := by decide +kernel
theorem dX7_drawn_1 : decode cX7_drawn 1 = .ok (.aload_n 0, 1) := by decide +kernel
theorem dX7_drawn_2 : decode cX7_drawn 2 = .ok (.getfield 48, 3) := by decide +kernel
theorem dX7_drawn_5 : decode cX7_drawn 5 = .ok (.ldc2_w 52, 3) := by decide +kernel
theorem dX7_drawn_8 : decode cX7_drawn 8 = .ok (.lmul, 1) := by decide +kernel
theorem dX7_drawn_9 : decode cX7_drawn 9 = .ok (.ldc2_w 54, 3) := by decide +kernel
theorem dX7_drawn_12 : decode cX7_drawn 12 = .ok (.ladd, 1) := by decide +kernel
theorem dX7_drawn_13 : decode cX7_drawn 13 = .ok (.putfield 48, 3) := by decide +kernel
theorem dX7_drawn_16 : decode cX7_drawn 16 = .ok (.aload_n 0, 1) := by decide +kernel
theorem dX7_drawn_17 : decode cX7_drawn 17 = .ok (.getfield 48, 3) := by decide +kernel
theorem dX7_drawn_20 : decode cX7_drawn 20 = .ok (.bipush 33, 2) := by decide +kernel
theorem dX7_drawn_22 : decode cX7_drawn 22 = .ok (.lushr, 1) := by decide +kernel
theorem dX7_drawn_23 : decode cX7_drawn 23 = .ok (.l2i, 1) := by decide +kernel
theorem dX7_drawn_24 : decode cX7_drawn 24 = .ok (.iload_n 1, 1) := by decide +kernel
theorem dX7_drawn_25 : decode cX7_drawn 25 = .ok (.irem, 1) := by decide +kernel
theorem dX7_drawn_26 : decode cX7_drawn 26 = .ok (.ireturn, 1) := by decide +kernel
set_option maxRecDepth 20000 in
theorem ggX7_deal_X7_at : GoodIn wsX7_deal wsX7_at := goodIn_r _ [4] (by decide +kernel) (by decide +kernel)
set_option maxRecDepth 20000 in
theorem gX7_deal_X7_at : GoodIn wsX7_deal (va_wsS RX7 56 yX7_at wsX7_at) := goodIn_app (goodIn_of _ (by decide +kernel)) ggX7_deal_X7_at
set_option maxRecDepth 20000 in
theorem ggX7_deal_X7_drawn : GoodIn wsX7_deal wsX7_drawn := goodIn_r _ [8, 9, 10, 11, 12, 13, 14, 15, 16, 17, 18, 19, 20, 21, 22, 23, 24, 25, 26, 27] (by decide +kernel) (by decide +kernel)
set_option maxRecDepth 20000 in
theorem gX7_deal_X7_drawn : GoodIn wsX7_deal (wsV RX7 60 RX7 yX7_drawn wsX7_drawn) := goodIn_app (goodIn_of _ (by decide +kernel)) ggX7_deal_X7_drawn
theorem dX7_deal_0 : decode cX7_deal 0 = .ok (.iload_n 2, 1) := by decide +kernel
theorem dX7_deal_1 : decode cX7_deal 1 = .ok (.invokestatic 56, 3) := by decide +kernel
theorem dX7_deal_4 : decode cX7_deal 4 = .ok (.istore_n 3, 1) := by decide +kernel
theorem dX7_deal_5 : decode cX7_deal 5 = .ok (.iconst 0, 1) := by decide +kernel
theorem dX7_deal_6 : decode cX7_deal 6 = .ok (.istore 4, 2) := by decide +kernel
theorem dX7_deal_8 : decode cX7_deal 8 = .ok (.iload 4, 2) := by decide +kernel
theorem dX7_deal_10 : decode cX7_deal 10 = .ok (.bipush 28, 2) := by decide +kernel
theorem dX7_deal_12 : decode cX7_deal 12 = .ok (.if_icmp .ge 16, 3) := by decide +kernel
theorem dX7_deal_15 : decode cX7_deal 15 = .ok (.aload_n 1, 1) := by decide +kernel
theorem dX7_deal_16 : decode cX7_deal 16 = .ok (.iload_n 3, 1) := by decide +kernel
theorem dX7_deal_17 : decode cX7_deal 17 = .ok (.iload 4, 2) := by decide +kernel
theorem dX7_deal_19 : decode cX7_deal 19 = .ok (.iadd, 1) := by decide +kernel
theorem dX7_deal_20 : decode cX7_deal 20 = .ok (.iconst 0, 1) := by decide +kernel
theorem dX7_deal_21 : decode cX7_deal 21 = .ok (.iastore, 1) := by decide +kernel
theorem dX7_deal_22 : decode cX7_deal 22 = .ok (.iinc 4 1, 3) := by decide +kernel
theorem dX7_deal_25 : decode cX7_deal 25 = .ok (.goto (-17), 3) := by decide +kernel
theorem dX7_deal_28 : decode cX7_deal 28 = .ok (.iconst 0, 1) := by decide +kernel
theorem dX7_deal_29 : decode cX7_deal 29 = .ok (.istore 4, 2) := by decide +kernel
theorem dX7_deal_31 : decode cX7_deal 31 = .ok (.iload 4, 2) := by decide +kernel
theorem dX7_deal_33 : decode cX7_deal 33 = .ok (.bipush 9, 2) := by decide +kernel
theorem dX7_deal_35 : decode cX7_deal 35 = .ok (.if_icmp .ge 25, 3) := by decide +kernel
theorem dX7_deal_38 : decode cX7_deal 38 = .ok (.aload_n 1, 1) := by decide +kernel
theorem dX7_deal_39 : decode cX7_deal 39 = .ok (.iload_n 3, 1) := by decide +kernel
theorem dX7_deal_40 : decode cX7_deal 40 = .ok (.iconst 0, 1) := by decide +kernel
theorem dX7_deal_41 : decode cX7_deal 41 = .ok (.iadd, 1) := by decide +kernel
theorem dX7_deal_42 : decode cX7_deal 42 = .ok (.iload 4, 2) := by decide +kernel
theorem dX7_deal_44 : decode cX7_deal 44 = .ok (.iadd, 1) := by decide +kernel
theorem dX7_deal_45 : decode cX7_deal 45 = .ok (.iconst 1, 1) := by decide +kernel
theorem dX7_deal_46 : decode cX7_deal 46 = .ok (.aload_n 0, 1) := by decide +kernel
theorem dX7_deal_47 : decode cX7_deal 47 = .ok (.bipush 15, 2) := by decide +kernel
theorem dX7_deal_49 : decode cX7_deal 49 = .ok (.invokevirtual 60, 3) := by decide +kernel
theorem dX7_deal_52 : decode cX7_deal 52 = .ok (.iadd, 1) := by decide +kernel
theorem dX7_deal_53 : decode cX7_deal 53 = .ok (.iastore, 1) := by decide +kernel
theorem dX7_deal_54 : decode cX7_deal 54 = .ok (.iinc 4 1, 3) := by decide +kernel
theorem dX7_deal_57 : decode cX7_deal 57 = .ok (.goto (-26), 3) := by decide +kernel
theorem dX7_deal_60 : decode cX7_deal 60 = .ok (.iconst 1, 1) := by decide +kernel
theorem dX7_deal_61 : decode cX7_deal 61 = .ok (.istore 4, 2) := by decide +kernel
theorem dX7_deal_63 : decode cX7_deal 63 = .ok (.iload 4, 2) := by decide +kernel
theorem dX7_deal_65 : decode cX7_deal 65 = .ok (.iconst 5, 1) := by decide +kernel
theorem dX7_deal_66 : decode cX7_deal 66 = .ok (.if_icmp .gt 65, 3) := by decide +kernel
theorem dX7_deal_69 : decode cX7_deal 69 = .ok (.aload_n 0, 1) := by decide +kernel
theorem dX7_deal_70 : decode cX7_deal 70 = .ok (.bipush 9, 2) := by decide +kernel
theorem dX7_deal_72 : decode cX7_deal 72 = .ok (.invokevirtual 60, 3) := by decide +kernel
theorem dX7_deal_75 : decode cX7_deal 75 = .ok (.istore 5, 2) := by decide +kernel
theorem dX7_deal_77 : decode cX7_deal 77 = .ok (.aload_n 1, 1) := by decide +kernel
theorem dX7_deal_78 : decode cX7_deal 78 = .ok (.iload_n 3, 1) := by decide +kernel
theorem dX7_deal_79 : decode cX7_deal 79 = .ok (.bipush 9, 2) := by decide +kernel
theorem dX7_deal_81 : decode cX7_deal 81 = .ok (.iadd, 1) := by decide +kernel
theorem dX7_deal_82 : decode cX7_deal 82 = .ok (.iload 5, 2) := by decide +kernel
theorem dX7_deal_84 : decode cX7_deal 84 = .ok (.iadd, 1) := by decide +kernel
theorem dX7_deal_85 : decode cX7_deal 85 = .ok (.iaload, 1) := by decide +kernel
theorem dX7_deal_86 : decode cX7_deal 86 = .ok (.ifCond .le 15, 3) := by decide +kernel
theorem dX7_deal_89 : decode cX7_deal 89 = .ok (.iload 5, 2) := by decide +kernel
theorem dX7_deal_91 : decode cX7_deal 91 = .ok (.iconst 1, 1) := by decide +kernel
theorem dX7_deal_92 : decode cX7_deal 92 = .ok (.iadd, 1) := by decide +kernel
theorem dX7_deal_93 : decode cX7_deal 93 = .ok (.bipush 9, 2) := by decide +kernel
theorem dX7_deal_95 : decode cX7_deal 95 = .ok (.irem, 1) := by decide +kernel
theorem dX7_deal_96 : decode cX7_deal 96 = .ok (.istore 5, 2) := by decide +kernel
theorem dX7_deal_98 : decode cX7_deal 98 = .ok (.goto (-21), 3) := by decide +kernel
theorem dX7_deal_101 : decode cX7_deal 101 = .ok (.aload_n 1, 1) := by decide +kernel
theorem dX7_deal_102 : decode cX7_deal 102 = .ok (.iload_n 3, 1) := by decide +kernel
theorem dX7_deal_103 : decode cX7_deal 103 = .ok (.bipush 9, 2) := by decide +kernel
theorem dX7_deal_105 : decode cX7_deal 105 = .ok (.iadd, 1) := by decide +kernel
theorem dX7_deal_106 : decode cX7_deal 106 = .ok (.iload 5, 2) := by decide +kernel
theorem dX7_deal_108 : decode cX7_deal 108 = .ok (.iadd, 1) := by decide +kernel
theorem dX7_deal_109 : decode cX7_deal 109 = .ok (.iload 4, 2) := by decide +kernel
theorem dX7_deal_111 : decode cX7_deal 111 = .ok (.iastore, 1) := by decide +kernel
theorem dX7_deal_112 : decode cX7_deal 112 = .ok (.aload_n 1, 1) := by decide +kernel
theorem dX7_deal_113 : decode cX7_deal 113 = .ok (.iload_n 3, 1) := by decide +kernel
theorem dX7_deal_114 : decode cX7_deal 114 = .ok (.bipush 18, 2) := by decide +kernel
theorem dX7_deal_116 : decode cX7_deal 116 = .ok (.iadd, 1) := by decide +kernel
theorem dX7_deal_117 : decode cX7_deal 117 = .ok (.iload 4, 2) := by decide +kernel
theorem dX7_deal_119 : decode cX7_deal 119 = .ok (.iadd, 1) := by decide +kernel
theorem dX7_deal_120 : decode cX7_deal 120 = .ok (.iconst 1, 1) := by decide +kernel
theorem dX7_deal_121 : decode cX7_deal 121 = .ok (.isub, 1) := by decide +kernel
theorem dX7_deal_122 : decode cX7_deal 122 = .ok (.iload 4, 2) := by decide +kernel
theorem dX7_deal_124 : decode cX7_deal 124 = .ok (.iastore, 1) := by decide +kernel
theorem dX7_deal_125 : decode cX7_deal 125 = .ok (.iinc 4 1, 3) := by decide +kernel
theorem dX7_deal_128 : decode cX7_deal 128 = .ok (.goto (-65), 3) := by decide +kernel
theorem dX7_deal_131 : decode cX7_deal 131 = .ok (.iconst 4, 1) := by decide +kernel
theorem dX7_deal_132 : decode cX7_deal 132 = .ok (.istore 4, 2) := by decide +kernel
theorem dX7_deal_134 : decode cX7_deal 134 = .ok (.iload 4, 2) := by decide +kernel
theorem dX7_deal_136 : decode cX7_deal 136 = .ok (.ifCond .le 59, 3) := by decide +kernel
theorem dX7_deal_139 : decode cX7_deal 139 = .ok (.aload_n 0, 1) := by decide +kernel
theorem dX7_deal_140 : decode cX7_deal 140 = .ok (.iload 4, 2) := by decide +kernel
theorem dX7_deal_142 : decode cX7_deal 142 = .ok (.iconst 1, 1) := by decide +kernel
theorem dX7_deal_143 : decode cX7_deal 143 = .ok (.iadd, 1) := by decide +kernel
theorem dX7_deal_144 : decode cX7_deal 144 = .ok (.invokevirtual 60, 3) := by decide +kernel
theorem dX7_deal_147 : decode cX7_deal 147 = .ok (.istore 5, 2) := by decide +kernel
theorem dX7_deal_149 : decode cX7_deal 149 = .ok (.aload_n 1, 1) := by decide +kernel
theorem dX7_deal_150 : decode cX7_deal 150 = .ok (.iload_n 3, 1) := by decide +kernel
theorem dX7_deal_151 : decode cX7_deal 151 = .ok (.bipush 18, 2) := by decide +kernel
theorem dX7_deal_153 : decode cX7_deal 153 = .ok (.iadd, 1) := by decide +kernel
theorem dX7_deal_154 : decode cX7_deal 154 = .ok (.iload 4, 2) := by decide +kernel
theorem dX7_deal_156 : decode cX7_deal 156 = .ok (.iadd, 1) := by decide +kernel
theorem dX7_deal_157 : decode cX7_deal 157 = .ok (.iaload, 1) := by decide +kernel
theorem dX7_deal_158 : decode cX7_deal 158 = .ok (.istore 6, 2) := by decide +kernel
theorem dX7_deal_160 : decode cX7_deal 160 = .ok (.aload_n 1, 1) := by decide +kernel
theorem dX7_deal_161 : decode cX7_deal 161 = .ok (.iload_n 3, 1) := by decide +kernel
theorem dX7_deal_162 : decode cX7_deal 162 = .ok (.bipush 18, 2) := by decide +kernel
theorem dX7_deal_164 : decode cX7_deal 164 = .ok (.iadd, 1) := by decide +kernel
theorem dX7_deal_165 : decode cX7_deal 165 = .ok (.iload 4, 2) := by decide +kernel
theorem dX7_deal_167 : decode cX7_deal 167 = .ok (.iadd, 1) := by decide +kernel
theorem dX7_deal_168 : decode cX7_deal 168 = .ok (.aload_n 1, 1) := by decide +kernel
theorem dX7_deal_169 : decode cX7_deal 169 = .ok (.iload_n 3, 1) := by decide +kernel
theorem dX7_deal_170 : decode cX7_deal 170 = .ok (.bipush 18, 2) := by decide +kernel
theorem dX7_deal_172 : decode cX7_deal 172 = .ok (.iadd, 1) := by decide +kernel
theorem dX7_deal_173 : decode cX7_deal 173 = .ok (.iload 5, 2) := by decide +kernel
theorem dX7_deal_175 : decode cX7_deal 175 = .ok (.iadd, 1) := by decide +kernel
theorem dX7_deal_176 : decode cX7_deal 176 = .ok (.iaload, 1) := by decide +kernel
theorem dX7_deal_177 : decode cX7_deal 177 = .ok (.iastore, 1) := by decide +kernel
theorem dX7_deal_178 : decode cX7_deal 178 = .ok (.aload_n 1, 1) := by decide +kernel
theorem dX7_deal_179 : decode cX7_deal 179 = .ok (.iload_n 3, 1) := by decide +kernel
theorem dX7_deal_180 : decode cX7_deal 180 = .ok (.bipush 18, 2) := by decide +kernel
theorem dX7_deal_182 : decode cX7_deal 182 = .ok (.iadd, 1) := by decide +kernel
theorem dX7_deal_183 : decode cX7_deal 183 = .ok (.iload 5, 2) := by decide +kernel
theorem dX7_deal_185 : decode cX7_deal 185 = .ok (.iadd, 1) := by decide +kernel
theorem dX7_deal_186 : decode cX7_deal 186 = .ok (.iload 6, 2) := by decide +kernel
theorem dX7_deal_188 : decode cX7_deal 188 = .ok (.iastore, 1) := by decide +kernel
theorem dX7_deal_189 : decode cX7_deal 189 = .ok (.iinc 4 (-1), 3) := by decide +kernel
theorem dX7_deal_192 : decode cX7_deal 192 = .ok (.goto (-58), 3) := by decide +kernel
theorem dX7_deal_195 : decode cX7_deal 195 = .ok (.aload_n 1, 1) := by decide +kernel
theorem dX7_deal_196 : decode cX7_deal 196 = .ok (.iload_n 3, 1) := by decide +kernel
theorem dX7_deal_197 : decode cX7_deal 197 = .ok (.bipush 24, 2) := by decide +kernel
theorem dX7_deal_199 : decode cX7_deal 199 = .ok (.iadd, 1) := by decide +kernel
theorem dX7_deal_200 : decode cX7_deal 200 = .ok (.iconst 4, 1) := by decide +kernel
theorem dX7_deal_201 : decode cX7_deal 201 = .ok (.iastore, 1) := by decide +kernel
theorem dX7_deal_202 : decode cX7_deal 202 = .ok (.aload_n 1, 1) := by decide +kernel
theorem dX7_deal_203 : decode cX7_deal 203 = .ok (.iload_n 3, 1) := by decide +kernel
theorem dX7_deal_204 : decode cX7_deal 204 = .ok (.bipush 25, 2) := by decide +kernel
theorem dX7_deal_206 : decode cX7_deal 206 = .ok (.iadd, 1) := by decide +kernel
theorem dX7_deal_207 : decode cX7_deal 207 = .ok (.iconst (-1), 1) := by decide +kernel
theorem dX7_deal_208 : decode cX7_deal 208 = .ok (.iastore, 1) := by decide +kernel
theorem dX7_deal_209 : decode cX7_deal 209 = .ok (.aload_n 1, 1) := by decide +kernel
theorem dX7_deal_210 : decode cX7_deal 210 = .ok (.iload_n 3, 1) := by decide +kernel
theorem dX7_deal_211 : decode cX7_deal 211 = .ok (.bipush 26, 2) := by decide +kernel
theorem dX7_deal_213 : decode cX7_deal 213 = .ok (.iadd, 1) := by decide +kernel
theorem dX7_deal_214 : decode cX7_deal 214 = .ok (.iconst (-1), 1) := by decide +kernel
theorem dX7_deal_215 : decode cX7_deal 215 = .ok (.iastore, 1) := by decide +kernel
theorem dX7_deal_216 : decode cX7_deal 216 = .ok (.aload_n 1, 1) := by decide +kernel
theorem dX7_deal_217 : decode cX7_deal 217 = .ok (.iload_n 3, 1) := by decide +kernel
theorem dX7_deal_218 : decode cX7_deal 218 = .ok (.bipush 27, 2) := by decide +kernel
theorem dX7_deal_220 : decode cX7_deal 220 = .ok (.iadd, 1) := by decide +kernel
theorem dX7_deal_221 : decode cX7_deal 221 = .ok (.iconst (-1), 1) := by decide +kernel
theorem dX7_deal_222 : decode cX7_deal 222 = .ok (.iastore, 1) := by decide +kernel
theorem dX7_deal_223 : decode cX7_deal 223 = .ok (.return_, 1) := by decide +kernel
set_option maxRecDepth 20000 in
theorem ggX7_beginOn_X7_deal : GoodIn wsX7_beginOn wsX7_deal := goodIn_r _ [6, 7, 8, 5, 9, 10, 11, 12, 13, 1, 14, 15, 19, 20, 21, 22, 23, 24, 25, 26, 27, 28, 29, 30, 31, 32, 33, 34] (by decide +kernel) (by decide +kernel)
set_option maxRecDepth 20000 in
theorem gX7_beginOn_X7_deal : GoodIn wsX7_beginOn (wsV RX7 63 RX7 yX7_deal wsX7_deal) := goodIn_app (goodIn_of _ (by decide +kernel)) ggX7_beginOn_X7_deal
set_option maxRecDepth 20000 in
theorem ggX7_beginOn_X7_at : GoodIn wsX7_beginOn wsX7_at := goodIn_r _ [9] (by decide +kernel) (by decide +kernel)
set_option maxRecDepth 20000 in
theorem gX7_beginOn_X7_at : GoodIn wsX7_beginOn (va_wsS RX7 56 yX7_at wsX7_at) := goodIn_app (goodIn_of _ (by decide +kernel)) ggX7_beginOn_X7_at
set_option maxRecDepth 20000 in
theorem ggX7_beginOn_X7_sought : GoodIn wsX7_beginOn wsX7_sought := goodIn_r _ [18, 7, 8, 5, 9] (by decide +kernel) (by decide +kernel)
set_option maxRecDepth 20000 in
theorem gX7_beginOn_X7_sought : GoodIn wsX7_beginOn (va_wsS RX7 67 yX7_sought wsX7_sought) := goodIn_app (goodIn_of _ (by decide +kernel)) ggX7_beginOn_X7_sought
theorem dX7_beginOn_0 : decode cX7_beginOn 0 = .ok (.aload_n 0, 1) := by decide +kernel
theorem dX7_beginOn_1 : decode cX7_beginOn 1 = .ok (.lload_n 3, 1) := by decide +kernel
theorem dX7_beginOn_2 : decode cX7_beginOn 2 = .ok (.putfield 48, 3) := by decide +kernel
theorem dX7_beginOn_5 : decode cX7_beginOn 5 = .ok (.aload_n 1, 1) := by decide +kernel
theorem dX7_beginOn_6 : decode cX7_beginOn 6 = .ok (.iconst 0, 1) := by decide +kernel
theorem dX7_beginOn_7 : decode cX7_beginOn 7 = .ok (.iload_n 2, 1) := by decide +kernel
theorem dX7_beginOn_8 : decode cX7_beginOn 8 = .ok (.iastore, 1) := by decide +kernel
theorem dX7_beginOn_9 : decode cX7_beginOn 9 = .ok (.aload_n 1, 1) := by decide +kernel
theorem dX7_beginOn_10 : decode cX7_beginOn 10 = .ok (.iconst 1, 1) := by decide +kernel
theorem dX7_beginOn_11 : decode cX7_beginOn 11 = .ok (.iconst 0, 1) := by decide +kernel
theorem dX7_beginOn_12 : decode cX7_beginOn 12 = .ok (.iastore, 1) := by decide +kernel
theorem dX7_beginOn_13 : decode cX7_beginOn 13 = .ok (.aload_n 1, 1) := by decide +kernel
theorem dX7_beginOn_14 : decode cX7_beginOn 14 = .ok (.iconst 2, 1) := by decide +kernel
theorem dX7_beginOn_15 : decode cX7_beginOn 15 = .ok (.iconst 0, 1) := by decide +kernel
theorem dX7_beginOn_16 : decode cX7_beginOn 16 = .ok (.iastore, 1) := by decide +kernel
theorem dX7_beginOn_17 : decode cX7_beginOn 17 = .ok (.aload_n 1, 1) := by decide +kernel
theorem dX7_beginOn_18 : decode cX7_beginOn 18 = .ok (.iconst 3, 1) := by decide +kernel
theorem dX7_beginOn_19 : decode cX7_beginOn 19 = .ok (.iconst 0, 1) := by decide +kernel
theorem dX7_beginOn_20 : decode cX7_beginOn 20 = .ok (.iastore, 1) := by decide +kernel
theorem dX7_beginOn_21 : decode cX7_beginOn 21 = .ok (.aload_n 1, 1) := by decide +kernel
theorem dX7_beginOn_22 : decode cX7_beginOn 22 = .ok (.iconst 4, 1) := by decide +kernel
theorem dX7_beginOn_23 : decode cX7_beginOn 23 = .ok (.iconst 0, 1) := by decide +kernel
theorem dX7_beginOn_24 : decode cX7_beginOn 24 = .ok (.iastore, 1) := by decide +kernel
theorem dX7_beginOn_25 : decode cX7_beginOn 25 = .ok (.aload_n 1, 1) := by decide +kernel
theorem dX7_beginOn_26 : decode cX7_beginOn 26 = .ok (.iconst 5, 1) := by decide +kernel
theorem dX7_beginOn_27 : decode cX7_beginOn 27 = .ok (.iconst (-1), 1) := by decide +kernel
theorem dX7_beginOn_28 : decode cX7_beginOn 28 = .ok (.iastore, 1) := by decide +kernel
theorem dX7_beginOn_29 : decode cX7_beginOn 29 = .ok (.iconst 0, 1) := by decide +kernel
theorem dX7_beginOn_30 : decode cX7_beginOn 30 = .ok (.istore 5, 2) := by decide +kernel
theorem dX7_beginOn_32 : decode cX7_beginOn 32 = .ok (.iload 5, 2) := by decide +kernel
theorem dX7_beginOn_34 : decode cX7_beginOn 34 = .ok (.iload_n 2, 1) := by decide +kernel
theorem dX7_beginOn_35 : decode cX7_beginOn 35 = .ok (.if_icmp .ge 16, 3) := by decide +kernel
theorem dX7_beginOn_38 : decode cX7_beginOn 38 = .ok (.aload_n 0, 1) := by decide +kernel
theorem dX7_beginOn_39 : decode cX7_beginOn 39 = .ok (.aload_n 1, 1) := by decide +kernel
theorem dX7_beginOn_40 : decode cX7_beginOn 40 = .ok (.iload 5, 2) := by decide +kernel
theorem dX7_beginOn_42 : decode cX7_beginOn 42 = .ok (.invokevirtual 63, 3) := by decide +kernel
theorem dX7_beginOn_45 : decode cX7_beginOn 45 = .ok (.iinc 5 1, 3) := by decide +kernel
theorem dX7_beginOn_48 : decode cX7_beginOn 48 = .ok (.goto (-16), 3) := by decide +kernel
theorem dX7_beginOn_51 : decode cX7_beginOn 51 = .ok (.iload_n 2, 1) := by decide +kernel
theorem dX7_beginOn_52 : decode cX7_beginOn 52 = .ok (.invokestatic 56, 3) := by decide +kernel
theorem dX7_beginOn_55 : decode cX7_beginOn 55 = .ok (.istore 5, 2) := by decide +kernel
theorem dX7_beginOn_57 : decode cX7_beginOn 57 = .ok (.iload 5, 2) := by decide +kernel
theorem dX7_beginOn_59 : decode cX7_beginOn 59 = .ok (.bipush 121, 2) := by decide +kernel
theorem dX7_beginOn_61 : decode cX7_beginOn 61 = .ok (.if_icmp .ge 14, 3) := by decide +kernel
theorem dX7_beginOn_64 : decode cX7_beginOn 64 = .ok (.aload_n 1, 1) := by decide +kernel
theorem dX7_beginOn_65 : decode cX7_beginOn 65 = .ok (.iload 5, 2) := by decide +kernel
theorem dX7_beginOn_67 : decode cX7_beginOn 67 = .ok (.iconst 0, 1) := by decide +kernel
theorem dX7_beginOn_68 : decode cX7_beginOn 68 = .ok (.iastore, 1) := by decide +kernel
theorem dX7_beginOn_69 : decode cX7_beginOn 69 = .ok (.iinc 5 1, 3) := by decide +kernel
theorem dX7_beginOn_72 : decode cX7_beginOn 72 = .ok (.goto (-15), 3) := by decide +kernel
theorem dX7_beginOn_75 : decode cX7_beginOn 75 = .ok (.aload_n 1, 1) := by decide +kernel
theorem dX7_beginOn_76 : decode cX7_beginOn 76 = .ok (.iconst 0, 1) := by decide +kernel
theorem dX7_beginOn_77 : decode cX7_beginOn 77 = .ok (.invokestatic 67, 3) := by decide +kernel
theorem dX7_beginOn_80 : decode cX7_beginOn 80 = .ok (.ireturn, 1) := by decide +kernel
set_option maxRecDepth 20000 in
theorem ggX7_sought_X7_at : GoodIn wsX7_sought wsX7_at := goodIn_r _ [4] (by decide +kernel) (by decide +kernel)
set_option maxRecDepth 20000 in
theorem gX7_sought_X7_at : GoodIn wsX7_sought (va_wsS RX7 56 yX7_at wsX7_at) := goodIn_app (goodIn_of _ (by decide +kernel)) ggX7_sought_X7_at
theorem dX7_sought_0 : decode cX7_sought 0 = .ok (.aload_n 0, 1) := by decide +kernel
theorem dX7_sought_1 : decode cX7_sought 1 = .ok (.iload_n 1, 1) := by decide +kernel
theorem dX7_sought_2 : decode cX7_sought 2 = .ok (.invokestatic 56, 3) := by decide +kernel
theorem dX7_sought_5 : decode cX7_sought 5 = .ok (.bipush 23, 2) := by decide +kernel
theorem dX7_sought_7 : decode cX7_sought 7 = .ok (.iadd, 1) := by decide +kernel
theorem dX7_sought_8 : decode cX7_sought 8 = .ok (.iaload, 1) := by decide +kernel
theorem dX7_sought_9 : decode cX7_sought 9 = .ok (.istore_n 2, 1) := by decide +kernel
theorem dX7_sought_10 : decode cX7_sought 10 = .ok (.iload_n 2, 1) := by decide +kernel
theorem dX7_sought_11 : decode cX7_sought 11 = .ok (.iconst 5, 1) := by decide +kernel
theorem dX7_sought_12 : decode cX7_sought 12 = .ok (.if_icmp .ne 7, 3) := by decide +kernel
theorem dX7_sought_15 : decode cX7_sought 15 = .ok (.iconst (-1), 1) := by decide +kernel
theorem dX7_sought_16 : decode cX7_sought 16 = .ok (.goto 14, 3) := by decide +kernel
theorem dX7_sought_19 : decode cX7_sought 19 = .ok (.aload_n 0, 1) := by decide +kernel
theorem dX7_sought_20 : decode cX7_sought 20 = .ok (.iload_n 1, 1) := by decide +kernel
theorem dX7_sought_21 : decode cX7_sought 21 = .ok (.invokestatic 56, 3) := by decide +kernel
theorem dX7_sought_24 : decode cX7_sought 24 = .ok (.bipush 18, 2) := by decide +kernel
theorem dX7_sought_26 : decode cX7_sought 26 = .ok (.iadd, 1) := by decide +kernel
theorem dX7_sought_27 : decode cX7_sought 27 = .ok (.iload_n 2, 1) := by decide +kernel
theorem dX7_sought_28 : decode cX7_sought 28 = .ok (.iadd, 1) := by decide +kernel
theorem dX7_sought_29 : decode cX7_sought 29 = .ok (.iaload, 1) := by decide +kernel
theorem dX7_sought_30 : decode cX7_sought 30 = .ok (.ireturn, 1) := by decide +kernel
set_option maxRecDepth 20000 in
theorem ggX7_placeOfSought_X7_sought : GoodIn wsX7_placeOfSought wsX7_sought := goodIn_r _ [4, 5, 6, 3, 7] (by decide +kernel) (by decide +kernel)
set_option maxRecDepth 20000 in
theorem gX7_placeOfSought_X7_sought : GoodIn wsX7_placeOfSought (va_wsS RX7 67 yX7_sought wsX7_sought) := goodIn_app (goodIn_of _ (by decide +kernel)) ggX7_placeOfSought_X7_sought
set_option maxRecDepth 20000 in
theorem ggX7_placeOfSought_X7_at : GoodIn wsX7_placeOfSought wsX7_at := goodIn_r _ [7] (by decide +kernel) (by decide +kernel)
set_option maxRecDepth 20000 in
theorem gX7_placeOfSought_X7_at : GoodIn wsX7_placeOfSought (va_wsS RX7 56 yX7_at wsX7_at) := goodIn_app (goodIn_of _ (by decide +kernel)) ggX7_placeOfSought_X7_at
theorem dX7_placeOfSought_0 : decode cX7_placeOfSought 0 = .ok (.aload_n 0, 1) := by decide +kernel
theorem dX7_placeOfSought_1 : decode cX7_placeOfSought 1 = .ok (.iload_n 1, 1) := by decide +kernel
theorem dX7_placeOfSought_2 : decode cX7_placeOfSought 2 = .ok (.invokestatic 67, 3) := by decide +kernel
theorem dX7_placeOfSought_5 : decode cX7_placeOfSought 5 = .ok (.istore_n 2, 1) := by decide +kernel
theorem dX7_placeOfSought_6 : decode cX7_placeOfSought 6 = .ok (.iconst 0, 1) := by decide +kernel
theorem dX7_placeOfSought_7 : decode cX7_placeOfSought 7 = .ok (.istore_n 3, 1) := by decide +kernel
theorem dX7_placeOfSought_8 : decode cX7_placeOfSought 8 = .ok (.iload_n 3, 1) := by decide +kernel
theorem dX7_placeOfSought_9 : decode cX7_placeOfSought 9 = .ok (.bipush 9, 2) := by decide +kernel
theorem dX7_placeOfSought_11 : decode cX7_placeOfSought 11 = .ok (.if_icmp .ge 31, 3) := by decide +kernel
theorem dX7_placeOfSought_14 : decode cX7_placeOfSought 14 = .ok (.iload_n 2, 1) := by decide +kernel
theorem dX7_placeOfSought_15 : decode cX7_placeOfSought 15 = .ok (.iconst (-1), 1) := by decide +kernel
theorem dX7_placeOfSought_16 : decode cX7_placeOfSought 16 = .ok (.if_icmp .eq 20, 3) := by decide +kernel
theorem dX7_placeOfSought_19 : decode cX7_placeOfSought 19 = .ok (.aload_n 0, 1) := by decide +kernel
theorem dX7_placeOfSought_20 : decode cX7_placeOfSought 20 = .ok (.iload_n 1, 1) := by decide +kernel
theorem dX7_placeOfSought_21 : decode cX7_placeOfSought 21 = .ok (.invokestatic 56, 3) := by decide +kernel
theorem dX7_placeOfSought_24 : decode cX7_placeOfSought 24 = .ok (.bipush 9, 2) := by decide +kernel
theorem dX7_placeOfSought_26 : decode cX7_placeOfSought 26 = .ok (.iadd, 1) := by decide +kernel
theorem dX7_placeOfSought_27 : decode cX7_placeOfSought 27 = .ok (.iload_n 3, 1) := by decide +kernel
theorem dX7_placeOfSought_28 : decode cX7_placeOfSought 28 = .ok (.iadd, 1) := by decide +kernel
theorem dX7_placeOfSought_29 : decode cX7_placeOfSought 29 = .ok (.iaload, 1) := by decide +kernel
theorem dX7_placeOfSought_30 : decode cX7_placeOfSought 30 = .ok (.iload_n 2, 1) := by decide +kernel
theorem dX7_placeOfSought_31 : decode cX7_placeOfSought 31 = .ok (.if_icmp .ne 5, 3) := by decide +kernel
theorem dX7_placeOfSought_34 : decode cX7_placeOfSought 34 = .ok (.iload_n 3, 1) := by decide +kernel
theorem dX7_placeOfSought_35 : decode cX7_placeOfSought 35 = .ok (.ireturn, 1) := by decide +kernel
theorem dX7_placeOfSought_36 : decode cX7_placeOfSought 36 = .ok (.iinc 3 1, 3) := by decide +kernel
theorem dX7_placeOfSought_39 : decode cX7_placeOfSought 39 = .ok (.goto (-31), 3) := by decide +kernel
theorem dX7_placeOfSought_42 : decode cX7_placeOfSought 42 = .ok (.iconst (-1), 1) := by decide +kernel
theorem dX7_placeOfSought_43 : decode cX7_placeOfSought 43 = .ok (.ireturn, 1) := by decide +kernel
set_option maxRecDepth 20000 in
theorem ggX7_joins_X7_at : GoodIn wsX7_joins wsX7_at := goodIn_r _ [4] (by decide +kernel) (by decide +kernel)
set_option maxRecDepth 20000 in
theorem gX7_joins_X7_at : GoodIn wsX7_joins (va_wsS RX7 56 yX7_at wsX7_at) := goodIn_app (goodIn_of _ (by decide +kernel)) ggX7_joins_X7_at
set_option maxRecDepth 20000 in
theorem ggX7_joins_X7_joinsBack : GoodIn wsX7_joins wsX7_joinsBack := goodIn_r _ [7, 1, 2, 3, 4] (by decide +kernel) (by decide +kernel)
set_option maxRecDepth 20000 in
theorem gX7_joins_X7_joinsBack : GoodIn wsX7_joins (va_wsS RX7 71 yX7_joinsBack wsX7_joinsBack) := goodIn_app (goodIn_of _ (by decide +kernel)) ggX7_joins_X7_joinsBack
theorem dX7_joins_0 : decode cX7_joins 0 = .ok (.aload_n 0, 1) := by decide +kernel
theorem dX7_joins_1 : decode cX7_joins 1 = .ok (.iload_n 1, 1) := by decide +kernel
theorem dX7_joins_2 : decode cX7_joins 2 = .ok (.invokestatic 56, 3) := by decide +kernel
theorem dX7_joins_5 : decode cX7_joins 5 = .ok (.iconst 0, 1) := by decide +kernel
theorem dX7_joins_6 : decode cX7_joins 6 = .ok (.iadd, 1) := by decide +kernel
theorem dX7_joins_7 : decode cX7_joins 7 = .ok (.iload_n 2, 1) := by decide +kernel
theorem dX7_joins_8 : decode cX7_joins 8 = .ok (.iadd, 1) := by decide +kernel
theorem dX7_joins_9 : decode cX7_joins 9 = .ok (.iaload, 1) := by decide +kernel
theorem dX7_joins_10 : decode cX7_joins 10 = .ok (.istore 4, 2) := by decide +kernel
theorem dX7_joins_12 : decode cX7_joins 12 = .ok (.aload_n 0, 1) := by decide +kernel
theorem dX7_joins_13 : decode cX7_joins 13 = .ok (.iload_n 1, 1) := by decide +kernel
theorem dX7_joins_14 : decode cX7_joins 14 = .ok (.invokestatic 56, 3) := by decide +kernel
theorem dX7_joins_17 : decode cX7_joins 17 = .ok (.iconst 0, 1) := by decide +kernel
theorem dX7_joins_18 : decode cX7_joins 18 = .ok (.iadd, 1) := by decide +kernel
theorem dX7_joins_19 : decode cX7_joins 19 = .ok (.iload_n 3, 1) := by decide +kernel
theorem dX7_joins_20 : decode cX7_joins 20 = .ok (.iadd, 1) := by decide +kernel
theorem dX7_joins_21 : decode cX7_joins 21 = .ok (.iaload, 1) := by decide +kernel
theorem dX7_joins_22 : decode cX7_joins 22 = .ok (.istore 5, 2) := by decide +kernel
theorem dX7_joins_24 : decode cX7_joins 24 = .ok (.iload_n 3, 1) := by decide +kernel
theorem dX7_joins_25 : decode cX7_joins 25 = .ok (.iload_n 2, 1) := by decide +kernel
theorem dX7_joins_26 : decode cX7_joins 26 = .ok (.iconst 1, 1) := by decide +kernel
theorem dX7_joins_27 : decode cX7_joins 27 = .ok (.iadd, 1) := by decide +kernel
theorem dX7_joins_28 : decode cX7_joins 28 = .ok (.if_icmp .ne 30, 3) := by decide +kernel
theorem dX7_joins_31 : decode cX7_joins 31 = .ok (.iload_n 3, 1) := by decide +kernel
theorem dX7_joins_32 : decode cX7_joins 32 = .ok (.iconst 3, 1) := by decide +kernel
theorem dX7_joins_33 : decode cX7_joins 33 = .ok (.irem, 1) := by decide +kernel
theorem dX7_joins_34 : decode cX7_joins 34 = .ok (.ifCond .le 24, 3) := by decide +kernel
theorem dX7_joins_37 : decode cX7_joins 37 = .ok (.iload 4, 2) := by decide +kernel
theorem dX7_joins_39 : decode cX7_joins 39 = .ok (.iconst 2, 1) := by decide +kernel
theorem dX7_joins_40 : decode cX7_joins 40 = .ok (.iand, 1) := by decide +kernel
theorem dX7_joins_41 : decode cX7_joins 41 = .ok (.ifCond .le 15, 3) := by decide +kernel
theorem dX7_joins_44 : decode cX7_joins 44 = .ok (.iload 5, 2) := by decide +kernel
theorem dX7_joins_46 : decode cX7_joins 46 = .ok (.bipush 8, 2) := by decide +kernel
theorem dX7_joins_48 : decode cX7_joins 48 = .ok (.iand, 1) := by decide +kernel
theorem dX7_joins_49 : decode cX7_joins 49 = .ok (.ifCond .le 7, 3) := by decide +kernel
theorem dX7_joins_52 : decode cX7_joins 52 = .ok (.iconst 1, 1) := by decide +kernel
theorem dX7_joins_53 : decode cX7_joins 53 = .ok (.goto 4, 3) := by decide +kernel
theorem dX7_joins_56 : decode cX7_joins 56 = .ok (.iconst 0, 1) := by decide +kernel
theorem dX7_joins_57 : decode cX7_joins 57 = .ok (.ireturn, 1) := by decide +kernel
theorem dX7_joins_58 : decode cX7_joins 58 = .ok (.iload_n 3, 1) := by decide +kernel
theorem dX7_joins_59 : decode cX7_joins 59 = .ok (.iload_n 2, 1) := by decide +kernel
theorem dX7_joins_60 : decode cX7_joins 60 = .ok (.iconst 3, 1) := by decide +kernel
theorem dX7_joins_61 : decode cX7_joins 61 = .ok (.iadd, 1) := by decide +kernel
theorem dX7_joins_62 : decode cX7_joins 62 = .ok (.if_icmp .ne 23, 3) := by decide +kernel
theorem dX7_joins_65 : decode cX7_joins 65 = .ok (.iload 4, 2) := by decide +kernel
theorem dX7_joins_67 : decode cX7_joins 67 = .ok (.iconst 4, 1) := by decide +kernel
theorem dX7_joins_68 : decode cX7_joins 68 = .ok (.iand, 1) := by decide +kernel
theorem dX7_joins_69 : decode cX7_joins 69 = .ok (.ifCond .le 14, 3) := by decide +kernel
theorem dX7_joins_72 : decode cX7_joins 72 = .ok (.iload 5, 2) := by decide +kernel
theorem dX7_joins_74 : decode cX7_joins 74 = .ok (.iconst 1, 1) := by decide +kernel
theorem dX7_joins_75 : decode cX7_joins 75 = .ok (.iand, 1) := by decide +kernel
theorem dX7_joins_76 : decode cX7_joins 76 = .ok (.ifCond .le 7, 3) := by decide +kernel
theorem dX7_joins_79 : decode cX7_joins 79 = .ok (.iconst 1, 1) := by decide +kernel
theorem dX7_joins_80 : decode cX7_joins 80 = .ok (.goto 4, 3) := by decide +kernel
theorem dX7_joins_83 : decode cX7_joins 83 = .ok (.iconst 0, 1) := by decide +kernel
theorem dX7_joins_84 : decode cX7_joins 84 = .ok (.ireturn, 1) := by decide +kernel
theorem dX7_joins_85 : decode cX7_joins 85 = .ok (.iload_n 3, 1) := by decide +kernel
theorem dX7_joins_86 : decode cX7_joins 86 = .ok (.iload_n 2, 1) := by decide +kernel
theorem dX7_joins_87 : decode cX7_joins 87 = .ok (.if_icmp .ge 17, 3) := by decide +kernel
theorem dX7_joins_90 : decode cX7_joins 90 = .ok (.aload_n 0, 1) := by decide +kernel
theorem dX7_joins_91 : decode cX7_joins 91 = .ok (.iload_n 1, 1) := by decide +kernel
theorem dX7_joins_92 : decode cX7_joins 92 = .ok (.iload_n 2, 1) := by decide +kernel
theorem dX7_joins_93 : decode cX7_joins 93 = .ok (.iload_n 3, 1) := by decide +kernel
theorem dX7_joins_94 : decode cX7_joins 94 = .ok (.invokestatic 71, 3) := by decide +kernel
theorem dX7_joins_97 : decode cX7_joins 97 = .ok (.ifCond .eq 7, 3) := by decide +kernel
theorem dX7_joins_100 : decode cX7_joins 100 = .ok (.iconst 1, 1) := by decide +kernel
theorem dX7_joins_101 : decode cX7_joins 101 = .ok (.goto 4, 3) := by decide +kernel
theorem dX7_joins_104 : decode cX7_joins 104 = .ok (.iconst 0, 1) := by decide +kernel
theorem dX7_joins_105 : decode cX7_joins 105 = .ok (.ireturn, 1) := by decide +kernel
set_option maxRecDepth 20000 in
theorem ggX7_joinsBack_X7_at : GoodIn wsX7_joinsBack wsX7_at := goodIn_r _ [4] (by decide +kernel) (by decide +kernel)
set_option maxRecDepth 20000 in
theorem gX7_joinsBack_X7_at : GoodIn wsX7_joinsBack (va_wsS RX7 56 yX7_at wsX7_at) := goodIn_app (goodIn_of _ (by decide +kernel)) ggX7_joinsBack_X7_at
theorem dX7_joinsBack_0 : decode cX7_joinsBack 0 = .ok (.aload_n 0, 1) := by decide +kernel
theorem dX7_joinsBack_1 : decode cX7_joinsBack 1 = .ok (.iload_n 1, 1) := by decide +kernel
theorem dX7_joinsBack_2 : decode cX7_joinsBack 2 = .ok (.invokestatic 56, 3) := by decide +kernel
theorem dX7_joinsBack_5 : decode cX7_joinsBack 5 = .ok (.iconst 0, 1) := by decide +kernel
theorem dX7_joinsBack_6 : decode cX7_joinsBack 6 = .ok (.iadd, 1) := by decide +kernel
theorem dX7_joinsBack_7 : decode cX7_joinsBack 7 = .ok (.iload_n 2, 1) := by decide +kernel
theorem dX7_joinsBack_8 : decode cX7_joinsBack 8 = .ok (.iadd, 1) := by decide +kernel
theorem dX7_joinsBack_9 : decode cX7_joinsBack 9 = .ok (.iaload, 1) := by decide +kernel
theorem dX7_joinsBack_10 : decode cX7_joinsBack 10 = .ok (.istore 4, 2) := by decide +kernel
theorem dX7_joinsBack_12 : decode cX7_joinsBack 12 = .ok (.aload_n 0, 1) := by decide +kernel
theorem dX7_joinsBack_13 : decode cX7_joinsBack 13 = .ok (.iload_n 1, 1) := by decide +kernel
theorem dX7_joinsBack_14 : decode cX7_joinsBack 14 = .ok (.invokestatic 56, 3) := by decide +kernel
theorem dX7_joinsBack_17 : decode cX7_joinsBack 17 = .ok (.iconst 0, 1) := by decide +kernel
theorem dX7_joinsBack_18 : decode cX7_joinsBack 18 = .ok (.iadd, 1) := by decide +kernel
theorem dX7_joinsBack_19 : decode cX7_joinsBack 19 = .ok (.iload_n 3, 1) := by decide +kernel
theorem dX7_joinsBack_20 : decode cX7_joinsBack 20 = .ok (.iadd, 1) := by decide +kernel
theorem dX7_joinsBack_21 : decode cX7_joinsBack 21 = .ok (.iaload, 1) := by decide +kernel
theorem dX7_joinsBack_22 : decode cX7_joinsBack 22 = .ok (.istore 5, 2) := by decide +kernel
theorem dX7_joinsBack_24 : decode cX7_joinsBack 24 = .ok (.iload_n 3, 1) := by decide +kernel
theorem dX7_joinsBack_25 : decode cX7_joinsBack 25 = .ok (.iload_n 2, 1) := by decide +kernel
theorem dX7_joinsBack_26 : decode cX7_joinsBack 26 = .ok (.iconst 1, 1) := by decide +kernel
theorem dX7_joinsBack_27 : decode cX7_joinsBack 27 = .ok (.isub, 1) := by decide +kernel
theorem dX7_joinsBack_28 : decode cX7_joinsBack 28 = .ok (.if_icmp .ne 32, 3) := by decide +kernel
theorem dX7_joinsBack_31 : decode cX7_joinsBack 31 = .ok (.iload_n 2, 1) := by decide +kernel
theorem dX7_joinsBack_32 : decode cX7_joinsBack 32 = .ok (.iconst 3, 1) := by decide +kernel
theorem dX7_joinsBack_33 : decode cX7_joinsBack 33 = .ok (.irem, 1) := by decide +kernel
theorem dX7_joinsBack_34 : decode cX7_joinsBack 34 = .ok (.ifCond .le 26, 3) := by decide +kernel
theorem dX7_joinsBack_37 : decode cX7_joinsBack 37 = .ok (.iload 4, 2) := by decide +kernel
theorem dX7_joinsBack_39 : decode cX7_joinsBack 39 = .ok (.bipush 8, 2) := by decide +kernel
theorem dX7_joinsBack_41 : decode cX7_joinsBack 41 = .ok (.iand, 1) := by decide +kernel
theorem dX7_joinsBack_42 : decode cX7_joinsBack 42 = .ok (.ifCond .le 14, 3) := by decide +kernel
theorem dX7_joinsBack_45 : decode cX7_joinsBack 45 = .ok (.iload 5, 2) := by decide +kernel
theorem dX7_joinsBack_47 : decode cX7_joinsBack 47 = .ok (.iconst 2, 1) := by decide +kernel
theorem dX7_joinsBack_48 : decode cX7_joinsBack 48 = .ok (.iand, 1) := by decide +kernel
theorem dX7_joinsBack_49 : decode cX7_joinsBack 49 = .ok (.ifCond .le 7, 3) := by decide +kernel
theorem dX7_joinsBack_52 : decode cX7_joinsBack 52 = .ok (.iconst 1, 1) := by decide +kernel
theorem dX7_joinsBack_53 : decode cX7_joinsBack 53 = .ok (.goto 33, 3) := by decide +kernel
theorem dX7_joinsBack_56 : decode cX7_joinsBack 56 = .ok (.iconst 0, 1) := by decide +kernel
theorem dX7_joinsBack_57 : decode cX7_joinsBack 57 = .ok (.goto 29, 3) := by decide +kernel
theorem dX7_joinsBack_60 : decode cX7_joinsBack 60 = .ok (.iload_n 3, 1) := by decide +kernel
theorem dX7_joinsBack_61 : decode cX7_joinsBack 61 = .ok (.iload_n 2, 1) := by decide +kernel
theorem dX7_joinsBack_62 : decode cX7_joinsBack 62 = .ok (.iconst 3, 1) := by decide +kernel
theorem dX7_joinsBack_63 : decode cX7_joinsBack 63 = .ok (.isub, 1) := by decide +kernel
theorem dX7_joinsBack_64 : decode cX7_joinsBack 64 = .ok (.if_icmp .ne 21, 3) := by decide +kernel
theorem dX7_joinsBack_67 : decode cX7_joinsBack 67 = .ok (.iload 4, 2) := by decide +kernel
theorem dX7_joinsBack_69 : decode cX7_joinsBack 69 = .ok (.iconst 1, 1) := by decide +kernel
theorem dX7_joinsBack_70 : decode cX7_joinsBack 70 = .ok (.iand, 1) := by decide +kernel
theorem dX7_joinsBack_71 : decode cX7_joinsBack 71 = .ok (.ifCond .le 14, 3) := by decide +kernel
theorem dX7_joinsBack_74 : decode cX7_joinsBack 74 = .ok (.iload 5, 2) := by decide +kernel
theorem dX7_joinsBack_76 : decode cX7_joinsBack 76 = .ok (.iconst 4, 1) := by decide +kernel
theorem dX7_joinsBack_77 : decode cX7_joinsBack 77 = .ok (.iand, 1) := by decide +kernel
theorem dX7_joinsBack_78 : decode cX7_joinsBack 78 = .ok (.ifCond .le 7, 3) := by decide +kernel
theorem dX7_joinsBack_81 : decode cX7_joinsBack 81 = .ok (.iconst 1, 1) := by decide +kernel
theorem dX7_joinsBack_82 : decode cX7_joinsBack 82 = .ok (.goto 4, 3) := by decide +kernel
theorem dX7_joinsBack_85 : decode cX7_joinsBack 85 = .ok (.iconst 0, 1) := by decide +kernel
theorem dX7_joinsBack_86 : decode cX7_joinsBack 86 = .ok (.ireturn, 1) := by decide +kernel
set_option maxRecDepth 20000 in
theorem ggX7_reach_X7_at : GoodIn wsX7_reach wsX7_at := goodIn_r _ [4] (by decide +kernel) (by decide +kernel)
set_option maxRecDepth 20000 in
theorem gX7_reach_X7_at : GoodIn wsX7_reach (va_wsS RX7 56 yX7_at wsX7_at) := goodIn_app (goodIn_of _ (by decide +kernel)) ggX7_reach_X7_at
set_option maxRecDepth 20000 in
theorem ggX7_reach_X7_joins : GoodIn wsX7_reach wsX7_joins := goodIn_r _ [7, 1, 2, 3, 4, 8, 9, 10] (by decide +kernel) (by decide +kernel)
set_option maxRecDepth 20000 in
theorem gX7_reach_X7_joins : GoodIn wsX7_reach (va_wsS RX7 75 yX7_joins wsX7_joins) := goodIn_app (goodIn_of _ (by decide +kernel)) ggX7_reach_X7_joins
theorem dX7_reach_0 : decode cX7_reach 0 = .ok (.iconst 1, 1) := by decide +kernel
theorem dX7_reach_1 : decode cX7_reach 1 = .ok (.aload_n 0, 1) := by decide +kernel
theorem dX7_reach_2 : decode cX7_reach 2 = .ok (.iload_n 1, 1) := by decide +kernel
theorem dX7_reach_3 : decode cX7_reach 3 = .ok (.invokestatic 56, 3) := by decide +kernel
theorem dX7_reach_6 : decode cX7_reach 6 = .ok (.bipush 24, 2) := by decide +kernel
theorem dX7_reach_8 : decode cX7_reach 8 = .ok (.iadd, 1) := by decide +kernel
theorem dX7_reach_9 : decode cX7_reach 9 = .ok (.iaload, 1) := by decide +kernel
theorem dX7_reach_10 : decode cX7_reach 10 = .ok (.ishl, 1) := by decide +kernel
theorem dX7_reach_11 : decode cX7_reach 11 = .ok (.istore_n 3, 1) := by decide +kernel
theorem dX7_reach_12 : decode cX7_reach 12 = .ok (.iconst 0, 1) := by decide +kernel
theorem dX7_reach_13 : decode cX7_reach 13 = .ok (.istore 4, 2) := by decide +kernel
theorem dX7_reach_15 : decode cX7_reach 15 = .ok (.iload 4, 2) := by decide +kernel
theorem dX7_reach_17 : decode cX7_reach 17 = .ok (.iload_n 2, 1) := by decide +kernel
theorem dX7_reach_18 : decode cX7_reach 18 = .ok (.if_icmp .ge 82, 3) := by decide +kernel
theorem dX7_reach_21 : decode cX7_reach 21 = .ok (.iload_n 3, 1) := by decide +kernel
theorem dX7_reach_22 : decode cX7_reach 22 = .ok (.istore 5, 2) := by decide +kernel
theorem dX7_reach_24 : decode cX7_reach 24 = .ok (.iconst 0, 1) := by decide +kernel
theorem dX7_reach_25 : decode cX7_reach 25 = .ok (.istore 6, 2) := by decide +kernel
theorem dX7_reach_27 : decode cX7_reach 27 = .ok (.iload 6, 2) := by decide +kernel
theorem dX7_reach_29 : decode cX7_reach 29 = .ok (.bipush 9, 2) := by decide +kernel
theorem dX7_reach_31 : decode cX7_reach 31 = .ok (.if_icmp .ge 60, 3) := by decide +kernel
theorem dX7_reach_34 : decode cX7_reach 34 = .ok (.iconst 0, 1) := by decide +kernel
theorem dX7_reach_35 : decode cX7_reach 35 = .ok (.istore 7, 2) := by decide +kernel
theorem dX7_reach_37 : decode cX7_reach 37 = .ok (.iload 7, 2) := by decide +kernel
theorem dX7_reach_39 : decode cX7_reach 39 = .ok (.bipush 9, 2) := by decide +kernel
theorem dX7_reach_41 : decode cX7_reach 41 = .ok (.if_icmp .ge 44, 3) := by decide +kernel
theorem dX7_reach_44 : decode cX7_reach 44 = .ok (.iload 5, 2) := by decide +kernel
theorem dX7_reach_46 : decode cX7_reach 46 = .ok (.iload_n 3, 1) := by decide +kernel
theorem dX7_reach_47 : decode cX7_reach 47 = .ok (.iload 6, 2) := by decide +kernel
theorem dX7_reach_49 : decode cX7_reach 49 = .ok (.ishr, 1) := by decide +kernel
theorem dX7_reach_50 : decode cX7_reach 50 = .ok (.iconst 1, 1) := by decide +kernel
theorem dX7_reach_51 : decode cX7_reach 51 = .ok (.iand, 1) := by decide +kernel
theorem dX7_reach_52 : decode cX7_reach 52 = .ok (.iconst 1, 1) := by decide +kernel
theorem dX7_reach_53 : decode cX7_reach 53 = .ok (.if_icmp .ne 22, 3) := by decide +kernel
theorem dX7_reach_56 : decode cX7_reach 56 = .ok (.aload_n 0, 1) := by decide +kernel
theorem dX7_reach_57 : decode cX7_reach 57 = .ok (.iload_n 1, 1) := by decide +kernel
theorem dX7_reach_58 : decode cX7_reach 58 = .ok (.iload 6, 2) := by decide +kernel
theorem dX7_reach_60 : decode cX7_reach 60 = .ok (.iload 7, 2) := by decide +kernel
theorem dX7_reach_62 : decode cX7_reach 62 = .ok (.invokestatic 75, 3) := by decide +kernel
theorem dX7_reach_65 : decode cX7_reach 65 = .ok (.ifCond .eq 10, 3) := by decide +kernel
theorem dX7_reach_68 : decode cX7_reach 68 = .ok (.iconst 1, 1) := by decide +kernel
theorem dX7_reach_69 : decode cX7_reach 69 = .ok (.iload 7, 2) := by decide +kernel
theorem dX7_reach_71 : decode cX7_reach 71 = .ok (.ishl, 1) := by decide +kernel
theorem dX7_reach_72 : decode cX7_reach 72 = .ok (.goto 4, 3) := by decide +kernel
theorem dX7_reach_75 : decode cX7_reach 75 = .ok (.iconst 0, 1) := by decide +kernel
theorem dX7_reach_76 : decode cX7_reach 76 = .ok (.ior, 1) := by decide +kernel
theorem dX7_reach_77 : decode cX7_reach 77 = .ok (.istore 5, 2) := by decide +kernel
theorem dX7_reach_79 : decode cX7_reach 79 = .ok (.iinc 7 1, 3) := by decide +kernel
theorem dX7_reach_82 : decode cX7_reach 82 = .ok (.goto (-45), 3) := by decide +kernel
theorem dX7_reach_85 : decode cX7_reach 85 = .ok (.iinc 6 1, 3) := by decide +kernel
theorem dX7_reach_88 : decode cX7_reach 88 = .ok (.goto (-61), 3) := by decide +kernel
theorem dX7_reach_91 : decode cX7_reach 91 = .ok (.iload 5, 2) := by decide +kernel
theorem dX7_reach_93 : decode cX7_reach 93 = .ok (.istore_n 3, 1) := by decide +kernel
theorem dX7_reach_94 : decode cX7_reach 94 = .ok (.iinc 4 1, 3) := by decide +kernel
theorem dX7_reach_97 : decode cX7_reach 97 = .ok (.goto (-82), 3) := by decide +kernel
theorem dX7_reach_100 : decode cX7_reach 100 = .ok (.iload_n 3, 1) := by decide +kernel
theorem dX7_reach_101 : decode cX7_reach 101 = .ok (.ireturn, 1) := by decide +kernel
set_option maxRecDepth 20000 in
theorem ggX7_reachable_X7_reach : GoodIn wsX7_reachable wsX7_reach := goodIn_r _ [4, 5, 6, 3, 7, 8, 9, 10, 11, 12, 13] (by decide +kernel) (by decide +kernel)
set_option maxRecDepth 20000 in
theorem gX7_reachable_X7_reach : GoodIn wsX7_reachable (va_wsS RX7 78 yX7_reach wsX7_reach) := goodIn_app (goodIn_of _ (by decide +kernel)) ggX7_reachable_X7_reach
theorem dX7_reachable_0 : decode cX7_reachable 0 = .ok (.aload_n 0, 1) := by decide +kernel
theorem dX7_reachable_1 : decode cX7_reachable 1 = .ok (.iload_n 1, 1) := by decide +kernel
theorem dX7_reachable_2 : decode cX7_reachable 2 = .ok (.aload_n 0, 1) := by decide +kernel
theorem dX7_reachable_3 : decode cX7_reachable 3 = .ok (.bipush 6, 2) := by decide +kernel
theorem dX7_reachable_5 : decode cX7_reachable 5 = .ok (.iaload, 1) := by decide +kernel
theorem dX7_reachable_6 : decode cX7_reachable 6 = .ok (.invokestatic 78, 3) := by decide +kernel
theorem dX7_reachable_9 : decode cX7_reachable 9 = .ok (.ireturn, 1) := by decide +kernel
theorem dX7_count_0 : decode cX7_count 0 = .ok (.iconst 0, 1) := by decide +kernel
theorem dX7_count_1 : decode cX7_count 1 = .ok (.istore_n 1, 1) := by decide +kernel
theorem dX7_count_2 : decode cX7_count 2 = .ok (.iconst 0, 1) := by decide +kernel
theorem dX7_count_3 : decode cX7_count 3 = .ok (.istore_n 2, 1) := by decide +kernel
theorem dX7_count_4 : decode cX7_count 4 = .ok (.iload_n 2, 1) := by decide +kernel
theorem dX7_count_5 : decode cX7_count 5 = .ok (.bipush 9, 2) := by decide +kernel
theorem dX7_count_7 : decode cX7_count 7 = .ok (.if_icmp .ge 17, 3) := by decide +kernel
theorem dX7_count_10 : decode cX7_count 10 = .ok (.iload_n 1, 1) := by decide +kernel
theorem dX7_count_11 : decode cX7_count 11 = .ok (.iload_n 0, 1) := by decide +kernel
theorem dX7_count_12 : decode cX7_count 12 = .ok (.iload_n 2, 1) := by decide +kernel
theorem dX7_count_13 : decode cX7_count 13 = .ok (.ishr, 1) := by decide +kernel
theorem dX7_count_14 : decode cX7_count 14 = .ok (.iconst 1, 1) := by decide +kernel
theorem dX7_count_15 : decode cX7_count 15 = .ok (.iand, 1) := by decide +kernel
theorem dX7_count_16 : decode cX7_count 16 = .ok (.iadd, 1) := by decide +kernel
theorem dX7_count_17 : decode cX7_count 17 = .ok (.istore_n 1, 1) := by decide +kernel
theorem dX7_count_18 : decode cX7_count 18 = .ok (.iinc 2 1, 3) := by decide +kernel
theorem dX7_count_21 : decode cX7_count 21 = .ok (.goto (-17), 3) := by decide +kernel
theorem dX7_count_24 : decode cX7_count 24 = .ok (.iload_n 1, 1) := by decide +kernel
theorem dX7_count_25 : decode cX7_count 25 = .ok (.ireturn, 1) := by decide +kernel
set_option maxRecDepth 20000 in
theorem ggX7_canTake_X7_placeOfSought : GoodIn wsX7_canTake wsX7_placeOfSought := goodIn_r _ [4, 5, 6, 3, 7, 8, 9, 10] (by decide +kernel) (by decide +kernel)
set_option maxRecDepth 20000 in
theorem gX7_canTake_X7_placeOfSought : GoodIn wsX7_canTake (va_wsS RX7 82 yX7_placeOfSought wsX7_placeOfSought) := goodIn_app (goodIn_of _ (by decide +kernel)) ggX7_canTake_X7_placeOfSought
set_option maxRecDepth 20000 in
theorem ggX7_canTake_X7_reachable : GoodIn wsX7_canTake wsX7_reachable := goodIn_r _ [13, 14, 15, 3, 16, 8, 9, 10, 17, 18, 19, 20, 21, 22] (by decide +kernel) (by decide +kernel)
set_option maxRecDepth 20000 in
theorem gX7_canTake_X7_reachable : GoodIn wsX7_canTake (va_wsS RX7 85 yX7_reachable wsX7_reachable) := goodIn_app (goodIn_of _ (by decide +kernel)) ggX7_canTake_X7_reachable
theorem dX7_canTake_0 : decode cX7_canTake 0 = .ok (.aload_n 0, 1) := by decide +kernel
theorem dX7_canTake_1 : decode cX7_canTake 1 = .ok (.iload_n 1, 1) := by decide +kernel
theorem dX7_canTake_2 : decode cX7_canTake 2 = .ok (.invokestatic 82, 3) := by decide +kernel
theorem dX7_canTake_5 : decode cX7_canTake 5 = .ok (.istore_n 2, 1) := by decide +kernel
theorem dX7_canTake_6 : decode cX7_canTake 6 = .ok (.iload_n 2, 1) := by decide +kernel
theorem dX7_canTake_7 : decode cX7_canTake 7 = .ok (.iconst (-1), 1) := by decide +kernel
theorem dX7_canTake_8 : decode cX7_canTake 8 = .ok (.if_icmp .eq 20, 3) := by decide +kernel
theorem dX7_canTake_11 : decode cX7_canTake 11 = .ok (.aload_n 0, 1) := by decide +kernel
theorem dX7_canTake_12 : decode cX7_canTake 12 = .ok (.iload_n 1, 1) := by decide +kernel
theorem dX7_canTake_13 : decode cX7_canTake 13 = .ok (.invokestatic 85, 3) := by decide +kernel
theorem dX7_canTake_16 : decode cX7_canTake 16 = .ok (.iload_n 2, 1) := by decide +kernel
theorem dX7_canTake_17 : decode cX7_canTake 17 = .ok (.ishr, 1) := by decide +kernel
theorem dX7_canTake_18 : decode cX7_canTake 18 = .ok (.iconst 1, 1) := by decide +kernel
theorem dX7_canTake_19 : decode cX7_canTake 19 = .ok (.iand, 1) := by decide +kernel
theorem dX7_canTake_20 : decode cX7_canTake 20 = .ok (.iconst 1, 1) := by decide +kernel
theorem dX7_canTake_21 : decode cX7_canTake 21 = .ok (.if_icmp .ne 7, 3) := by decide +kernel
theorem dX7_canTake_24 : decode cX7_canTake 24 = .ok (.iconst 1, 1) := by decide +kernel
theorem dX7_canTake_25 : decode cX7_canTake 25 = .ok (.goto 4, 3) := by decide +kernel
theorem dX7_canTake_28 : decode cX7_canTake 28 = .ok (.iconst 0, 1) := by decide +kernel
theorem dX7_canTake_29 : decode cX7_canTake 29 = .ok (.ireturn, 1) := by decide +kernel
theorem dX7_inLine_0 : decode cX7_inLine 0 = .ok (.iload_n 0, 1) := by decide +kernel
theorem dX7_inLine_1 : decode cX7_inLine 1 = .ok (.iconst 3, 1) := by decide +kernel
theorem dX7_inLine_2 : decode cX7_inLine 2 = .ok (.if_icmp .ge 11, 3) := by decide +kernel
theorem dX7_inLine_5 : decode cX7_inLine 5 = .ok (.iconst 3, 1) := by decide +kernel
theorem dX7_inLine_6 : decode cX7_inLine 6 = .ok (.iload_n 0, 1) := by decide +kernel
theorem dX7_inLine_7 : decode cX7_inLine 7 = .ok (.imul, 1) := by decide +kernel
theorem dX7_inLine_8 : decode cX7_inLine 8 = .ok (.iload_n 1, 1) := by decide +kernel
theorem dX7_inLine_9 : decode cX7_inLine 9 = .ok (.iadd, 1) := by decide +kernel
theorem dX7_inLine_10 : decode cX7_inLine 10 = .ok (.goto 10, 3) := by decide +kernel
theorem dX7_inLine_13 : decode cX7_inLine 13 = .ok (.iload_n 0, 1) := by decide +kernel
theorem dX7_inLine_14 : decode cX7_inLine 14 = .ok (.iconst 3, 1) := by decide +kernel
theorem dX7_inLine_15 : decode cX7_inLine 15 = .ok (.isub, 1) := by decide +kernel
theorem dX7_inLine_16 : decode cX7_inLine 16 = .ok (.iconst 3, 1) := by decide +kernel
theorem dX7_inLine_17 : decode cX7_inLine 17 = .ok (.iload_n 1, 1) := by decide +kernel
theorem dX7_inLine_18 : decode cX7_inLine 18 = .ok (.imul, 1) := by decide +kernel
theorem dX7_inLine_19 : decode cX7_inLine 19 = .ok (.iadd, 1) := by decide +kernel
theorem dX7_inLine_20 : decode cX7_inLine 20 = .ok (.ireturn, 1) := by decide +kernel
set_option maxRecDepth 20000 in
theorem ggX7_push_X7_at : GoodIn wsX7_push wsX7_at := goodIn_r _ [4] (by decide +kernel) (by decide +kernel)
set_option maxRecDepth 20000 in
theorem gX7_push_X7_at : GoodIn wsX7_push (va_wsS RX7 56 yX7_at wsX7_at) := goodIn_app (goodIn_of _ (by decide +kernel)) ggX7_push_X7_at
set_option maxRecDepth 20000 in
theorem ggX7_push_X7_inLine : GoodIn wsX7_push wsX7_inLine := goodIn_r _ [7] (by decide +kernel) (by decide +kernel)
set_option maxRecDepth 20000 in
theorem gX7_push_X7_inLine : GoodIn wsX7_push (va_wsS RX7 88 yX7_inLine wsX7_inLine) := goodIn_app (goodIn_of _ (by decide +kernel)) ggX7_push_X7_inLine
set_option maxRecDepth 20000 in
theorem ggX7_push_X7_exchange : GoodIn wsX7_push wsX7_exchange := goodIn_r _ [10] (by decide +kernel) (by decide +kernel)
set_option maxRecDepth 20000 in
theorem gX7_push_X7_exchange : GoodIn wsX7_push (va_wsS RX7 92 yX7_exchange wsX7_exchange) := goodIn_app (goodIn_of _ (by decide +kernel)) ggX7_push_X7_exchange
theorem dX7_push_0 : decode cX7_push 0 = .ok (.iload_n 1, 1) := by decide +kernel
theorem dX7_push_1 : decode cX7_push 1 = .ok (.invokestatic 56, 3) := by decide +kernel
theorem dX7_push_4 : decode cX7_push 4 = .ok (.istore 4, 2) := by decide +kernel
theorem dX7_push_6 : decode cX7_push 6 = .ok (.iconst 0, 1) := by decide +kernel
theorem dX7_push_7 : decode cX7_push 7 = .ok (.istore 5, 2) := by decide +kernel
theorem dX7_push_9 : decode cX7_push 9 = .ok (.iload 5, 2) := by decide +kernel
theorem dX7_push_11 : decode cX7_push 11 = .ok (.iconst 2, 1) := by decide +kernel
theorem dX7_push_12 : decode cX7_push 12 = .ok (.if_icmp .ge 137, 3) := by decide +kernel
theorem dX7_push_15 : decode cX7_push 15 = .ok (.iload_n 2, 1) := by decide +kernel
theorem dX7_push_16 : decode cX7_push 16 = .ok (.iload_n 3, 1) := by decide +kernel
theorem dX7_push_17 : decode cX7_push 17 = .ok (.iconst 1, 1) := by decide +kernel
theorem dX7_push_18 : decode cX7_push 18 = .ok (.if_icmp .ne 10, 3) := by decide +kernel
theorem dX7_push_21 : decode cX7_push 21 = .ok (.iconst 2, 1) := by decide +kernel
theorem dX7_push_22 : decode cX7_push 22 = .ok (.iload 5, 2) := by decide +kernel
theorem dX7_push_24 : decode cX7_push 24 = .ok (.isub, 1) := by decide +kernel
theorem dX7_push_25 : decode cX7_push 25 = .ok (.goto 5, 3) := by decide +kernel
theorem dX7_push_28 : decode cX7_push 28 = .ok (.iload 5, 2) := by decide +kernel
theorem dX7_push_30 : decode cX7_push 30 = .ok (.invokestatic 88, 3) := by decide +kernel
theorem dX7_push_33 : decode cX7_push 33 = .ok (.istore 6, 2) := by decide +kernel
theorem dX7_push_35 : decode cX7_push 35 = .ok (.iload_n 2, 1) := by decide +kernel
theorem dX7_push_36 : decode cX7_push 36 = .ok (.iload_n 3, 1) := by decide +kernel
theorem dX7_push_37 : decode cX7_push 37 = .ok (.iconst 1, 1) := by decide +kernel
theorem dX7_push_38 : decode cX7_push 38 = .ok (.if_icmp .ne 10, 3) := by decide +kernel
theorem dX7_push_41 : decode cX7_push 41 = .ok (.iconst 1, 1) := by decide +kernel
theorem dX7_push_42 : decode cX7_push 42 = .ok (.iload 5, 2) := by decide +kernel
theorem dX7_push_44 : decode cX7_push 44 = .ok (.isub, 1) := by decide +kernel
theorem dX7_push_45 : decode cX7_push 45 = .ok (.goto 7, 3) := by decide +kernel
theorem dX7_push_48 : decode cX7_push 48 = .ok (.iload 5, 2) := by decide +kernel
theorem dX7_push_50 : decode cX7_push 50 = .ok (.iconst 1, 1) := by decide +kernel
theorem dX7_push_51 : decode cX7_push 51 = .ok (.iadd, 1) := by decide +kernel
theorem dX7_push_52 : decode cX7_push 52 = .ok (.invokestatic 88, 3) := by decide +kernel
theorem dX7_push_55 : decode cX7_push 55 = .ok (.istore 7, 2) := by decide +kernel
theorem dX7_push_57 : decode cX7_push 57 = .ok (.aload_n 0, 1) := by decide +kernel
theorem dX7_push_58 : decode cX7_push 58 = .ok (.iload 4, 2) := by decide +kernel
theorem dX7_push_60 : decode cX7_push 60 = .ok (.iconst 0, 1) := by decide +kernel
theorem dX7_push_61 : decode cX7_push 61 = .ok (.iadd, 1) := by decide +kernel
theorem dX7_push_62 : decode cX7_push 62 = .ok (.iload 6, 2) := by decide +kernel
theorem dX7_push_64 : decode cX7_push 64 = .ok (.iadd, 1) := by decide +kernel
theorem dX7_push_65 : decode cX7_push 65 = .ok (.iload 4, 2) := by decide +kernel
theorem dX7_push_67 : decode cX7_push 67 = .ok (.iconst 0, 1) := by decide +kernel
theorem dX7_push_68 : decode cX7_push 68 = .ok (.iadd, 1) := by decide +kernel
theorem dX7_push_69 : decode cX7_push 69 = .ok (.iload 7, 2) := by decide +kernel
theorem dX7_push_71 : decode cX7_push 71 = .ok (.iadd, 1) := by decide +kernel
theorem dX7_push_72 : decode cX7_push 72 = .ok (.invokestatic 92, 3) := by decide +kernel
theorem dX7_push_75 : decode cX7_push 75 = .ok (.aload_n 0, 1) := by decide +kernel
theorem dX7_push_76 : decode cX7_push 76 = .ok (.iload 4, 2) := by decide +kernel
theorem dX7_push_78 : decode cX7_push 78 = .ok (.bipush 9, 2) := by decide +kernel
theorem dX7_push_80 : decode cX7_push 80 = .ok (.iadd, 1) := by decide +kernel
theorem dX7_push_81 : decode cX7_push 81 = .ok (.iload 6, 2) := by decide +kernel
theorem dX7_push_83 : decode cX7_push 83 = .ok (.iadd, 1) := by decide +kernel
theorem dX7_push_84 : decode cX7_push 84 = .ok (.iload 4, 2) := by decide +kernel
theorem dX7_push_86 : decode cX7_push 86 = .ok (.bipush 9, 2) := by decide +kernel
theorem dX7_push_88 : decode cX7_push 88 = .ok (.iadd, 1) := by decide +kernel
theorem dX7_push_89 : decode cX7_push 89 = .ok (.iload 7, 2) := by decide +kernel
theorem dX7_push_91 : decode cX7_push 91 = .ok (.iadd, 1) := by decide +kernel
theorem dX7_push_92 : decode cX7_push 92 = .ok (.invokestatic 92, 3) := by decide +kernel
theorem dX7_push_95 : decode cX7_push 95 = .ok (.aload_n 0, 1) := by decide +kernel
theorem dX7_push_96 : decode cX7_push 96 = .ok (.iload 4, 2) := by decide +kernel
theorem dX7_push_98 : decode cX7_push 98 = .ok (.bipush 24, 2) := by decide +kernel
theorem dX7_push_100 : decode cX7_push 100 = .ok (.iadd, 1) := by decide +kernel
theorem dX7_push_101 : decode cX7_push 101 = .ok (.aload_n 0, 1) := by decide +kernel
theorem dX7_push_102 : decode cX7_push 102 = .ok (.iload 4, 2) := by decide +kernel
theorem dX7_push_104 : decode cX7_push 104 = .ok (.bipush 24, 2) := by decide +kernel
theorem dX7_push_106 : decode cX7_push 106 = .ok (.iadd, 1) := by decide +kernel
theorem dX7_push_107 : decode cX7_push 107 = .ok (.iaload, 1) := by decide +kernel
theorem dX7_push_108 : decode cX7_push 108 = .ok (.iload 6, 2) := by decide +kernel
theorem dX7_push_110 : decode cX7_push 110 = .ok (.if_icmp .ne 8, 3) := by decide +kernel
theorem dX7_push_113 : decode cX7_push 113 = .ok (.iload 7, 2) := by decide +kernel
theorem dX7_push_115 : decode cX7_push 115 = .ok (.goto 27, 3) := by decide +kernel
theorem dX7_push_118 : decode cX7_push 118 = .ok (.aload_n 0, 1) := by decide +kernel
theorem dX7_push_119 : decode cX7_push 119 = .ok (.iload 4, 2) := by decide +kernel
theorem dX7_push_121 : decode cX7_push 121 = .ok (.bipush 24, 2) := by decide +kernel
theorem dX7_push_123 : decode cX7_push 123 = .ok (.iadd, 1) := by decide +kernel
theorem dX7_push_124 : decode cX7_push 124 = .ok (.iaload, 1) := by decide +kernel
theorem dX7_push_125 : decode cX7_push 125 = .ok (.iload 7, 2) := by decide +kernel
theorem dX7_push_127 : decode cX7_push 127 = .ok (.if_icmp .ne 8, 3) := by decide +kernel
theorem dX7_push_130 : decode cX7_push 130 = .ok (.iload 6, 2) := by decide +kernel
theorem dX7_push_132 : decode cX7_push 132 = .ok (.goto 10, 3) := by decide +kernel
theorem dX7_push_135 : decode cX7_push 135 = .ok (.aload_n 0, 1) := by decide +kernel
theorem dX7_push_136 : decode cX7_push 136 = .ok (.iload 4, 2) := by decide +kernel
theorem dX7_push_138 : decode cX7_push 138 = .ok (.bipush 24, 2) := by decide +kernel
theorem dX7_push_140 : decode cX7_push 140 = .ok (.iadd, 1) := by decide +kernel
theorem dX7_push_141 : decode cX7_push 141 = .ok (.iaload, 1) := by decide +kernel
theorem dX7_push_142 : decode cX7_push 142 = .ok (.iastore, 1) := by decide +kernel
theorem dX7_push_143 : decode cX7_push 143 = .ok (.iinc 5 1, 3) := by decide +kernel
theorem dX7_push_146 : decode cX7_push 146 = .ok (.goto (-137), 3) := by decide +kernel
theorem dX7_push_149 : decode cX7_push 149 = .ok (.return_, 1) := by decide +kernel
theorem dX7_exchange_0 : decode cX7_exchange 0 = .ok (.aload_n 0, 1) := by decide +kernel
theorem dX7_exchange_1 : decode cX7_exchange 1 = .ok (.iload_n 1, 1) := by decide +kernel
theorem dX7_exchange_2 : decode cX7_exchange 2 = .ok (.iaload, 1) := by decide +kernel
theorem dX7_exchange_3 : decode cX7_exchange 3 = .ok (.istore_n 3, 1) := by decide +kernel
theorem dX7_exchange_4 : decode cX7_exchange 4 = .ok (.aload_n 0, 1) := by decide +kernel
theorem dX7_exchange_5 : decode cX7_exchange 5 = .ok (.iload_n 1, 1) := by decide +kernel
theorem dX7_exchange_6 : decode cX7_exchange 6 = .ok (.aload_n 0, 1) := by decide +kernel
theorem dX7_exchange_7 : decode cX7_exchange 7 = .ok (.iload_n 2, 1) := by decide +kernel
theorem dX7_exchange_8 : decode cX7_exchange 8 = .ok (.iaload, 1) := by decide +kernel
theorem dX7_exchange_9 : decode cX7_exchange 9 = .ok (.iastore, 1) := by decide +kernel
theorem dX7_exchange_10 : decode cX7_exchange 10 = .ok (.aload_n 0, 1) := by decide +kernel
theorem dX7_exchange_11 : decode cX7_exchange 11 = .ok (.iload_n 2, 1) := by decide +kernel
theorem dX7_exchange_12 : decode cX7_exchange 12 = .ok (.iload_n 3, 1) := by decide +kernel
theorem dX7_exchange_13 : decode cX7_exchange 13 = .ok (.iastore, 1) := by decide +kernel
theorem dX7_exchange_14 : decode cX7_exchange 14 = .ok (.return_, 1) := by decide +kernel
set_option maxRecDepth 20000 in
theorem ggX7_may_X7_at : GoodIn wsX7_may wsX7_at := goodIn_r _ [4] (by decide +kernel) (by decide +kernel)
set_option maxRecDepth 20000 in
theorem gX7_may_X7_at : GoodIn wsX7_may (va_wsS RX7 56 yX7_at wsX7_at) := goodIn_app (goodIn_of _ (by decide +kernel)) ggX7_may_X7_at
theorem dX7_may_0 : decode cX7_may 0 = .ok (.iload_n 1, 1) := by decide +kernel
theorem dX7_may_1 : decode cX7_may 1 = .ok (.invokestatic 56, 3) := by decide +kernel
theorem dX7_may_4 : decode cX7_may 4 = .ok (.istore 4, 2) := by decide +kernel
theorem dX7_may_6 : decode cX7_may 6 = .ok (.aload_n 0, 1) := by decide +kernel
theorem dX7_may_7 : decode cX7_may 7 = .ok (.iload 4, 2) := by decide +kernel
theorem dX7_may_9 : decode cX7_may 9 = .ok (.bipush 25, 2) := by decide +kernel
theorem dX7_may_11 : decode cX7_may 11 = .ok (.iadd, 1) := by decide +kernel
theorem dX7_may_12 : decode cX7_may 12 = .ok (.iaload, 1) := by decide +kernel
theorem dX7_may_13 : decode cX7_may 13 = .ok (.iload_n 2, 1) := by decide +kernel
theorem dX7_may_14 : decode cX7_may 14 = .ok (.if_icmp .eq 29, 3) := by decide +kernel
theorem dX7_may_17 : decode cX7_may 17 = .ok (.aload_n 0, 1) := by decide +kernel
theorem dX7_may_18 : decode cX7_may 18 = .ok (.iload 4, 2) := by decide +kernel
theorem dX7_may_20 : decode cX7_may 20 = .ok (.bipush 26, 2) := by decide +kernel
theorem dX7_may_22 : decode cX7_may 22 = .ok (.iadd, 1) := by decide +kernel
theorem dX7_may_23 : decode cX7_may 23 = .ok (.iaload, 1) := by decide +kernel
theorem dX7_may_24 : decode cX7_may 24 = .ok (.iload_n 2, 1) := by decide +kernel
theorem dX7_may_25 : decode cX7_may 25 = .ok (.if_icmp .ne 14, 3) := by decide +kernel
theorem dX7_may_28 : decode cX7_may 28 = .ok (.aload_n 0, 1) := by decide +kernel
theorem dX7_may_29 : decode cX7_may 29 = .ok (.iload 4, 2) := by decide +kernel
theorem dX7_may_31 : decode cX7_may 31 = .ok (.bipush 27, 2) := by decide +kernel
theorem dX7_may_33 : decode cX7_may 33 = .ok (.iadd, 1) := by decide +kernel
theorem dX7_may_34 : decode cX7_may 34 = .ok (.iaload, 1) := by decide +kernel
theorem dX7_may_35 : decode cX7_may 35 = .ok (.iload_n 3, 1) := by decide +kernel
theorem dX7_may_36 : decode cX7_may 36 = .ok (.if_icmp .ne 7, 3) := by decide +kernel
theorem dX7_may_39 : decode cX7_may 39 = .ok (.iconst 1, 1) := by decide +kernel
theorem dX7_may_40 : decode cX7_may 40 = .ok (.goto 4, 3) := by decide +kernel
theorem dX7_may_43 : decode cX7_may 43 = .ok (.iconst 0, 1) := by decide +kernel
theorem dX7_may_44 : decode cX7_may 44 = .ok (.ireturn, 1) := by decide +kernel
set_option maxRecDepth 20000 in
theorem ggX7_canShiftNow_X7_isOn : GoodIn wsX7_canShiftNow wsX7_isOn := goodIn_r _ [4] (by decide +kernel) (by decide +kernel)
set_option maxRecDepth 20000 in
theorem gX7_canShiftNow_X7_isOn : GoodIn wsX7_canShiftNow (va_wsS RX7 96 yX7_isOn wsX7_isOn) := goodIn_app (goodIn_of _ (by decide +kernel)) ggX7_canShiftNow_X7_isOn
set_option maxRecDepth 20000 in
theorem ggX7_canShiftNow_X7_isPlayer : GoodIn wsX7_canShiftNow wsX7_isPlayer := goodIn_r _ [7, 8, 9, 3, 10] (by decide +kernel) (by decide +kernel)
set_option maxRecDepth 20000 in
theorem gX7_canShiftNow_X7_isPlayer : GoodIn wsX7_canShiftNow (va_wsS RX7 100 yX7_isPlayer wsX7_isPlayer) := goodIn_app (goodIn_of _ (by decide +kernel)) ggX7_canShiftNow_X7_isPlayer
set_option maxRecDepth 20000 in
theorem ggX7_canShiftNow_X7_may : GoodIn wsX7_canShiftNow wsX7_may := goodIn_r _ [13, 14, 15, 3, 16] (by decide +kernel) (by decide +kernel)
set_option maxRecDepth 20000 in
theorem gX7_canShiftNow_X7_may : GoodIn wsX7_canShiftNow (va_wsS RX7 104 yX7_may wsX7_may) := goodIn_app (goodIn_of _ (by decide +kernel)) ggX7_canShiftNow_X7_may
theorem dX7_canShiftNow_0 : decode cX7_canShiftNow 0 = .ok (.aload_n 0, 1) := by decide +kernel
theorem dX7_canShiftNow_1 : decode cX7_canShiftNow 1 = .ok (.invokestatic 96, 3) := by decide +kernel
theorem dX7_canShiftNow_4 : decode cX7_canShiftNow 4 = .ok (.ifCond .eq 38, 3) := by decide +kernel
theorem dX7_canShiftNow_7 : decode cX7_canShiftNow 7 = .ok (.aload_n 0, 1) := by decide +kernel
theorem dX7_canShiftNow_8 : decode cX7_canShiftNow 8 = .ok (.iconst 2, 1) := by decide +kernel
theorem dX7_canShiftNow_9 : decode cX7_canShiftNow 9 = .ok (.iaload, 1) := by decide +kernel
theorem dX7_canShiftNow_10 : decode cX7_canShiftNow 10 = .ok (.ifCond .ne 32, 3) := by decide +kernel
theorem dX7_canShiftNow_13 : decode cX7_canShiftNow 13 = .ok (.aload_n 0, 1) := by decide +kernel
theorem dX7_canShiftNow_14 : decode cX7_canShiftNow 14 = .ok (.iload_n 1, 1) := by decide +kernel
theorem dX7_canShiftNow_15 : decode cX7_canShiftNow 15 = .ok (.invokestatic 100, 3) := by decide +kernel
theorem dX7_canShiftNow_18 : decode cX7_canShiftNow 18 = .ok (.ifCond .eq 24, 3) := by decide +kernel
theorem dX7_canShiftNow_21 : decode cX7_canShiftNow 21 = .ok (.iload_n 1, 1) := by decide +kernel
theorem dX7_canShiftNow_22 : decode cX7_canShiftNow 22 = .ok (.aload_n 0, 1) := by decide +kernel
theorem dX7_canShiftNow_23 : decode cX7_canShiftNow 23 = .ok (.iconst 1, 1) := by decide +kernel
theorem dX7_canShiftNow_24 : decode cX7_canShiftNow 24 = .ok (.iaload, 1) := by decide +kernel
theorem dX7_canShiftNow_25 : decode cX7_canShiftNow 25 = .ok (.if_icmp .eq 17, 3) := by decide +kernel
theorem dX7_canShiftNow_28 : decode cX7_canShiftNow 28 = .ok (.aload_n 0, 1) := by decide +kernel
theorem dX7_canShiftNow_29 : decode cX7_canShiftNow 29 = .ok (.iload_n 1, 1) := by decide +kernel
theorem dX7_canShiftNow_30 : decode cX7_canShiftNow 30 = .ok (.iload_n 2, 1) := by decide +kernel
theorem dX7_canShiftNow_31 : decode cX7_canShiftNow 31 = .ok (.iload_n 3, 1) := by decide +kernel
theorem dX7_canShiftNow_32 : decode cX7_canShiftNow 32 = .ok (.invokestatic 104, 3) := by decide +kernel
theorem dX7_canShiftNow_35 : decode cX7_canShiftNow 35 = .ok (.ifCond .eq 7, 3) := by decide +kernel
theorem dX7_canShiftNow_38 : decode cX7_canShiftNow 38 = .ok (.iconst 1, 1) := by decide +kernel
theorem dX7_canShiftNow_39 : decode cX7_canShiftNow 39 = .ok (.goto 4, 3) := by decide +kernel
theorem dX7_canShiftNow_42 : decode cX7_canShiftNow 42 = .ok (.iconst 0, 1) := by decide +kernel
theorem dX7_canShiftNow_43 : decode cX7_canShiftNow 43 = .ok (.ireturn, 1) := by decide +kernel
set_option maxRecDepth 20000 in
theorem ggX7_shiftOn_X7_push : GoodIn wsX7_shiftOn wsX7_push := goodIn_r _ [4, 5, 6, 3, 7, 8, 9, 10, 11, 12, 13] (by decide +kernel) (by decide +kernel)
set_option maxRecDepth 20000 in
theorem gX7_shiftOn_X7_push : GoodIn wsX7_shiftOn (va_wsS RX7 107 yX7_push wsX7_push) := goodIn_app (goodIn_of _ (by decide +kernel)) ggX7_shiftOn_X7_push
set_option maxRecDepth 20000 in
theorem ggX7_shiftOn_X7_at : GoodIn wsX7_shiftOn wsX7_at := goodIn_r _ [7] (by decide +kernel) (by decide +kernel)
set_option maxRecDepth 20000 in
theorem gX7_shiftOn_X7_at : GoodIn wsX7_shiftOn (va_wsS RX7 56 yX7_at wsX7_at) := goodIn_app (goodIn_of _ (by decide +kernel)) ggX7_shiftOn_X7_at
set_option maxRecDepth 20000 in
theorem ggX7_shiftOn_X7_reachable : GoodIn wsX7_shiftOn wsX7_reachable := goodIn_r _ [16, 17, 18, 3, 19, 5, 6, 7, 20, 21, 22, 23, 24, 25] (by decide +kernel) (by decide +kernel)
set_option maxRecDepth 20000 in
theorem gX7_shiftOn_X7_reachable : GoodIn wsX7_shiftOn (va_wsS RX7 85 yX7_reachable wsX7_reachable) := goodIn_app (goodIn_of _ (by decide +kernel)) ggX7_shiftOn_X7_reachable
set_option maxRecDepth 20000 in
theorem ggX7_shiftOn_X7_count : GoodIn wsX7_shiftOn wsX7_count := goodIn_r _ [28] (by decide +kernel) (by decide +kernel)
set_option maxRecDepth 20000 in
theorem gX7_shiftOn_X7_count : GoodIn wsX7_shiftOn (va_wsS RX7 111 yX7_count wsX7_count) := goodIn_app (goodIn_of _ (by decide +kernel)) ggX7_shiftOn_X7_count
theorem dX7_shiftOn_0 : decode cX7_shiftOn 0 = .ok (.aload_n 0, 1) := by decide +kernel
theorem dX7_shiftOn_1 : decode cX7_shiftOn 1 = .ok (.iload_n 1, 1) := by decide +kernel
theorem dX7_shiftOn_2 : decode cX7_shiftOn 2 = .ok (.iload_n 2, 1) := by decide +kernel
theorem dX7_shiftOn_3 : decode cX7_shiftOn 3 = .ok (.iload_n 3, 1) := by decide +kernel
theorem dX7_shiftOn_4 : decode cX7_shiftOn 4 = .ok (.invokestatic 107, 3) := by decide +kernel
theorem dX7_shiftOn_7 : decode cX7_shiftOn 7 = .ok (.aload_n 0, 1) := by decide +kernel
theorem dX7_shiftOn_8 : decode cX7_shiftOn 8 = .ok (.iload_n 1, 1) := by decide +kernel
theorem dX7_shiftOn_9 : decode cX7_shiftOn 9 = .ok (.invokestatic 56, 3) := by decide +kernel
theorem dX7_shiftOn_12 : decode cX7_shiftOn 12 = .ok (.bipush 26, 2) := by decide +kernel
theorem dX7_shiftOn_14 : decode cX7_shiftOn 14 = .ok (.iadd, 1) := by decide +kernel
theorem dX7_shiftOn_15 : decode cX7_shiftOn 15 = .ok (.iload_n 2, 1) := by decide +kernel
theorem dX7_shiftOn_16 : decode cX7_shiftOn 16 = .ok (.iastore, 1) := by decide +kernel
theorem dX7_shiftOn_17 : decode cX7_shiftOn 17 = .ok (.aload_n 0, 1) := by decide +kernel
theorem dX7_shiftOn_18 : decode cX7_shiftOn 18 = .ok (.iload_n 1, 1) := by decide +kernel
theorem dX7_shiftOn_19 : decode cX7_shiftOn 19 = .ok (.invokestatic 56, 3) := by decide +kernel
theorem dX7_shiftOn_22 : decode cX7_shiftOn 22 = .ok (.bipush 27, 2) := by decide +kernel
theorem dX7_shiftOn_24 : decode cX7_shiftOn 24 = .ok (.iadd, 1) := by decide +kernel
theorem dX7_shiftOn_25 : decode cX7_shiftOn 25 = .ok (.iload_n 3, 1) := by decide +kernel
theorem dX7_shiftOn_26 : decode cX7_shiftOn 26 = .ok (.iastore, 1) := by decide +kernel
theorem dX7_shiftOn_27 : decode cX7_shiftOn 27 = .ok (.aload_n 0, 1) := by decide +kernel
theorem dX7_shiftOn_28 : decode cX7_shiftOn 28 = .ok (.iconst 2, 1) := by decide +kernel
theorem dX7_shiftOn_29 : decode cX7_shiftOn 29 = .ok (.iconst 1, 1) := by decide +kernel
theorem dX7_shiftOn_30 : decode cX7_shiftOn 30 = .ok (.iastore, 1) := by decide +kernel
theorem dX7_shiftOn_31 : decode cX7_shiftOn 31 = .ok (.aload_n 0, 1) := by decide +kernel
theorem dX7_shiftOn_32 : decode cX7_shiftOn 32 = .ok (.iload_n 1, 1) := by decide +kernel
theorem dX7_shiftOn_33 : decode cX7_shiftOn 33 = .ok (.invokestatic 85, 3) := by decide +kernel
theorem dX7_shiftOn_36 : decode cX7_shiftOn 36 = .ok (.invokestatic 111, 3) := by decide +kernel
theorem dX7_shiftOn_39 : decode cX7_shiftOn 39 = .ok (.ireturn, 1) := by decide +kernel
set_option maxRecDepth 20000 in
theorem ggX7_endTurn_X7_at : GoodIn wsX7_endTurn wsX7_at := goodIn_r _ [4] (by decide +kernel) (by decide +kernel)
set_option maxRecDepth 20000 in
theorem gX7_endTurn_X7_at : GoodIn wsX7_endTurn (va_wsS RX7 56 yX7_at wsX7_at) := goodIn_app (goodIn_of _ (by decide +kernel)) ggX7_endTurn_X7_at
theorem dX7_endTurn_0 : decode cX7_endTurn 0 = .ok (.aload_n 0, 1) := by decide +kernel
theorem dX7_endTurn_1 : decode cX7_endTurn 1 = .ok (.iconst 3, 1) := by decide +kernel
theorem dX7_endTurn_2 : decode cX7_endTurn 2 = .ok (.dup2, 1) := by decide +kernel
theorem dX7_endTurn_3 : decode cX7_endTurn 3 = .ok (.iaload, 1) := by decide +kernel
theorem dX7_endTurn_4 : decode cX7_endTurn 4 = .ok (.iconst 1, 1) := by decide +kernel
theorem dX7_endTurn_5 : decode cX7_endTurn 5 = .ok (.iadd, 1) := by decide +kernel
theorem dX7_endTurn_6 : decode cX7_endTurn 6 = .ok (.iastore, 1) := by decide +kernel
theorem dX7_endTurn_7 : decode cX7_endTurn 7 = .ok (.aload_n 0, 1) := by decide +kernel
theorem dX7_endTurn_8 : decode cX7_endTurn 8 = .ok (.iconst 2, 1) := by decide +kernel
theorem dX7_endTurn_9 : decode cX7_endTurn 9 = .ok (.iconst 0, 1) := by decide +kernel
theorem dX7_endTurn_10 : decode cX7_endTurn 10 = .ok (.iastore, 1) := by decide +kernel
theorem dX7_endTurn_11 : decode cX7_endTurn 11 = .ok (.aload_n 0, 1) := by decide +kernel
theorem dX7_endTurn_12 : decode cX7_endTurn 12 = .ok (.aload_n 0, 1) := by decide +kernel
theorem dX7_endTurn_13 : decode cX7_endTurn 13 = .ok (.iconst 1, 1) := by decide +kernel
theorem dX7_endTurn_14 : decode cX7_endTurn 14 = .ok (.iaload, 1) := by decide +kernel
theorem dX7_endTurn_15 : decode cX7_endTurn 15 = .ok (.invokestatic 56, 3) := by decide +kernel
theorem dX7_endTurn_18 : decode cX7_endTurn 18 = .ok (.bipush 23, 2) := by decide +kernel
theorem dX7_endTurn_20 : decode cX7_endTurn 20 = .ok (.iadd, 1) := by decide +kernel
theorem dX7_endTurn_21 : decode cX7_endTurn 21 = .ok (.iaload, 1) := by decide +kernel
theorem dX7_endTurn_22 : decode cX7_endTurn 22 = .ok (.aload_n 0, 1) := by decide +kernel
theorem dX7_endTurn_23 : decode cX7_endTurn 23 = .ok (.bipush 7, 2) := by decide +kernel
theorem dX7_endTurn_25 : decode cX7_endTurn 25 = .ok (.iaload, 1) := by decide +kernel
theorem dX7_endTurn_26 : decode cX7_endTurn 26 = .ok (.if_icmp .lt 16, 3) := by decide +kernel
theorem dX7_endTurn_29 : decode cX7_endTurn 29 = .ok (.aload_n 0, 1) := by decide +kernel
theorem dX7_endTurn_30 : decode cX7_endTurn 30 = .ok (.iconst 4, 1) := by decide +kernel
theorem dX7_endTurn_31 : decode cX7_endTurn 31 = .ok (.iconst 1, 1) := by decide +kernel
theorem dX7_endTurn_32 : decode cX7_endTurn 32 = .ok (.iastore, 1) := by decide +kernel
theorem dX7_endTurn_33 : decode cX7_endTurn 33 = .ok (.aload_n 0, 1) := by decide +kernel
theorem dX7_endTurn_34 : decode cX7_endTurn 34 = .ok (.iconst 5, 1) := by decide +kernel
theorem dX7_endTurn_35 : decode cX7_endTurn 35 = .ok (.aload_n 0, 1) := by decide +kernel
theorem dX7_endTurn_36 : decode cX7_endTurn 36 = .ok (.iconst 1, 1) := by decide +kernel
theorem dX7_endTurn_37 : decode cX7_endTurn 37 = .ok (.iaload, 1) := by decide +kernel
theorem dX7_endTurn_38 : decode cX7_endTurn 38 = .ok (.iastore, 1) := by decide +kernel
theorem dX7_endTurn_39 : decode cX7_endTurn 39 = .ok (.goto 44, 3) := by decide +kernel
theorem dX7_endTurn_42 : decode cX7_endTurn 42 = .ok (.aload_n 0, 1) := by decide +kernel
theorem dX7_endTurn_43 : decode cX7_endTurn 43 = .ok (.iconst 3, 1) := by decide +kernel
theorem dX7_endTurn_44 : decode cX7_endTurn 44 = .ok (.iaload, 1) := by decide +kernel
theorem dX7_endTurn_45 : decode cX7_endTurn 45 = .ok (.aload_n 0, 1) := by decide +kernel
theorem dX7_endTurn_46 : decode cX7_endTurn 46 = .ok (.bipush 8, 2) := by decide +kernel
theorem dX7_endTurn_48 : decode cX7_endTurn 48 = .ok (.iaload, 1) := by decide +kernel
theorem dX7_endTurn_49 : decode cX7_endTurn 49 = .ok (.if_icmp .lt 10, 3) := by decide +kernel
theorem dX7_endTurn_52 : decode cX7_endTurn 52 = .ok (.aload_n 0, 1) := by decide +kernel
theorem dX7_endTurn_53 : decode cX7_endTurn 53 = .ok (.iconst 4, 1) := by decide +kernel
theorem dX7_endTurn_54 : decode cX7_endTurn 54 = .ok (.iconst 1, 1) := by decide +kernel
theorem dX7_endTurn_55 : decode cX7_endTurn 55 = .ok (.iastore, 1) := by decide +kernel
theorem dX7_endTurn_56 : decode cX7_endTurn 56 = .ok (.goto 27, 3) := by decide +kernel
theorem dX7_endTurn_59 : decode cX7_endTurn 59 = .ok (.aload_n 0, 1) := by decide +kernel
theorem dX7_endTurn_60 : decode cX7_endTurn 60 = .ok (.iconst 1, 1) := by decide +kernel
theorem dX7_endTurn_61 : decode cX7_endTurn 61 = .ok (.aload_n 0, 1) := by decide +kernel
theorem dX7_endTurn_62 : decode cX7_endTurn 62 = .ok (.iconst 1, 1) := by decide +kernel
theorem dX7_endTurn_63 : decode cX7_endTurn 63 = .ok (.iaload, 1) := by decide +kernel
theorem dX7_endTurn_64 : decode cX7_endTurn 64 = .ok (.iconst 1, 1) := by decide +kernel
theorem dX7_endTurn_65 : decode cX7_endTurn 65 = .ok (.iadd, 1) := by decide +kernel
theorem dX7_endTurn_66 : decode cX7_endTurn 66 = .ok (.aload_n 0, 1) := by decide +kernel
theorem dX7_endTurn_67 : decode cX7_endTurn 67 = .ok (.iconst 0, 1) := by decide +kernel
theorem dX7_endTurn_68 : decode cX7_endTurn 68 = .ok (.iaload, 1) := by decide +kernel
theorem dX7_endTurn_69 : decode cX7_endTurn 69 = .ok (.irem, 1) := by decide +kernel
theorem dX7_endTurn_70 : decode cX7_endTurn 70 = .ok (.iastore, 1) := by decide +kernel
theorem dX7_endTurn_71 : decode cX7_endTurn 71 = .ok (.aload_n 0, 1) := by decide +kernel
theorem dX7_endTurn_72 : decode cX7_endTurn 72 = .ok (.aload_n 0, 1) := by decide +kernel
theorem dX7_endTurn_73 : decode cX7_endTurn 73 = .ok (.iconst 1, 1) := by decide +kernel
theorem dX7_endTurn_74 : decode cX7_endTurn 74 = .ok (.iaload, 1) := by decide +kernel
theorem dX7_endTurn_75 : decode cX7_endTurn 75 = .ok (.invokestatic 56, 3) := by decide +kernel
theorem dX7_endTurn_78 : decode cX7_endTurn 78 = .ok (.bipush 25, 2) := by decide +kernel
theorem dX7_endTurn_80 : decode cX7_endTurn 80 = .ok (.iadd, 1) := by decide +kernel
theorem dX7_endTurn_81 : decode cX7_endTurn 81 = .ok (.iconst (-1), 1) := by decide +kernel
theorem dX7_endTurn_82 : decode cX7_endTurn 82 = .ok (.iastore, 1) := by decide +kernel
theorem dX7_endTurn_83 : decode cX7_endTurn 83 = .ok (.return_, 1) := by decide +kernel
set_option maxRecDepth 20000 in
theorem ggX7_canGo_X7_isOn : GoodIn wsX7_canGo wsX7_isOn := goodIn_r _ [4] (by decide +kernel) (by decide +kernel)
set_option maxRecDepth 20000 in
theorem gX7_canGo_X7_isOn : GoodIn wsX7_canGo (va_wsS RX7 96 yX7_isOn wsX7_isOn) := goodIn_app (goodIn_of _ (by decide +kernel)) ggX7_canGo_X7_isOn
set_option maxRecDepth 20000 in
theorem ggX7_canGo_X7_reachable : GoodIn wsX7_canGo wsX7_reachable := goodIn_r _ [7, 8, 9, 3, 10, 11, 12, 13, 14, 15, 16, 17, 18, 19] (by decide +kernel) (by decide +kernel)
set_option maxRecDepth 20000 in
theorem gX7_canGo_X7_reachable : GoodIn wsX7_canGo (va_wsS RX7 85 yX7_reachable wsX7_reachable) := goodIn_app (goodIn_of _ (by decide +kernel)) ggX7_canGo_X7_reachable
theorem dX7_canGo_0 : decode cX7_canGo 0 = .ok (.aload_n 0, 1) := by decide +kernel
theorem dX7_canGo_1 : decode cX7_canGo 1 = .ok (.invokestatic 96, 3) := by decide +kernel
theorem dX7_canGo_4 : decode cX7_canGo 4 = .ok (.ifCond .eq 29, 3) := by decide +kernel
theorem dX7_canGo_7 : decode cX7_canGo 7 = .ok (.aload_n 0, 1) := by decide +kernel
theorem dX7_canGo_8 : decode cX7_canGo 8 = .ok (.iconst 2, 1) := by decide +kernel
theorem dX7_canGo_9 : decode cX7_canGo 9 = .ok (.iaload, 1) := by decide +kernel
theorem dX7_canGo_10 : decode cX7_canGo 10 = .ok (.iconst 1, 1) := by decide +kernel
theorem dX7_canGo_11 : decode cX7_canGo 11 = .ok (.if_icmp .ne 22, 3) := by decide +kernel
theorem dX7_canGo_14 : decode cX7_canGo 14 = .ok (.aload_n 0, 1) := by decide +kernel
theorem dX7_canGo_15 : decode cX7_canGo 15 = .ok (.aload_n 0, 1) := by decide +kernel
theorem dX7_canGo_16 : decode cX7_canGo 16 = .ok (.iconst 1, 1) := by decide +kernel
theorem dX7_canGo_17 : decode cX7_canGo 17 = .ok (.iaload, 1) := by decide +kernel
theorem dX7_canGo_18 : decode cX7_canGo 18 = .ok (.invokestatic 85, 3) := by decide +kernel
theorem dX7_canGo_21 : decode cX7_canGo 21 = .ok (.iload_n 1, 1) := by decide +kernel
theorem dX7_canGo_22 : decode cX7_canGo 22 = .ok (.ishr, 1) := by decide +kernel
theorem dX7_canGo_23 : decode cX7_canGo 23 = .ok (.iconst 1, 1) := by decide +kernel
theorem dX7_canGo_24 : decode cX7_canGo 24 = .ok (.iand, 1) := by decide +kernel
theorem dX7_canGo_25 : decode cX7_canGo 25 = .ok (.iconst 1, 1) := by decide +kernel
theorem dX7_canGo_26 : decode cX7_canGo 26 = .ok (.if_icmp .ne 7, 3) := by decide +kernel
theorem dX7_canGo_29 : decode cX7_canGo 29 = .ok (.iconst 1, 1) := by decide +kernel
theorem dX7_canGo_30 : decode cX7_canGo 30 = .ok (.goto 4, 3) := by decide +kernel
theorem dX7_canGo_33 : decode cX7_canGo 33 = .ok (.iconst 0, 1) := by decide +kernel
theorem dX7_canGo_34 : decode cX7_canGo 34 = .ok (.ireturn, 1) := by decide +kernel
set_option maxRecDepth 20000 in
theorem ggX7_goOn_X7_at : GoodIn wsX7_goOn wsX7_at := goodIn_r _ [4] (by decide +kernel) (by decide +kernel)
set_option maxRecDepth 20000 in
theorem gX7_goOn_X7_at : GoodIn wsX7_goOn (va_wsS RX7 56 yX7_at wsX7_at) := goodIn_app (goodIn_of _ (by decide +kernel)) ggX7_goOn_X7_at
set_option maxRecDepth 20000 in
theorem ggX7_goOn_X7_sought : GoodIn wsX7_goOn wsX7_sought := goodIn_r _ [7, 1, 2, 3, 4] (by decide +kernel) (by decide +kernel)
set_option maxRecDepth 20000 in
theorem gX7_goOn_X7_sought : GoodIn wsX7_goOn (va_wsS RX7 67 yX7_sought wsX7_sought) := goodIn_app (goodIn_of _ (by decide +kernel)) ggX7_goOn_X7_sought
set_option maxRecDepth 20000 in
theorem ggX7_goOn_X7_endTurn : GoodIn wsX7_goOn wsX7_endTurn := goodIn_r _ [10, 1, 2, 3, 4] (by decide +kernel) (by decide +kernel)
set_option maxRecDepth 20000 in
theorem gX7_goOn_X7_endTurn : GoodIn wsX7_goOn (va_wsS RX7 114 yX7_endTurn wsX7_endTurn) := goodIn_app (goodIn_of _ (by decide +kernel)) ggX7_goOn_X7_endTurn
theorem dX7_goOn_0 : decode cX7_goOn 0 = .ok (.aload_n 0, 1) := by decide +kernel
theorem dX7_goOn_1 : decode cX7_goOn 1 = .ok (.iconst 1, 1) := by decide +kernel
theorem dX7_goOn_2 : decode cX7_goOn 2 = .ok (.iaload, 1) := by decide +kernel
theorem dX7_goOn_3 : decode cX7_goOn 3 = .ok (.invokestatic 56, 3) := by decide +kernel
theorem dX7_goOn_6 : decode cX7_goOn 6 = .ok (.istore_n 2, 1) := by decide +kernel
theorem dX7_goOn_7 : decode cX7_goOn 7 = .ok (.aload_n 0, 1) := by decide +kernel
theorem dX7_goOn_8 : decode cX7_goOn 8 = .ok (.iload_n 2, 1) := by decide +kernel
theorem dX7_goOn_9 : decode cX7_goOn 9 = .ok (.bipush 24, 2) := by decide +kernel
theorem dX7_goOn_11 : decode cX7_goOn 11 = .ok (.iadd, 1) := by decide +kernel
theorem dX7_goOn_12 : decode cX7_goOn 12 = .ok (.iload_n 1, 1) := by decide +kernel
theorem dX7_goOn_13 : decode cX7_goOn 13 = .ok (.iastore, 1) := by decide +kernel
theorem dX7_goOn_14 : decode cX7_goOn 14 = .ok (.aload_n 0, 1) := by decide +kernel
theorem dX7_goOn_15 : decode cX7_goOn 15 = .ok (.iload_n 2, 1) := by decide +kernel
theorem dX7_goOn_16 : decode cX7_goOn 16 = .ok (.bipush 9, 2) := by decide +kernel
theorem dX7_goOn_18 : decode cX7_goOn 18 = .ok (.iadd, 1) := by decide +kernel
theorem dX7_goOn_19 : decode cX7_goOn 19 = .ok (.iload_n 1, 1) := by decide +kernel
theorem dX7_goOn_20 : decode cX7_goOn 20 = .ok (.iadd, 1) := by decide +kernel
theorem dX7_goOn_21 : decode cX7_goOn 21 = .ok (.iaload, 1) := by decide +kernel
theorem dX7_goOn_22 : decode cX7_goOn 22 = .ok (.istore_n 3, 1) := by decide +kernel
theorem dX7_goOn_23 : decode cX7_goOn 23 = .ok (.iload_n 3, 1) := by decide +kernel
theorem dX7_goOn_24 : decode cX7_goOn 24 = .ok (.ifCond .le 18, 3) := by decide +kernel
theorem dX7_goOn_27 : decode cX7_goOn 27 = .ok (.iload_n 3, 1) := by decide +kernel
theorem dX7_goOn_28 : decode cX7_goOn 28 = .ok (.aload_n 0, 1) := by decide +kernel
theorem dX7_goOn_29 : decode cX7_goOn 29 = .ok (.aload_n 0, 1) := by decide +kernel
theorem dX7_goOn_30 : decode cX7_goOn 30 = .ok (.iconst 1, 1) := by decide +kernel
theorem dX7_goOn_31 : decode cX7_goOn 31 = .ok (.iaload, 1) := by decide +kernel
theorem dX7_goOn_32 : decode cX7_goOn 32 = .ok (.invokestatic 67, 3) := by decide +kernel
theorem dX7_goOn_35 : decode cX7_goOn 35 = .ok (.if_icmp .ne 7, 3) := by decide +kernel
theorem dX7_goOn_38 : decode cX7_goOn 38 = .ok (.iconst 1, 1) := by decide +kernel
theorem dX7_goOn_39 : decode cX7_goOn 39 = .ok (.goto 4, 3) := by decide +kernel
theorem dX7_goOn_42 : decode cX7_goOn 42 = .ok (.iconst 0, 1) := by decide +kernel
theorem dX7_goOn_43 : decode cX7_goOn 43 = .ok (.istore 4, 2) := by decide +kernel
theorem dX7_goOn_45 : decode cX7_goOn 45 = .ok (.iload 4, 2) := by decide +kernel
theorem dX7_goOn_47 : decode cX7_goOn 47 = .ok (.ifCond .eq 22, 3) := by decide +kernel
theorem dX7_goOn_50 : decode cX7_goOn 50 = .ok (.aload_n 0, 1) := by decide +kernel
theorem dX7_goOn_51 : decode cX7_goOn 51 = .ok (.iload_n 2, 1) := by decide +kernel
theorem dX7_goOn_52 : decode cX7_goOn 52 = .ok (.bipush 9, 2) := by decide +kernel
theorem dX7_goOn_54 : decode cX7_goOn 54 = .ok (.iadd, 1) := by decide +kernel
theorem dX7_goOn_55 : decode cX7_goOn 55 = .ok (.iload_n 1, 1) := by decide +kernel
theorem dX7_goOn_56 : decode cX7_goOn 56 = .ok (.iadd, 1) := by decide +kernel
theorem dX7_goOn_57 : decode cX7_goOn 57 = .ok (.iconst 0, 1) := by decide +kernel
theorem dX7_goOn_58 : decode cX7_goOn 58 = .ok (.iastore, 1) := by decide +kernel
theorem dX7_goOn_59 : decode cX7_goOn 59 = .ok (.aload_n 0, 1) := by decide +kernel
theorem dX7_goOn_60 : decode cX7_goOn 60 = .ok (.iload_n 2, 1) := by decide +kernel
theorem dX7_goOn_61 : decode cX7_goOn 61 = .ok (.bipush 23, 2) := by decide +kernel
theorem dX7_goOn_63 : decode cX7_goOn 63 = .ok (.iadd, 1) := by decide +kernel
theorem dX7_goOn_64 : decode cX7_goOn 64 = .ok (.dup2, 1) := by decide +kernel
theorem dX7_goOn_65 : decode cX7_goOn 65 = .ok (.iaload, 1) := by decide +kernel
theorem dX7_goOn_66 : decode cX7_goOn 66 = .ok (.iconst 1, 1) := by decide +kernel
theorem dX7_goOn_67 : decode cX7_goOn 67 = .ok (.iadd, 1) := by decide +kernel
theorem dX7_goOn_68 : decode cX7_goOn 68 = .ok (.iastore, 1) := by decide +kernel
theorem dX7_goOn_69 : decode cX7_goOn 69 = .ok (.aload_n 0, 1) := by decide +kernel
theorem dX7_goOn_70 : decode cX7_goOn 70 = .ok (.invokestatic 114, 3) := by decide +kernel
theorem dX7_goOn_73 : decode cX7_goOn 73 = .ok (.iload 4, 2) := by decide +kernel
theorem dX7_goOn_75 : decode cX7_goOn 75 = .ok (.ifCond .eq 7, 3) := by decide +kernel
theorem dX7_goOn_78 : decode cX7_goOn 78 = .ok (.iload_n 3, 1) := by decide +kernel
theorem dX7_goOn_79 : decode cX7_goOn 79 = .ok (.goto 4, 3) := by decide +kernel
theorem dX7_goOn_82 : decode cX7_goOn 82 = .ok (.iconst 0, 1) := by decide +kernel
theorem dX7_goOn_83 : decode cX7_goOn 83 = .ok (.ireturn, 1) := by decide +kernel
set_option maxRecDepth 20000 in
theorem ggX7_canLock_X7_isOn : GoodIn wsX7_canLock wsX7_isOn := goodIn_r _ [4] (by decide +kernel) (by decide +kernel)
set_option maxRecDepth 20000 in
theorem gX7_canLock_X7_isOn : GoodIn wsX7_canLock (va_wsS RX7 96 yX7_isOn wsX7_isOn) := goodIn_app (goodIn_of _ (by decide +kernel)) ggX7_canLock_X7_isOn
theorem dX7_canLock_0 : decode cX7_canLock 0 = .ok (.aload_n 0, 1) := by decide +kernel
theorem dX7_canLock_1 : decode cX7_canLock 1 = .ok (.invokestatic 96, 3) := by decide +kernel
theorem dX7_canLock_4 : decode cX7_canLock 4 = .ok (.ifCond .eq 14, 3) := by decide +kernel
theorem dX7_canLock_7 : decode cX7_canLock 7 = .ok (.aload_n 0, 1) := by decide +kernel
theorem dX7_canLock_8 : decode cX7_canLock 8 = .ok (.iconst 2, 1) := by decide +kernel
theorem dX7_canLock_9 : decode cX7_canLock 9 = .ok (.iaload, 1) := by decide +kernel
theorem dX7_canLock_10 : decode cX7_canLock 10 = .ok (.iconst 1, 1) := by decide +kernel
theorem dX7_canLock_11 : decode cX7_canLock 11 = .ok (.if_icmp .ne 7, 3) := by decide +kernel
theorem dX7_canLock_14 : decode cX7_canLock 14 = .ok (.iconst 1, 1) := by decide +kernel
theorem dX7_canLock_15 : decode cX7_canLock 15 = .ok (.goto 4, 3) := by decide +kernel
theorem dX7_canLock_18 : decode cX7_canLock 18 = .ok (.iconst 0, 1) := by decide +kernel
theorem dX7_canLock_19 : decode cX7_canLock 19 = .ok (.ireturn, 1) := by decide +kernel
set_option maxRecDepth 20000 in
theorem ggX7_lockOn_X7_at : GoodIn wsX7_lockOn wsX7_at := goodIn_r _ [4] (by decide +kernel) (by decide +kernel)
set_option maxRecDepth 20000 in
theorem gX7_lockOn_X7_at : GoodIn wsX7_lockOn (va_wsS RX7 56 yX7_at wsX7_at) := goodIn_app (goodIn_of _ (by decide +kernel)) ggX7_lockOn_X7_at
set_option maxRecDepth 20000 in
theorem ggX7_lockOn_X7_endTurn : GoodIn wsX7_lockOn wsX7_endTurn := goodIn_r _ [7, 1, 2, 3, 4] (by decide +kernel) (by decide +kernel)
set_option maxRecDepth 20000 in
theorem gX7_lockOn_X7_endTurn : GoodIn wsX7_lockOn (va_wsS RX7 114 yX7_endTurn wsX7_endTurn) := goodIn_app (goodIn_of _ (by decide +kernel)) ggX7_lockOn_X7_endTurn
theorem dX7_lockOn_0 : decode cX7_lockOn 0 = .ok (.aload_n 0, 1) := by decide +kernel
theorem dX7_lockOn_1 : decode cX7_lockOn 1 = .ok (.aload_n 0, 1) := by decide +kernel
theorem dX7_lockOn_2 : decode cX7_lockOn 2 = .ok (.iconst 1, 1) := by decide +kernel
theorem dX7_lockOn_3 : decode cX7_lockOn 3 = .ok (.iaload, 1) := by decide +kernel
theorem dX7_lockOn_4 : decode cX7_lockOn 4 = .ok (.invokestatic 56, 3) := by decide +kernel
theorem dX7_lockOn_7 : decode cX7_lockOn 7 = .ok (.bipush 25, 2) := by decide +kernel
theorem dX7_lockOn_9 : decode cX7_lockOn 9 = .ok (.iadd, 1) := by decide +kernel
theorem dX7_lockOn_10 : decode cX7_lockOn 10 = .ok (.iload_n 1, 1) := by decide +kernel
theorem dX7_lockOn_11 : decode cX7_lockOn 11 = .ok (.iastore, 1) := by decide +kernel
theorem dX7_lockOn_12 : decode cX7_lockOn 12 = .ok (.aload_n 0, 1) := by decide +kernel
theorem dX7_lockOn_13 : decode cX7_lockOn 13 = .ok (.invokestatic 114, 3) := by decide +kernel
theorem dX7_lockOn_16 : decode cX7_lockOn 16 = .ok (.aload_n 0, 1) := by decide +kernel
theorem dX7_lockOn_17 : decode cX7_lockOn 17 = .ok (.iconst 4, 1) := by decide +kernel
theorem dX7_lockOn_18 : decode cX7_lockOn 18 = .ok (.iaload, 1) := by decide +kernel
theorem dX7_lockOn_19 : decode cX7_lockOn 19 = .ok (.iconst 1, 1) := by decide +kernel
theorem dX7_lockOn_20 : decode cX7_lockOn 20 = .ok (.if_icmp .ne 7, 3) := by decide +kernel
theorem dX7_lockOn_23 : decode cX7_lockOn 23 = .ok (.iconst (-1), 1) := by decide +kernel
theorem dX7_lockOn_24 : decode cX7_lockOn 24 = .ok (.goto 6, 3) := by decide +kernel
theorem dX7_lockOn_27 : decode cX7_lockOn 27 = .ok (.aload_n 0, 1) := by decide +kernel
theorem dX7_lockOn_28 : decode cX7_lockOn 28 = .ok (.iconst 1, 1) := by decide +kernel
theorem dX7_lockOn_29 : decode cX7_lockOn 29 = .ok (.iaload, 1) := by decide +kernel
theorem dX7_lockOn_30 : decode cX7_lockOn 30 = .ok (.ireturn, 1) := by decide +kernel
set_option maxRecDepth 20000 in
theorem ggX7_leaves_X7_copyState : GoodIn wsX7_leaves wsX7_copyState := goodIn_r _ [5] (by decide +kernel) (by decide +kernel)
set_option maxRecDepth 20000 in
theorem gX7_leaves_X7_copyState : GoodIn wsX7_leaves (va_wsS RX7 117 yX7_copyState wsX7_copyState) := goodIn_app (goodIn_of _ (by decide +kernel)) ggX7_leaves_X7_copyState
set_option maxRecDepth 20000 in
theorem ggX7_leaves_X7_push : GoodIn wsX7_leaves wsX7_push := goodIn_r _ [8, 9, 10, 4, 11, 12, 13, 14, 15, 16, 17] (by decide +kernel) (by decide +kernel)
set_option maxRecDepth 20000 in
theorem gX7_leaves_X7_push : GoodIn wsX7_leaves (va_wsS RX7 107 yX7_push wsX7_push) := goodIn_app (goodIn_of _ (by decide +kernel)) ggX7_leaves_X7_push
set_option maxRecDepth 20000 in
theorem ggX7_leaves_X7_canTake : GoodIn wsX7_leaves wsX7_canTake := goodIn_r _ [20, 21, 22, 4, 23, 24, 25, 26, 9, 10, 11, 27, 28, 29, 30, 31, 32, 33, 34, 35, 36, 37, 38] (by decide +kernel) (by decide +kernel)
set_option maxRecDepth 20000 in
theorem gX7_leaves_X7_canTake : GoodIn wsX7_leaves (va_wsS RX7 121 yX7_canTake wsX7_canTake) := goodIn_app (goodIn_of _ (by decide +kernel)) ggX7_leaves_X7_canTake
set_option maxRecDepth 20000 in
theorem ggX7_leaves_X7_reachable : GoodIn wsX7_leaves wsX7_reachable := goodIn_r _ [29, 30, 31, 4, 32, 9, 10, 11, 33, 34, 35, 36, 37, 38] (by decide +kernel) (by decide +kernel)
set_option maxRecDepth 20000 in
theorem gX7_leaves_X7_reachable : GoodIn wsX7_leaves (va_wsS RX7 85 yX7_reachable wsX7_reachable) := goodIn_app (goodIn_of _ (by decide +kernel)) ggX7_leaves_X7_reachable
set_option maxRecDepth 20000 in
theorem ggX7_leaves_X7_count : GoodIn wsX7_leaves wsX7_count := goodIn_r _ [41] (by decide +kernel) (by decide +kernel)
set_option maxRecDepth 20000 in
theorem gX7_leaves_X7_count : GoodIn wsX7_leaves (va_wsS RX7 111 yX7_count wsX7_count) := goodIn_app (goodIn_of _ (by decide +kernel)) ggX7_leaves_X7_count
theorem dX7_leaves_0 : decode cX7_leaves 0 = .ok (.aload_n 1, 1) := by decide +kernel
theorem dX7_leaves_1 : decode cX7_leaves 1 = .ok (.iconst 0, 1) := by decide +kernel
theorem dX7_leaves_2 : decode cX7_leaves 2 = .ok (.aload_n 0, 1) := by decide +kernel
theorem dX7_leaves_3 : decode cX7_leaves 3 = .ok (.getfield 19, 3) := by decide +kernel
theorem dX7_leaves_6 : decode cX7_leaves 6 = .ok (.iconst 0, 1) := by decide +kernel
theorem dX7_leaves_7 : decode cX7_leaves 7 = .ok (.invokestatic 117, 3) := by decide +kernel
theorem dX7_leaves_10 : decode cX7_leaves 10 = .ok (.aload_n 0, 1) := by decide +kernel
theorem dX7_leaves_11 : decode cX7_leaves 11 = .ok (.getfield 19, 3) := by decide +kernel
theorem dX7_leaves_14 : decode cX7_leaves 14 = .ok (.iload_n 2, 1) := by decide +kernel
theorem dX7_leaves_15 : decode cX7_leaves 15 = .ok (.iload_n 3, 1) := by decide +kernel
theorem dX7_leaves_16 : decode cX7_leaves 16 = .ok (.iload 4, 2) := by decide +kernel
theorem dX7_leaves_18 : decode cX7_leaves 18 = .ok (.invokestatic 107, 3) := by decide +kernel
theorem dX7_leaves_21 : decode cX7_leaves 21 = .ok (.aload_n 0, 1) := by decide +kernel
theorem dX7_leaves_22 : decode cX7_leaves 22 = .ok (.getfield 19, 3) := by decide +kernel
theorem dX7_leaves_25 : decode cX7_leaves 25 = .ok (.iload_n 2, 1) := by decide +kernel
theorem dX7_leaves_26 : decode cX7_leaves 26 = .ok (.invokestatic 121, 3) := by decide +kernel
theorem dX7_leaves_29 : decode cX7_leaves 29 = .ok (.ifCond .eq 8, 3) := by decide +kernel
theorem dX7_leaves_32 : decode cX7_leaves 32 = .ok (.bipush 100, 2) := by decide +kernel
theorem dX7_leaves_34 : decode cX7_leaves 34 = .ok (.goto 4, 3) := by decide +kernel
theorem dX7_leaves_37 : decode cX7_leaves 37 = .ok (.iconst 0, 1) := by decide +kernel
theorem dX7_leaves_38 : decode cX7_leaves 38 = .ok (.aload_n 0, 1) := by decide +kernel
theorem dX7_leaves_39 : decode cX7_leaves 39 = .ok (.getfield 19, 3) := by decide +kernel
theorem dX7_leaves_42 : decode cX7_leaves 42 = .ok (.iload_n 2, 1) := by decide +kernel
theorem dX7_leaves_43 : decode cX7_leaves 43 = .ok (.invokestatic 85, 3) := by decide +kernel
theorem dX7_leaves_46 : decode cX7_leaves 46 = .ok (.invokestatic 111, 3) := by decide +kernel
theorem dX7_leaves_49 : decode cX7_leaves 49 = .ok (.iadd, 1) := by decide +kernel
theorem dX7_leaves_50 : decode cX7_leaves 50 = .ok (.ireturn, 1) := by decide +kernel
set_option maxRecDepth 20000 in
theorem ggX7_findShift_X7_canShiftNow : GoodIn wsX7_findShift wsX7_canShiftNow := goodIn_r _ [7, 8, 9, 6, 10, 11, 12, 13, 14, 15, 16, 17, 18, 19, 20, 21, 22] (by decide +kernel) (by decide +kernel)
set_option maxRecDepth 20000 in
theorem gX7_findShift_X7_canShiftNow : GoodIn wsX7_findShift (va_wsS RX7 127 yX7_canShiftNow wsX7_canShiftNow) := goodIn_app (goodIn_of _ (by decide +kernel)) ggX7_findShift_X7_canShiftNow
set_option maxRecDepth 20000 in
theorem ggX7_findShift_X7_leaves : GoodIn wsX7_findShift wsX7_leaves := goodIn_r _ [26, 27, 28, 29, 6, 30, 31, 32, 33, 20, 21, 22, 34, 35, 36, 37, 38, 39, 40, 41, 42, 43, 44, 45, 46, 47, 48, 49, 50, 51, 52, 53, 54, 55, 56, 57, 58, 59, 60, 61, 62, 63, 64, 65, 66, 67, 68, 69, 70, 71, 72, 73, 74, 75, 76, 77, 78, 79] (by decide +kernel) (by decide +kernel)
set_option maxRecDepth 20000 in
theorem gX7_findShift_X7_leaves : GoodIn wsX7_findShift (wsV RX7 130 RX7 yX7_leaves wsX7_leaves) := goodIn_app (goodIn_of _ (by decide +kernel)) ggX7_findShift_X7_leaves
theorem dX7_findShift_0 : decode cX7_findShift 0 = .ok (.sipush 1000, 3) := by decide +kernel
theorem dX7_findShift_3 : decode cX7_findShift 3 = .ok (.istore_n 2, 1) := by decide +kernel
theorem dX7_findShift_4 : decode cX7_findShift 4 = .ok (.aload_n 0, 1) := by decide +kernel
theorem dX7_findShift_5 : decode cX7_findShift 5 = .ok (.iconst (-1), 1) := by decide +kernel
theorem dX7_findShift_6 : decode cX7_findShift 6 = .ok (.putfield 124, 3) := by decide +kernel
theorem dX7_findShift_9 : decode cX7_findShift 9 = .ok (.iconst 0, 1) := by decide +kernel
theorem dX7_findShift_10 : decode cX7_findShift 10 = .ok (.istore_n 3, 1) := by decide +kernel
theorem dX7_findShift_11 : decode cX7_findShift 11 = .ok (.iload_n 3, 1) := by decide +kernel
theorem dX7_findShift_12 : decode cX7_findShift 12 = .ok (.aload_n 1, 1) := by decide +kernel
theorem dX7_findShift_13 : decode cX7_findShift 13 = .ok (.iconst 0, 1) := by decide +kernel
theorem dX7_findShift_14 : decode cX7_findShift 14 = .ok (.iaload, 1) := by decide +kernel
theorem dX7_findShift_15 : decode cX7_findShift 15 = .ok (.if_icmp .ge 87, 3) := by decide +kernel
theorem dX7_findShift_18 : decode cX7_findShift 18 = .ok (.iconst 0, 1) := by decide +kernel
theorem dX7_findShift_19 : decode cX7_findShift 19 = .ok (.istore 4, 2) := by decide +kernel
theorem dX7_findShift_21 : decode cX7_findShift 21 = .ok (.iload 4, 2) := by decide +kernel
theorem dX7_findShift_23 : decode cX7_findShift 23 = .ok (.bipush 12, 2) := by decide +kernel
theorem dX7_findShift_25 : decode cX7_findShift 25 = .ok (.if_icmp .ge 71, 3) := by decide +kernel
theorem dX7_findShift_28 : decode cX7_findShift 28 = .ok (.aload_n 1, 1) := by decide +kernel
theorem dX7_findShift_29 : decode cX7_findShift 29 = .ok (.iload_n 3, 1) := by decide +kernel
theorem dX7_findShift_30 : decode cX7_findShift 30 = .ok (.iload 4, 2) := by decide +kernel
theorem dX7_findShift_32 : decode cX7_findShift 32 = .ok (.iconst 2, 1) := by decide +kernel
theorem dX7_findShift_33 : decode cX7_findShift 33 = .ok (.idiv, 1) := by decide +kernel
theorem dX7_findShift_34 : decode cX7_findShift 34 = .ok (.iload 4, 2) := by decide +kernel
theorem dX7_findShift_36 : decode cX7_findShift 36 = .ok (.iconst 2, 1) := by decide +kernel
theorem dX7_findShift_37 : decode cX7_findShift 37 = .ok (.irem, 1) := by decide +kernel
theorem dX7_findShift_38 : decode cX7_findShift 38 = .ok (.invokestatic 127, 3) := by decide +kernel
theorem dX7_findShift_41 : decode cX7_findShift 41 = .ok (.ifCond .eq 49, 3) := by decide +kernel
theorem dX7_findShift_44 : decode cX7_findShift 44 = .ok (.aload_n 0, 1) := by decide +kernel
theorem dX7_findShift_45 : decode cX7_findShift 45 = .ok (.aload_n 1, 1) := by decide +kernel
theorem dX7_findShift_46 : decode cX7_findShift 46 = .ok (.iload_n 3, 1) := by decide +kernel
theorem dX7_findShift_47 : decode cX7_findShift 47 = .ok (.iload 4, 2) := by decide +kernel
theorem dX7_findShift_49 : decode cX7_findShift 49 = .ok (.iconst 2, 1) := by decide +kernel
theorem dX7_findShift_50 : decode cX7_findShift 50 = .ok (.idiv, 1) := by decide +kernel
theorem dX7_findShift_51 : decode cX7_findShift 51 = .ok (.iload 4, 2) := by decide +kernel
theorem dX7_findShift_53 : decode cX7_findShift 53 = .ok (.iconst 2, 1) := by decide +kernel
theorem dX7_findShift_54 : decode cX7_findShift 54 = .ok (.irem, 1) := by decide +kernel
theorem dX7_findShift_55 : decode cX7_findShift 55 = .ok (.invokevirtual 130, 3) := by decide +kernel
theorem dX7_findShift_58 : decode cX7_findShift 58 = .ok (.istore 5, 2) := by decide +kernel
theorem dX7_findShift_60 : decode cX7_findShift 60 = .ok (.iload 5, 2) := by decide +kernel
theorem dX7_findShift_62 : decode cX7_findShift 62 = .ok (.iload_n 2, 1) := by decide +kernel
theorem dX7_findShift_63 : decode cX7_findShift 63 = .ok (.if_icmp .ge 27, 3) := by decide +kernel
theorem dX7_findShift_66 : decode cX7_findShift 66 = .ok (.iload 5, 2) := by decide +kernel
theorem dX7_findShift_68 : decode cX7_findShift 68 = .ok (.istore_n 2, 1) := by decide +kernel
theorem dX7_findShift_69 : decode cX7_findShift 69 = .ok (.aload_n 0, 1) := by decide +kernel
theorem dX7_findShift_70 : decode cX7_findShift 70 = .ok (.iload_n 3, 1) := by decide +kernel
theorem dX7_findShift_71 : decode cX7_findShift 71 = .ok (.putfield 124, 3) := by decide +kernel
theorem dX7_findShift_74 : decode cX7_findShift 74 = .ok (.aload_n 0, 1) := by decide +kernel
theorem dX7_findShift_75 : decode cX7_findShift 75 = .ok (.iload 4, 2) := by decide +kernel
theorem dX7_findShift_77 : decode cX7_findShift 77 = .ok (.iconst 2, 1) := by decide +kernel
theorem dX7_findShift_78 : decode cX7_findShift 78 = .ok (.idiv, 1) := by decide +kernel
theorem dX7_findShift_79 : decode cX7_findShift 79 = .ok (.putfield 134, 3) := by decide +kernel
theorem dX7_findShift_82 : decode cX7_findShift 82 = .ok (.aload_n 0, 1) := by decide +kernel
theorem dX7_findShift_83 : decode cX7_findShift 83 = .ok (.iload 4, 2) := by decide +kernel
theorem dX7_findShift_85 : decode cX7_findShift 85 = .ok (.iconst 2, 1) := by decide +kernel
theorem dX7_findShift_86 : decode cX7_findShift 86 = .ok (.irem, 1) := by decide +kernel
theorem dX7_findShift_87 : decode cX7_findShift 87 = .ok (.putfield 137, 3) := by decide +kernel
theorem dX7_findShift_90 : decode cX7_findShift 90 = .ok (.iinc 4 1, 3) := by decide +kernel
theorem dX7_findShift_93 : decode cX7_findShift 93 = .ok (.goto (-72), 3) := by decide +kernel
theorem dX7_findShift_96 : decode cX7_findShift 96 = .ok (.iinc 3 1, 3) := by decide +kernel
theorem dX7_findShift_99 : decode cX7_findShift 99 = .ok (.goto (-88), 3) := by decide +kernel
theorem dX7_findShift_102 : decode cX7_findShift 102 = .ok (.return_, 1) := by decide +kernel
theorem dX7_apartBy_0 : decode cX7_apartBy 0 = .ok (.iload_n 0, 1) := by decide +kernel
theorem dX7_apartBy_1 : decode cX7_apartBy 1 = .ok (.iconst 3, 1) := by decide +kernel
theorem dX7_apartBy_2 : decode cX7_apartBy 2 = .ok (.idiv, 1) := by decide +kernel
theorem dX7_apartBy_3 : decode cX7_apartBy 3 = .ok (.iload_n 1, 1) := by decide +kernel
theorem dX7_apartBy_4 : decode cX7_apartBy 4 = .ok (.iconst 3, 1) := by decide +kernel
theorem dX7_apartBy_5 : decode cX7_apartBy 5 = .ok (.idiv, 1) := by decide +kernel
theorem dX7_apartBy_6 : decode cX7_apartBy 6 = .ok (.isub, 1) := by decide +kernel
theorem dX7_apartBy_7 : decode cX7_apartBy 7 = .ok (.istore_n 2, 1) := by decide +kernel
theorem dX7_apartBy_8 : decode cX7_apartBy 8 = .ok (.iload_n 0, 1) := by decide +kernel
theorem dX7_apartBy_9 : decode cX7_apartBy 9 = .ok (.iconst 3, 1) := by decide +kernel
theorem dX7_apartBy_10 : decode cX7_apartBy 10 = .ok (.irem, 1) := by decide +kernel
theorem dX7_apartBy_11 : decode cX7_apartBy 11 = .ok (.iload_n 1, 1) := by decide +kernel
theorem dX7_apartBy_12 : decode cX7_apartBy 12 = .ok (.iconst 3, 1) := by decide +kernel
theorem dX7_apartBy_13 : decode cX7_apartBy 13 = .ok (.irem, 1) := by decide +kernel
theorem dX7_apartBy_14 : decode cX7_apartBy 14 = .ok (.isub, 1) := by decide +kernel
theorem dX7_apartBy_15 : decode cX7_apartBy 15 = .ok (.istore_n 3, 1) := by decide +kernel
theorem dX7_apartBy_16 : decode cX7_apartBy 16 = .ok (.iload_n 2, 1) := by decide +kernel
theorem dX7_apartBy_17 : decode cX7_apartBy 17 = .ok (.ifCond .ge 8, 3) := by decide +kernel
theorem dX7_apartBy_20 : decode cX7_apartBy 20 = .ok (.iload_n 2, 1) := by decide +kernel
theorem dX7_apartBy_21 : decode cX7_apartBy 21 = .ok (.ineg, 1) := by decide +kernel
theorem dX7_apartBy_22 : decode cX7_apartBy 22 = .ok (.goto 4, 3) := by decide +kernel
theorem dX7_apartBy_25 : decode cX7_apartBy 25 = .ok (.iload_n 2, 1) := by decide +kernel
theorem dX7_apartBy_26 : decode cX7_apartBy 26 = .ok (.iload_n 3, 1) := by decide +kernel
theorem dX7_apartBy_27 : decode cX7_apartBy 27 = .ok (.ifCond .ge 8, 3) := by decide +kernel
theorem dX7_apartBy_30 : decode cX7_apartBy 30 = .ok (.iload_n 3, 1) := by decide +kernel
theorem dX7_apartBy_31 : decode cX7_apartBy 31 = .ok (.ineg, 1) := by decide +kernel
theorem dX7_apartBy_32 : decode cX7_apartBy 32 = .ok (.goto 4, 3) := by decide +kernel
theorem dX7_apartBy_35 : decode cX7_apartBy 35 = .ok (.iload_n 3, 1) := by decide +kernel
theorem dX7_apartBy_36 : decode cX7_apartBy 36 = .ok (.iadd, 1) := by decide +kernel
theorem dX7_apartBy_37 : decode cX7_apartBy 37 = .ok (.ireturn, 1) := by decide +kernel
set_option maxRecDepth 20000 in
theorem ggX7_playOn_X7_findShift : GoodIn wsX7_playOn wsX7_findShift := goodIn_r _ [8, 1, 2, 3, 9, 10, 7, 11, 12, 13, 14, 15, 16, 17, 18, 19, 20, 21, 22, 23, 24, 25, 26, 27, 28, 29, 30, 31, 32, 33, 34, 35, 36, 37, 38, 39, 40, 41, 42, 43, 44, 45, 46, 47, 48, 49, 50, 51, 52, 53, 54, 55, 56, 57, 58, 59, 60, 61, 62, 63, 64, 65, 66, 67, 80, 81, 82, 83, 84, 85, 86, 87, 88, 89, 90, 91, 92, 93, 94, 95] (by decide +kernel) (by decide +kernel)
set_option maxRecDepth 20000 in
theorem gX7_playOn_X7_findShift : GoodIn wsX7_playOn (wsV RX7 140 RX7 yX7_findShift wsX7_findShift) := goodIn_app (goodIn_of _ (by decide +kernel)) ggX7_playOn_X7_findShift
set_option maxRecDepth 20000 in
theorem ggX7_playOn_X7_shiftOn : GoodIn wsX7_playOn wsX7_shiftOn := goodIn_r _ [70, 35, 36, 7, 37, 24, 25, 26, 38, 39, 40, 41, 42, 43, 53, 54, 55, 56, 57, 58, 59, 60, 61, 62, 63, 64, 65, 66, 67] (by decide +kernel) (by decide +kernel)
set_option maxRecDepth 20000 in
theorem gX7_playOn_X7_shiftOn : GoodIn wsX7_playOn (va_wsS RX7 143 yX7_shiftOn wsX7_shiftOn) := goodIn_app (goodIn_of _ (by decide +kernel)) ggX7_playOn_X7_shiftOn
set_option maxRecDepth 20000 in
theorem ggX7_playOn_X7_placeOfSought : GoodIn wsX7_playOn wsX7_placeOfSought := goodIn_r _ [49, 50, 51, 7, 52, 24, 25, 26] (by decide +kernel) (by decide +kernel)
set_option maxRecDepth 20000 in
theorem gX7_playOn_X7_placeOfSought : GoodIn wsX7_playOn (va_wsS RX7 82 yX7_placeOfSought wsX7_placeOfSought) := goodIn_app (goodIn_of _ (by decide +kernel)) ggX7_playOn_X7_placeOfSought
set_option maxRecDepth 20000 in
theorem ggX7_playOn_X7_reachable : GoodIn wsX7_playOn wsX7_reachable := goodIn_r _ [55, 56, 57, 7, 58, 24, 25, 26, 59, 60, 61, 62, 63, 64] (by decide +kernel) (by decide +kernel)
set_option maxRecDepth 20000 in
theorem gX7_playOn_X7_reachable : GoodIn wsX7_playOn (va_wsS RX7 85 yX7_reachable wsX7_reachable) := goodIn_app (goodIn_of _ (by decide +kernel)) ggX7_playOn_X7_reachable
set_option maxRecDepth 20000 in
theorem ggX7_playOn_X7_apartBy : GoodIn wsX7_playOn wsX7_apartBy := goodIn_r _ [73] (by decide +kernel) (by decide +kernel)
set_option maxRecDepth 20000 in
theorem gX7_playOn_X7_apartBy : GoodIn wsX7_playOn (va_wsS RX7 146 yX7_apartBy wsX7_apartBy) := goodIn_app (goodIn_of _ (by decide +kernel)) ggX7_playOn_X7_apartBy
set_option maxRecDepth 20000 in
theorem ggX7_playOn_X7_goOn : GoodIn wsX7_playOn wsX7_goOn := goodIn_r _ [76, 24, 25, 7, 26, 50, 51, 52, 77, 78, 79] (by decide +kernel) (by decide +kernel)
set_option maxRecDepth 20000 in
theorem gX7_playOn_X7_goOn : GoodIn wsX7_playOn (va_wsS RX7 149 yX7_goOn wsX7_goOn) := goodIn_app (goodIn_of _ (by decide +kernel)) ggX7_playOn_X7_goOn
theorem dX7_playOn_0 : decode cX7_playOn 0 = .ok (.aload_n 1, 1) := by decide +kernel
theorem dX7_playOn_1 : decode cX7_playOn 1 = .ok (.iconst 2, 1) := by decide +kernel
theorem dX7_playOn_2 : decode cX7_playOn 2 = .ok (.iaload, 1) := by decide +kernel
theorem dX7_playOn_3 : decode cX7_playOn 3 = .ok (.ifCond .ne 25, 3) := by decide +kernel
theorem dX7_playOn_6 : decode cX7_playOn 6 = .ok (.aload_n 0, 1) := by decide +kernel
theorem dX7_playOn_7 : decode cX7_playOn 7 = .ok (.aload_n 1, 1) := by decide +kernel
theorem dX7_playOn_8 : decode cX7_playOn 8 = .ok (.invokevirtual 140, 3) := by decide +kernel
theorem dX7_playOn_11 : decode cX7_playOn 11 = .ok (.aload_n 1, 1) := by decide +kernel
theorem dX7_playOn_12 : decode cX7_playOn 12 = .ok (.aload_n 0, 1) := by decide +kernel
theorem dX7_playOn_13 : decode cX7_playOn 13 = .ok (.getfield 124, 3) := by decide +kernel
theorem dX7_playOn_16 : decode cX7_playOn 16 = .ok (.aload_n 0, 1) := by decide +kernel
theorem dX7_playOn_17 : decode cX7_playOn 17 = .ok (.getfield 134, 3) := by decide +kernel
theorem dX7_playOn_20 : decode cX7_playOn 20 = .ok (.aload_n 0, 1) := by decide +kernel
theorem dX7_playOn_21 : decode cX7_playOn 21 = .ok (.getfield 137, 3) := by decide +kernel
theorem dX7_playOn_24 : decode cX7_playOn 24 = .ok (.invokestatic 143, 3) := by decide +kernel
theorem dX7_playOn_27 : decode cX7_playOn 27 = .ok (.pop, 1) := by decide +kernel
theorem dX7_playOn_28 : decode cX7_playOn 28 = .ok (.aload_n 1, 1) := by decide +kernel
theorem dX7_playOn_29 : decode cX7_playOn 29 = .ok (.iconst 1, 1) := by decide +kernel
theorem dX7_playOn_30 : decode cX7_playOn 30 = .ok (.iaload, 1) := by decide +kernel
theorem dX7_playOn_31 : decode cX7_playOn 31 = .ok (.istore_n 2, 1) := by decide +kernel
theorem dX7_playOn_32 : decode cX7_playOn 32 = .ok (.aload_n 1, 1) := by decide +kernel
theorem dX7_playOn_33 : decode cX7_playOn 33 = .ok (.iload_n 2, 1) := by decide +kernel
theorem dX7_playOn_34 : decode cX7_playOn 34 = .ok (.invokestatic 82, 3) := by decide +kernel
theorem dX7_playOn_37 : decode cX7_playOn 37 = .ok (.istore_n 3, 1) := by decide +kernel
theorem dX7_playOn_38 : decode cX7_playOn 38 = .ok (.aload_n 1, 1) := by decide +kernel
theorem dX7_playOn_39 : decode cX7_playOn 39 = .ok (.iload_n 2, 1) := by decide +kernel
theorem dX7_playOn_40 : decode cX7_playOn 40 = .ok (.invokestatic 85, 3) := by decide +kernel
theorem dX7_playOn_43 : decode cX7_playOn 43 = .ok (.istore 4, 2) := by decide +kernel
theorem dX7_playOn_45 : decode cX7_playOn 45 = .ok (.iconst (-1), 1) := by decide +kernel
theorem dX7_playOn_46 : decode cX7_playOn 46 = .ok (.istore 5, 2) := by decide +kernel
theorem dX7_playOn_48 : decode cX7_playOn 48 = .ok (.iconst 0, 1) := by decide +kernel
theorem dX7_playOn_49 : decode cX7_playOn 49 = .ok (.istore 6, 2) := by decide +kernel
theorem dX7_playOn_51 : decode cX7_playOn 51 = .ok (.iload 6, 2) := by decide +kernel
theorem dX7_playOn_53 : decode cX7_playOn 53 = .ok (.bipush 9, 2) := by decide +kernel
theorem dX7_playOn_55 : decode cX7_playOn 55 = .ok (.if_icmp .ge 62, 3) := by decide +kernel
theorem dX7_playOn_58 : decode cX7_playOn 58 = .ok (.iload 4, 2) := by decide +kernel
theorem dX7_playOn_60 : decode cX7_playOn 60 = .ok (.iload 6, 2) := by decide +kernel
theorem dX7_playOn_62 : decode cX7_playOn 62 = .ok (.ishr, 1) := by decide +kernel
theorem dX7_playOn_63 : decode cX7_playOn 63 = .ok (.iconst 1, 1) := by decide +kernel
theorem dX7_playOn_64 : decode cX7_playOn 64 = .ok (.iand, 1) := by decide +kernel
theorem dX7_playOn_65 : decode cX7_playOn 65 = .ok (.iconst 1, 1) := by decide +kernel
theorem dX7_playOn_66 : decode cX7_playOn 66 = .ok (.if_icmp .ne 7, 3) := by decide +kernel
theorem dX7_playOn_69 : decode cX7_playOn 69 = .ok (.iconst 1, 1) := by decide +kernel
theorem dX7_playOn_70 : decode cX7_playOn 70 = .ok (.goto 4, 3) := by decide +kernel
theorem dX7_playOn_73 : decode cX7_playOn 73 = .ok (.iconst 0, 1) := by decide +kernel
theorem dX7_playOn_74 : decode cX7_playOn 74 = .ok (.istore 7, 2) := by decide +kernel
theorem dX7_playOn_76 : decode cX7_playOn 76 = .ok (.iload 7, 2) := by decide +kernel
theorem dX7_playOn_78 : decode cX7_playOn 78 = .ok (.ifCond .eq 29, 3) := by decide +kernel
theorem dX7_playOn_81 : decode cX7_playOn 81 = .ok (.iload 5, 2) := by decide +kernel
theorem dX7_playOn_83 : decode cX7_playOn 83 = .ok (.iconst (-1), 1) := by decide +kernel
theorem dX7_playOn_84 : decode cX7_playOn 84 = .ok (.if_icmp .eq 18, 3) := by decide +kernel
theorem dX7_playOn_87 : decode cX7_playOn 87 = .ok (.iload 6, 2) := by decide +kernel
theorem dX7_playOn_89 : decode cX7_playOn 89 = .ok (.iload_n 3, 1) := by decide +kernel
theorem dX7_playOn_90 : decode cX7_playOn 90 = .ok (.invokestatic 146, 3) := by decide +kernel
theorem dX7_playOn_93 : decode cX7_playOn 93 = .ok (.iload 5, 2) := by decide +kernel
theorem dX7_playOn_95 : decode cX7_playOn 95 = .ok (.iload_n 3, 1) := by decide +kernel
theorem dX7_playOn_96 : decode cX7_playOn 96 = .ok (.invokestatic 146, 3) := by decide +kernel
theorem dX7_playOn_99 : decode cX7_playOn 99 = .ok (.if_icmp .ge 8, 3) := by decide +kernel
theorem dX7_playOn_102 : decode cX7_playOn 102 = .ok (.iload 6, 2) := by decide +kernel
theorem dX7_playOn_104 : decode cX7_playOn 104 = .ok (.goto 5, 3) := by decide +kernel
theorem dX7_playOn_107 : decode cX7_playOn 107 = .ok (.iload 5, 2) := by decide +kernel
theorem dX7_playOn_109 : decode cX7_playOn 109 = .ok (.istore 5, 2) := by decide +kernel
theorem dX7_playOn_111 : decode cX7_playOn 111 = .ok (.iinc 6 1, 3) := by decide +kernel
theorem dX7_playOn_114 : decode cX7_playOn 114 = .ok (.goto (-63), 3) := by decide +kernel
theorem dX7_playOn_117 : decode cX7_playOn 117 = .ok (.aload_n 1, 1) := by decide +kernel
theorem dX7_playOn_118 : decode cX7_playOn 118 = .ok (.iload 5, 2) := by decide +kernel
theorem dX7_playOn_120 : decode cX7_playOn 120 = .ok (.invokestatic 149, 3) := by decide +kernel
theorem dX7_playOn_123 : decode cX7_playOn 123 = .ok (.ireturn, 1) := by decide +kernel
set_option maxRecDepth 20000 in
theorem ggX7_isSetting_X7_in : GoodIn wsX7_isSetting wsX7_in := goodIn_r _ [8] (by decide +kernel) (by decide +kernel)
set_option maxRecDepth 20000 in
theorem gX7_isSetting_X7_in : GoodIn wsX7_isSetting (va_wsS RX7 40 yX7_in wsX7_in) := goodIn_app (goodIn_of _ (by decide +kernel)) ggX7_isSetting_X7_in
theorem dX7_isSetting_0 : decode cX7_isSetting 0 = .ok (.iload_n 0, 1) := by decide +kernel
theorem dX7_isSetting_1 : decode cX7_isSetting 1 = .ok (.i2l, 1) := by decide +kernel
theorem dX7_isSetting_2 : decode cX7_isSetting 2 = .ok (.lconst 0, 1) := by decide +kernel
theorem dX7_isSetting_3 : decode cX7_isSetting 3 = .ok (.ldc2_w 152, 3) := by decide +kernel
theorem dX7_isSetting_6 : decode cX7_isSetting 6 = .ok (.invokestatic 40, 3) := by decide +kernel
theorem dX7_isSetting_9 : decode cX7_isSetting 9 = .ok (.ifCond .eq 40, 3) := by decide +kernel
theorem dX7_isSetting_12 : decode cX7_isSetting 12 = .ok (.iload_n 1, 1) := by decide +kernel
theorem dX7_isSetting_13 : decode cX7_isSetting 13 = .ok (.i2l, 1) := by decide +kernel
theorem dX7_isSetting_14 : decode cX7_isSetting 14 = .ok (.lconst 1, 1) := by decide +kernel
theorem dX7_isSetting_15 : decode cX7_isSetting 15 = .ok (.iload_n 0, 1) := by decide +kernel
theorem dX7_isSetting_16 : decode cX7_isSetting 16 = .ok (.ifCond .ne 9, 3) := by decide +kernel
theorem dX7_isSetting_19 : decode cX7_isSetting 19 = .ok (.ldc2_w 154, 3) := by decide +kernel
theorem dX7_isSetting_22 : decode cX7_isSetting 22 = .ok (.goto 17, 3) := by decide +kernel
theorem dX7_isSetting_25 : decode cX7_isSetting 25 = .ok (.iload_n 0, 1) := by decide +kernel
theorem dX7_isSetting_26 : decode cX7_isSetting 26 = .ok (.iconst 1, 1) := by decide +kernel
theorem dX7_isSetting_27 : decode cX7_isSetting 27 = .ok (.if_icmp .ne 9, 3) := by decide +kernel
theorem dX7_isSetting_30 : decode cX7_isSetting 30 = .ok (.ldc2_w 46, 3) := by decide +kernel
theorem dX7_isSetting_33 : decode cX7_isSetting 33 = .ok (.goto 6, 3) := by decide +kernel
theorem dX7_isSetting_36 : decode cX7_isSetting 36 = .ok (.ldc2_w 156, 3) := by decide +kernel
theorem dX7_isSetting_39 : decode cX7_isSetting 39 = .ok (.invokestatic 40, 3) := by decide +kernel
theorem dX7_isSetting_42 : decode cX7_isSetting 42 = .ok (.ifCond .eq 7, 3) := by decide +kernel
theorem dX7_isSetting_45 : decode cX7_isSetting 45 = .ok (.iconst 1, 1) := by decide +kernel
theorem dX7_isSetting_46 : decode cX7_isSetting 46 = .ok (.goto 4, 3) := by decide +kernel
theorem dX7_isSetting_49 : decode cX7_isSetting 49 = .ok (.iconst 0, 1) := by decide +kernel
theorem dX7_isSetting_50 : decode cX7_isSetting 50 = .ok (.ireturn, 1) := by decide +kernel
set_option maxRecDepth 20000 in
theorem ggX7_takenByAll_X7_at : GoodIn wsX7_takenByAll wsX7_at := goodIn_r _ [4] (by decide +kernel) (by decide +kernel)
set_option maxRecDepth 20000 in
theorem gX7_takenByAll_X7_at : GoodIn wsX7_takenByAll (va_wsS RX7 56 yX7_at wsX7_at) := goodIn_app (goodIn_of _ (by decide +kernel)) ggX7_takenByAll_X7_at
theorem dX7_takenByAll_0 : decode cX7_takenByAll 0 = .ok (.iconst 0, 1) := by decide +kernel
theorem dX7_takenByAll_1 : decode cX7_takenByAll 1 = .ok (.istore_n 1, 1) := by decide +kernel
theorem dX7_takenByAll_2 : decode cX7_takenByAll 2 = .ok (.iconst 0, 1) := by decide +kernel
theorem dX7_takenByAll_3 : decode cX7_takenByAll 3 = .ok (.istore_n 2, 1) := by decide +kernel
theorem dX7_takenByAll_4 : decode cX7_takenByAll 4 = .ok (.iload_n 2, 1) := by decide +kernel
theorem dX7_takenByAll_5 : decode cX7_takenByAll 5 = .ok (.aload_n 0, 1) := by decide +kernel
theorem dX7_takenByAll_6 : decode cX7_takenByAll 6 = .ok (.iconst 0, 1) := by decide +kernel
theorem dX7_takenByAll_7 : decode cX7_takenByAll 7 = .ok (.iaload, 1) := by decide +kernel
theorem dX7_takenByAll_8 : decode cX7_takenByAll 8 = .ok (.if_icmp .ge 21, 3) := by decide +kernel
theorem dX7_takenByAll_11 : decode cX7_takenByAll 11 = .ok (.iload_n 1, 1) := by decide +kernel
theorem dX7_takenByAll_12 : decode cX7_takenByAll 12 = .ok (.aload_n 0, 1) := by decide +kernel
theorem dX7_takenByAll_13 : decode cX7_takenByAll 13 = .ok (.iload_n 2, 1) := by decide +kernel
theorem dX7_takenByAll_14 : decode cX7_takenByAll 14 = .ok (.invokestatic 56, 3) := by decide +kernel
theorem dX7_takenByAll_17 : decode cX7_takenByAll 17 = .ok (.bipush 23, 2) := by decide +kernel
theorem dX7_takenByAll_19 : decode cX7_takenByAll 19 = .ok (.iadd, 1) := by decide +kernel
theorem dX7_takenByAll_20 : decode cX7_takenByAll 20 = .ok (.iaload, 1) := by decide +kernel
theorem dX7_takenByAll_21 : decode cX7_takenByAll 21 = .ok (.iadd, 1) := by decide +kernel
theorem dX7_takenByAll_22 : decode cX7_takenByAll 22 = .ok (.istore_n 1, 1) := by decide +kernel
theorem dX7_takenByAll_23 : decode cX7_takenByAll 23 = .ok (.iinc 2 1, 3) := by decide +kernel
theorem dX7_takenByAll_26 : decode cX7_takenByAll 26 = .ok (.goto (-22), 3) := by decide +kernel
theorem dX7_takenByAll_29 : decode cX7_takenByAll 29 = .ok (.iload_n 1, 1) := by decide +kernel
theorem dX7_takenByAll_30 : decode cX7_takenByAll 30 = .ok (.ireturn, 1) := by decide +kernel
set_option maxRecDepth 20000 in
theorem ggX7_append_X7_in : GoodIn wsX7_append wsX7_in := goodIn_r _ [7] (by decide +kernel) (by decide +kernel)
set_option maxRecDepth 20000 in
theorem gX7_append_X7_in : GoodIn wsX7_append (va_wsS RX7 40 yX7_in wsX7_in) := goodIn_app (goodIn_of _ (by decide +kernel)) ggX7_append_X7_in
set_option maxRecDepth 20000 in
theorem ggX7_append_X7_refused : GoodIn wsX7_append wsX7_refused := goodIn_r _ [11, 12, 13, 14, 15, 16, 17, 18, 19, 20, 21, 22, 23, 24, 25, 26, 27, 28] (by decide +kernel) (by decide +kernel)
set_option maxRecDepth 20000 in
theorem gX7_append_X7_refused : GoodIn wsX7_append (wsV RX7 163 RX7 yX7_refused wsX7_refused) := goodIn_app (goodIn_of _ (by decide +kernel)) ggX7_append_X7_refused
theorem dX7_append_0 : decode cX7_append 0 = .ok (.aload_n 0, 1) := by decide +kernel
theorem dX7_append_1 : decode cX7_append 1 = .ok (.iload_n 1, 1) := by decide +kernel
theorem dX7_append_2 : decode cX7_append 2 = .ok (.i2l, 1) := by decide +kernel
theorem dX7_append_3 : decode cX7_append 3 = .ok (.lconst 0, 1) := by decide +kernel
theorem dX7_append_4 : decode cX7_append 4 = .ok (.ldc2_w 158, 3) := by decide +kernel
theorem dX7_append_7 : decode cX7_append 7 = .ok (.invokestatic 40, 3) := by decide +kernel
theorem dX7_append_10 : decode cX7_append 10 = .ok (.ifCond .ne 7, 3) := by decide +kernel
theorem dX7_append_13 : decode cX7_append 13 = .ok (.iconst 1, 1) := by decide +kernel
theorem dX7_append_14 : decode cX7_append 14 = .ok (.goto 17, 3) := by decide +kernel
theorem dX7_append_17 : decode cX7_append 17 = .ok (.aload_n 0, 1) := by decide +kernel
theorem dX7_append_18 : decode cX7_append 18 = .ok (.getfield 160, 3) := by decide +kernel
theorem dX7_append_21 : decode cX7_append 21 = .ok (.bipush 120, 2) := by decide +kernel
theorem dX7_append_23 : decode cX7_append 23 = .ok (.if_icmp .ne 7, 3) := by decide +kernel
theorem dX7_append_26 : decode cX7_append 26 = .ok (.iconst 2, 1) := by decide +kernel
theorem dX7_append_27 : decode cX7_append 27 = .ok (.goto 4, 3) := by decide +kernel
theorem dX7_append_30 : decode cX7_append 30 = .ok (.iconst 0, 1) := by decide +kernel
theorem dX7_append_31 : decode cX7_append 31 = .ok (.invokevirtual 163, 3) := by decide +kernel
theorem dX7_append_34 : decode cX7_append 34 = .ok (.ifCond .eq 5, 3) := by decide +kernel
theorem dX7_append_37 : decode cX7_append 37 = .ok (.iconst 0, 1) := by decide +kernel
theorem dX7_append_38 : decode cX7_append 38 = .ok (.ireturn, 1) := by decide +kernel
theorem dX7_append_39 : decode cX7_append 39 = .ok (.aload_n 0, 1) := by decide +kernel
theorem dX7_append_40 : decode cX7_append 40 = .ok (.getfield 7, 3) := by decide +kernel
theorem dX7_append_43 : decode cX7_append 43 = .ok (.aload_n 0, 1) := by decide +kernel
theorem dX7_append_44 : decode cX7_append 44 = .ok (.getfield 160, 3) := by decide +kernel
theorem dX7_append_47 : decode cX7_append 47 = .ok (.iload_n 1, 1) := by decide +kernel
theorem dX7_append_48 : decode cX7_append 48 = .ok (.iastore, 1) := by decide +kernel
theorem dX7_append_49 : decode cX7_append 49 = .ok (.aload_n 0, 1) := by decide +kernel
theorem dX7_append_50 : decode cX7_append 50 = .ok (.dup, 1) := by decide +kernel
theorem dX7_append_51 : decode cX7_append 51 = .ok (.getfield 160, 3) := by decide +kernel
theorem dX7_append_54 : decode cX7_append 54 = .ok (.iconst 1, 1) := by decide +kernel
theorem dX7_append_55 : decode cX7_append 55 = .ok (.iadd, 1) := by decide +kernel
theorem dX7_append_56 : decode cX7_append 56 = .ok (.putfield 160, 3) := by decide +kernel
theorem dX7_append_59 : decode cX7_append 59 = .ok (.aload_n 0, 1) := by decide +kernel
theorem dX7_append_60 : decode cX7_append 60 = .ok (.getfield 160, 3) := by decide +kernel
theorem dX7_append_63 : decode cX7_append 63 = .ok (.ireturn, 1) := by decide +kernel
theorem dX7_clearText_0 : decode cX7_clearText 0 = .ok (.aload_n 0, 1) := by decide +kernel
theorem dX7_clearText_1 : decode cX7_clearText 1 = .ok (.iconst 0, 1) := by decide +kernel
theorem dX7_clearText_2 : decode cX7_clearText 2 = .ok (.putfield 36, 3) := by decide +kernel
theorem dX7_clearText_5 : decode cX7_clearText 5 = .ok (.aload_n 0, 1) := by decide +kernel
theorem dX7_clearText_6 : decode cX7_clearText 6 = .ok (.getfield 160, 3) := by decide +kernel
theorem dX7_clearText_9 : decode cX7_clearText 9 = .ok (.istore_n 1, 1) := by decide +kernel
theorem dX7_clearText_10 : decode cX7_clearText 10 = .ok (.aload_n 0, 1) := by decide +kernel
theorem dX7_clearText_11 : decode cX7_clearText 11 = .ok (.iconst 0, 1) := by decide +kernel
theorem dX7_clearText_12 : decode cX7_clearText 12 = .ok (.putfield 160, 3) := by decide +kernel
theorem dX7_clearText_15 : decode cX7_clearText 15 = .ok (.iload_n 1, 1) := by decide +kernel
theorem dX7_clearText_16 : decode cX7_clearText 16 = .ok (.ireturn, 1) := by decide +kernel
set_option maxRecDepth 20000 in
theorem ggX7_digit_X7_in : GoodIn wsX7_digit wsX7_in := goodIn_r _ [7] (by decide +kernel) (by decide +kernel)
set_option maxRecDepth 20000 in
theorem gX7_digit_X7_in : GoodIn wsX7_digit (va_wsS RX7 40 yX7_in wsX7_in) := goodIn_app (goodIn_of _ (by decide +kernel)) ggX7_digit_X7_in
theorem dX7_digit_0 : decode cX7_digit 0 = .ok (.aload_n 0, 1) := by decide +kernel
theorem dX7_digit_1 : decode cX7_digit 1 = .ok (.getfield 167, 3) := by decide +kernel
theorem dX7_digit_4 : decode cX7_digit 4 = .ok (.aload_n 0, 1) := by decide +kernel
theorem dX7_digit_5 : decode cX7_digit 5 = .ok (.getfield 160, 3) := by decide +kernel
theorem dX7_digit_8 : decode cX7_digit 8 = .ok (.if_icmp .ge 18, 3) := by decide +kernel
theorem dX7_digit_11 : decode cX7_digit 11 = .ok (.aload_n 0, 1) := by decide +kernel
theorem dX7_digit_12 : decode cX7_digit 12 = .ok (.getfield 7, 3) := by decide +kernel
theorem dX7_digit_15 : decode cX7_digit 15 = .ok (.aload_n 0, 1) := by decide +kernel
theorem dX7_digit_16 : decode cX7_digit 16 = .ok (.getfield 167, 3) := by decide +kernel
theorem dX7_digit_19 : decode cX7_digit 19 = .ok (.iaload, 1) := by decide +kernel
theorem dX7_digit_20 : decode cX7_digit 20 = .ok (.bipush 48, 2) := by decide +kernel
theorem dX7_digit_22 : decode cX7_digit 22 = .ok (.isub, 1) := by decide +kernel
theorem dX7_digit_23 : decode cX7_digit 23 = .ok (.goto 4, 3) := by decide +kernel
theorem dX7_digit_26 : decode cX7_digit 26 = .ok (.iconst (-1), 1) := by decide +kernel
theorem dX7_digit_27 : decode cX7_digit 27 = .ok (.istore_n 3, 1) := by decide +kernel
theorem dX7_digit_28 : decode cX7_digit 28 = .ok (.iload_n 3, 1) := by decide +kernel
theorem dX7_digit_29 : decode cX7_digit 29 = .ok (.i2l, 1) := by decide +kernel
theorem dX7_digit_30 : decode cX7_digit 30 = .ok (.iload_n 1, 1) := by decide +kernel
theorem dX7_digit_31 : decode cX7_digit 31 = .ok (.i2l, 1) := by decide +kernel
theorem dX7_digit_32 : decode cX7_digit 32 = .ok (.iload_n 2, 1) := by decide +kernel
theorem dX7_digit_33 : decode cX7_digit 33 = .ok (.i2l, 1) := by decide +kernel
theorem dX7_digit_34 : decode cX7_digit 34 = .ok (.invokestatic 40, 3) := by decide +kernel
theorem dX7_digit_37 : decode cX7_digit 37 = .ok (.ifCond .ne 5, 3) := by decide +kernel
theorem dX7_digit_40 : decode cX7_digit 40 = .ok (.iconst (-1), 1) := by decide +kernel
theorem dX7_digit_41 : decode cX7_digit 41 = .ok (.ireturn, 1) := by decide +kernel
theorem dX7_digit_42 : decode cX7_digit 42 = .ok (.aload_n 0, 1) := by decide +kernel
theorem dX7_digit_43 : decode cX7_digit 43 = .ok (.dup, 1) := by decide +kernel
theorem dX7_digit_44 : decode cX7_digit 44 = .ok (.getfield 167, 3) := by decide +kernel
theorem dX7_digit_47 : decode cX7_digit 47 = .ok (.iconst 1, 1) := by decide +kernel
theorem dX7_digit_48 : decode cX7_digit 48 = .ok (.iadd, 1) := by decide +kernel
theorem dX7_digit_49 : decode cX7_digit 49 = .ok (.putfield 167, 3) := by decide +kernel
theorem dX7_digit_52 : decode cX7_digit 52 = .ok (.iload_n 3, 1) := by decide +kernel
theorem dX7_digit_53 : decode cX7_digit 53 = .ok (.ireturn, 1) := by decide +kernel
theorem dX7_done_0 : decode cX7_done 0 = .ok (.aload_n 0, 1) := by decide +kernel
theorem dX7_done_1 : decode cX7_done 1 = .ok (.dup, 1) := by decide +kernel
theorem dX7_done_2 : decode cX7_done 2 = .ok (.getfield 170, 3) := by decide +kernel
theorem dX7_done_5 : decode cX7_done 5 = .ok (.iload_n 1, 1) := by decide +kernel
theorem dX7_done_6 : decode cX7_done 6 = .ok (.ifCond .eq 7, 3) := by decide +kernel
theorem dX7_done_9 : decode cX7_done 9 = .ok (.iconst 0, 1) := by decide +kernel
theorem dX7_done_10 : decode cX7_done 10 = .ok (.goto 4, 3) := by decide +kernel
theorem dX7_done_13 : decode cX7_done 13 = .ok (.iconst 1, 1) := by decide +kernel
theorem dX7_done_14 : decode cX7_done 14 = .ok (.iadd, 1) := by decide +kernel
theorem dX7_done_15 : decode cX7_done 15 = .ok (.putfield 170, 3) := by decide +kernel
theorem dX7_done_18 : decode cX7_done 18 = .ok (.iconst 1, 1) := by decide +kernel
theorem dX7_done_19 : decode cX7_done 19 = .ok (.ireturn, 1) := by decide +kernel
set_option maxRecDepth 20000 in
theorem ggX7_readShift_X7_digit : GoodIn wsX7_readShift wsX7_digit := goodIn_r _ [8, 1, 2, 3, 9, 10, 7, 11, 59, 60, 61, 62, 63, 64, 65, 66, 67, 68, 69, 70, 71, 72, 73, 74] (by decide +kernel) (by decide +kernel)
set_option maxRecDepth 20000 in
theorem gX7_readShift_X7_digit : GoodIn wsX7_readShift (wsV RX7 173 RX7 yX7_digit wsX7_digit) := goodIn_app (goodIn_of _ (by decide +kernel)) ggX7_readShift_X7_digit
set_option maxRecDepth 20000 in
theorem ggX7_readShift_X7_canShiftNow : GoodIn wsX7_readShift wsX7_canShiftNow := goodIn_r _ [14, 15, 16, 7, 17, 18, 19, 20, 9, 10, 11, 21, 22, 23, 24, 25, 26] (by decide +kernel) (by decide +kernel)
set_option maxRecDepth 20000 in
theorem gX7_readShift_X7_canShiftNow : GoodIn wsX7_readShift (va_wsS RX7 127 yX7_canShiftNow wsX7_canShiftNow) := goodIn_app (goodIn_of _ (by decide +kernel)) ggX7_readShift_X7_canShiftNow
set_option maxRecDepth 20000 in
theorem ggX7_readShift_X7_shiftOn : GoodIn wsX7_readShift wsX7_shiftOn := goodIn_r _ [29, 30, 31, 7, 32, 24, 25, 26, 33, 34, 35, 36, 37, 38, 39, 40, 41, 42, 43, 44, 45, 46, 47, 48, 49, 50, 51, 52, 53] (by decide +kernel) (by decide +kernel)
set_option maxRecDepth 20000 in
theorem gX7_readShift_X7_shiftOn : GoodIn wsX7_readShift (va_wsS RX7 143 yX7_shiftOn wsX7_shiftOn) := goodIn_app (goodIn_of _ (by decide +kernel)) ggX7_readShift_X7_shiftOn
set_option maxRecDepth 20000 in
theorem ggX7_readShift_X7_done : GoodIn wsX7_readShift wsX7_done := goodIn_r _ [57, 58, 59, 60, 61, 62, 63, 64, 65, 66, 67, 68, 69, 70, 71, 72, 73, 74] (by decide +kernel) (by decide +kernel)
set_option maxRecDepth 20000 in
theorem gX7_readShift_X7_done : GoodIn wsX7_readShift (wsV RX7 176 RX7 yX7_done wsX7_done) := goodIn_app (goodIn_of _ (by decide +kernel)) ggX7_readShift_X7_done
theorem dX7_readShift_0 : decode cX7_readShift 0 = .ok (.aload_n 0, 1) := by decide +kernel
theorem dX7_readShift_1 : decode cX7_readShift 1 = .ok (.iconst 0, 1) := by decide +kernel
theorem dX7_readShift_2 : decode cX7_readShift 2 = .ok (.iconst 3, 1) := by decide +kernel
theorem dX7_readShift_3 : decode cX7_readShift 3 = .ok (.invokevirtual 173, 3) := by decide +kernel
theorem dX7_readShift_6 : decode cX7_readShift 6 = .ok (.istore_n 2, 1) := by decide +kernel
theorem dX7_readShift_7 : decode cX7_readShift 7 = .ok (.iload_n 2, 1) := by decide +kernel
theorem dX7_readShift_8 : decode cX7_readShift 8 = .ok (.iconst (-1), 1) := by decide +kernel
theorem dX7_readShift_9 : decode cX7_readShift 9 = .ok (.if_icmp .ne 7, 3) := by decide +kernel
theorem dX7_readShift_12 : decode cX7_readShift 12 = .ok (.iconst (-1), 1) := by decide +kernel
theorem dX7_readShift_13 : decode cX7_readShift 13 = .ok (.goto 9, 3) := by decide +kernel
theorem dX7_readShift_16 : decode cX7_readShift 16 = .ok (.aload_n 0, 1) := by decide +kernel
theorem dX7_readShift_17 : decode cX7_readShift 17 = .ok (.iconst 0, 1) := by decide +kernel
theorem dX7_readShift_18 : decode cX7_readShift 18 = .ok (.iconst 5, 1) := by decide +kernel
theorem dX7_readShift_19 : decode cX7_readShift 19 = .ok (.invokevirtual 173, 3) := by decide +kernel
theorem dX7_readShift_22 : decode cX7_readShift 22 = .ok (.istore_n 3, 1) := by decide +kernel
theorem dX7_readShift_23 : decode cX7_readShift 23 = .ok (.iload_n 3, 1) := by decide +kernel
theorem dX7_readShift_24 : decode cX7_readShift 24 = .ok (.iconst (-1), 1) := by decide +kernel
theorem dX7_readShift_25 : decode cX7_readShift 25 = .ok (.if_icmp .eq 46, 3) := by decide +kernel
theorem dX7_readShift_28 : decode cX7_readShift 28 = .ok (.aload_n 0, 1) := by decide +kernel
theorem dX7_readShift_29 : decode cX7_readShift 29 = .ok (.getfield 167, 3) := by decide +kernel
theorem dX7_readShift_32 : decode cX7_readShift 32 = .ok (.aload_n 0, 1) := by decide +kernel
theorem dX7_readShift_33 : decode cX7_readShift 33 = .ok (.getfield 160, 3) := by decide +kernel
theorem dX7_readShift_36 : decode cX7_readShift 36 = .ok (.if_icmp .ge 35, 3) := by decide +kernel
theorem dX7_readShift_39 : decode cX7_readShift 39 = .ok (.aload_n 0, 1) := by decide +kernel
theorem dX7_readShift_40 : decode cX7_readShift 40 = .ok (.getfield 7, 3) := by decide +kernel
theorem dX7_readShift_43 : decode cX7_readShift 43 = .ok (.aload_n 0, 1) := by decide +kernel
theorem dX7_readShift_44 : decode cX7_readShift 44 = .ok (.getfield 167, 3) := by decide +kernel
theorem dX7_readShift_47 : decode cX7_readShift 47 = .ok (.iaload, 1) := by decide +kernel
theorem dX7_readShift_48 : decode cX7_readShift 48 = .ok (.bipush 43, 2) := by decide +kernel
theorem dX7_readShift_50 : decode cX7_readShift 50 = .ok (.if_icmp .eq 17, 3) := by decide +kernel
theorem dX7_readShift_53 : decode cX7_readShift 53 = .ok (.aload_n 0, 1) := by decide +kernel
theorem dX7_readShift_54 : decode cX7_readShift 54 = .ok (.getfield 7, 3) := by decide +kernel
theorem dX7_readShift_57 : decode cX7_readShift 57 = .ok (.aload_n 0, 1) := by decide +kernel
theorem dX7_readShift_58 : decode cX7_readShift 58 = .ok (.getfield 167, 3) := by decide +kernel
theorem dX7_readShift_61 : decode cX7_readShift 61 = .ok (.iaload, 1) := by decide +kernel
theorem dX7_readShift_62 : decode cX7_readShift 62 = .ok (.bipush 45, 2) := by decide +kernel
theorem dX7_readShift_64 : decode cX7_readShift 64 = .ok (.if_icmp .ne 7, 3) := by decide +kernel
theorem dX7_readShift_67 : decode cX7_readShift 67 = .ok (.iconst 1, 1) := by decide +kernel
theorem dX7_readShift_68 : decode cX7_readShift 68 = .ok (.goto 4, 3) := by decide +kernel
theorem dX7_readShift_71 : decode cX7_readShift 71 = .ok (.iconst 0, 1) := by decide +kernel
theorem dX7_readShift_72 : decode cX7_readShift 72 = .ok (.istore 4, 2) := by decide +kernel
theorem dX7_readShift_74 : decode cX7_readShift 74 = .ok (.iload 4, 2) := by decide +kernel
theorem dX7_readShift_76 : decode cX7_readShift 76 = .ok (.ifCond .ne 5, 3) := by decide +kernel
theorem dX7_readShift_79 : decode cX7_readShift 79 = .ok (.iconst 0, 1) := by decide +kernel
theorem dX7_readShift_80 : decode cX7_readShift 80 = .ok (.ireturn, 1) := by decide +kernel
theorem dX7_readShift_81 : decode cX7_readShift 81 = .ok (.aload_n 0, 1) := by decide +kernel
theorem dX7_readShift_82 : decode cX7_readShift 82 = .ok (.getfield 7, 3) := by decide +kernel
theorem dX7_readShift_85 : decode cX7_readShift 85 = .ok (.aload_n 0, 1) := by decide +kernel
theorem dX7_readShift_86 : decode cX7_readShift 86 = .ok (.getfield 167, 3) := by decide +kernel
theorem dX7_readShift_89 : decode cX7_readShift 89 = .ok (.iaload, 1) := by decide +kernel
theorem dX7_readShift_90 : decode cX7_readShift 90 = .ok (.bipush 43, 2) := by decide +kernel
theorem dX7_readShift_92 : decode cX7_readShift 92 = .ok (.if_icmp .ne 7, 3) := by decide +kernel
theorem dX7_readShift_95 : decode cX7_readShift 95 = .ok (.iconst 1, 1) := by decide +kernel
theorem dX7_readShift_96 : decode cX7_readShift 96 = .ok (.goto 4, 3) := by decide +kernel
theorem dX7_readShift_99 : decode cX7_readShift 99 = .ok (.iconst 0, 1) := by decide +kernel
theorem dX7_readShift_100 : decode cX7_readShift 100 = .ok (.istore 5, 2) := by decide +kernel
theorem dX7_readShift_102 : decode cX7_readShift 102 = .ok (.aload_n 0, 1) := by decide +kernel
theorem dX7_readShift_103 : decode cX7_readShift 103 = .ok (.dup, 1) := by decide +kernel
theorem dX7_readShift_104 : decode cX7_readShift 104 = .ok (.getfield 167, 3) := by decide +kernel
theorem dX7_readShift_107 : decode cX7_readShift 107 = .ok (.iconst 1, 1) := by decide +kernel
theorem dX7_readShift_108 : decode cX7_readShift 108 = .ok (.iadd, 1) := by decide +kernel
theorem dX7_readShift_109 : decode cX7_readShift 109 = .ok (.putfield 167, 3) := by decide +kernel
theorem dX7_readShift_112 : decode cX7_readShift 112 = .ok (.aload_n 0, 1) := by decide +kernel
theorem dX7_readShift_113 : decode cX7_readShift 113 = .ok (.aload_n 1, 1) := by decide +kernel
theorem dX7_readShift_114 : decode cX7_readShift 114 = .ok (.iload_n 2, 1) := by decide +kernel
theorem dX7_readShift_115 : decode cX7_readShift 115 = .ok (.iload_n 3, 1) := by decide +kernel
theorem dX7_readShift_116 : decode cX7_readShift 116 = .ok (.iload 5, 2) := by decide +kernel
theorem dX7_readShift_118 : decode cX7_readShift 118 = .ok (.invokestatic 127, 3) := by decide +kernel
theorem dX7_readShift_121 : decode cX7_readShift 121 = .ok (.ifCond .eq 18, 3) := by decide +kernel
theorem dX7_readShift_124 : decode cX7_readShift 124 = .ok (.aload_n 1, 1) := by decide +kernel
theorem dX7_readShift_125 : decode cX7_readShift 125 = .ok (.iload_n 2, 1) := by decide +kernel
theorem dX7_readShift_126 : decode cX7_readShift 126 = .ok (.iload_n 3, 1) := by decide +kernel
theorem dX7_readShift_127 : decode cX7_readShift 127 = .ok (.iload 5, 2) := by decide +kernel
theorem dX7_readShift_129 : decode cX7_readShift 129 = .ok (.invokestatic 143, 3) := by decide +kernel
theorem dX7_readShift_132 : decode cX7_readShift 132 = .ok (.ifCond .le 7, 3) := by decide +kernel
theorem dX7_readShift_135 : decode cX7_readShift 135 = .ok (.iconst 1, 1) := by decide +kernel
theorem dX7_readShift_136 : decode cX7_readShift 136 = .ok (.goto 4, 3) := by decide +kernel
theorem dX7_readShift_139 : decode cX7_readShift 139 = .ok (.iconst 0, 1) := by decide +kernel
theorem dX7_readShift_140 : decode cX7_readShift 140 = .ok (.invokevirtual 176, 3) := by decide +kernel
theorem dX7_readShift_143 : decode cX7_readShift 143 = .ok (.ireturn, 1) := by decide +kernel
set_option maxRecDepth 20000 in
theorem ggX7_readMove_X7_readShift : GoodIn wsX7_readMove wsX7_readShift := goodIn_r _ [7, 2, 8, 1, 9, 10, 11, 6, 12, 13, 14, 15, 16, 17, 18, 19, 20, 21, 22, 23, 24, 25, 26, 27, 28, 29, 30, 31, 32, 33, 34, 35, 36, 37, 38, 39, 40, 41, 42, 43, 44, 45, 46, 47, 48, 49, 50, 51, 52, 53, 54, 55, 56, 57, 58, 59, 60, 61, 62, 81, 82, 83, 84, 85, 86, 87, 88, 89, 90, 91, 92, 93, 94, 95, 96] (by decide +kernel) (by decide +kernel)
set_option maxRecDepth 20000 in
theorem gX7_readMove_X7_readShift : GoodIn wsX7_readMove (wsV RX7 180 RX7 yX7_readShift wsX7_readShift) := goodIn_app (goodIn_of _ (by decide +kernel)) ggX7_readMove_X7_readShift
set_option maxRecDepth 20000 in
theorem ggX7_readMove_X7_digit : GoodIn wsX7_readMove wsX7_digit := goodIn_r _ [12, 2, 8, 1, 13, 14, 6, 15, 81, 82, 83, 84, 85, 86, 87, 88, 89, 90, 91, 92, 93, 94, 95, 96] (by decide +kernel) (by decide +kernel)
set_option maxRecDepth 20000 in
theorem gX7_readMove_X7_digit : GoodIn wsX7_readMove (wsV RX7 173 RX7 yX7_digit wsX7_digit) := goodIn_app (goodIn_of _ (by decide +kernel)) ggX7_readMove_X7_digit
set_option maxRecDepth 20000 in
theorem ggX7_readMove_X7_canGo : GoodIn wsX7_readMove wsX7_canGo := goodIn_r _ [65, 19, 20, 6, 21, 43, 44, 45, 46, 47, 48, 28, 29, 30, 49, 50, 51, 52, 53, 54] (by decide +kernel) (by decide +kernel)
set_option maxRecDepth 20000 in
theorem gX7_readMove_X7_canGo : GoodIn wsX7_readMove (va_wsS RX7 183 yX7_canGo wsX7_canGo) := goodIn_app (goodIn_of _ (by decide +kernel)) ggX7_readMove_X7_canGo
set_option maxRecDepth 20000 in
theorem ggX7_readMove_X7_goOn : GoodIn wsX7_readMove wsX7_goOn := goodIn_r _ [68, 28, 29, 6, 30, 69, 70, 71, 72, 73, 74] (by decide +kernel) (by decide +kernel)
set_option maxRecDepth 20000 in
theorem gX7_readMove_X7_goOn : GoodIn wsX7_readMove (va_wsS RX7 149 yX7_goOn wsX7_goOn) := goodIn_app (goodIn_of _ (by decide +kernel)) ggX7_readMove_X7_goOn
set_option maxRecDepth 20000 in
theorem ggX7_readMove_X7_done : GoodIn wsX7_readMove wsX7_done := goodIn_r _ [61, 62, 81, 82, 83, 84, 85, 86, 87, 88, 89, 90, 91, 92, 93, 94, 95, 96] (by decide +kernel) (by decide +kernel)
set_option maxRecDepth 20000 in
theorem gX7_readMove_X7_done : GoodIn wsX7_readMove (wsV RX7 176 RX7 yX7_done wsX7_done) := goodIn_app (goodIn_of _ (by decide +kernel)) ggX7_readMove_X7_done
set_option maxRecDepth 20000 in
theorem ggX7_readMove_X7_canLock : GoodIn wsX7_readMove wsX7_canLock := goodIn_r _ [77, 19, 20, 6, 21] (by decide +kernel) (by decide +kernel)
set_option maxRecDepth 20000 in
theorem gX7_readMove_X7_canLock : GoodIn wsX7_readMove (va_wsS RX7 186 yX7_canLock wsX7_canLock) := goodIn_app (goodIn_of _ (by decide +kernel)) ggX7_readMove_X7_canLock
set_option maxRecDepth 20000 in
theorem ggX7_readMove_X7_lockOn : GoodIn wsX7_readMove wsX7_lockOn := goodIn_r _ [80, 28, 29, 6, 30, 72, 73, 74] (by decide +kernel) (by decide +kernel)
set_option maxRecDepth 20000 in
theorem gX7_readMove_X7_lockOn : GoodIn wsX7_readMove (va_wsS RX7 189 yX7_lockOn wsX7_lockOn) := goodIn_app (goodIn_of _ (by decide +kernel)) ggX7_readMove_X7_lockOn
theorem dX7_readMove_0 : decode cX7_readMove 0 = .ok (.aload_n 0, 1) := by decide +kernel
theorem dX7_readMove_1 : decode cX7_readMove 1 = .ok (.getfield 7, 3) := by decide +kernel
theorem dX7_readMove_4 : decode cX7_readMove 4 = .ok (.aload_n 0, 1) := by decide +kernel
theorem dX7_readMove_5 : decode cX7_readMove 5 = .ok (.getfield 167, 3) := by decide +kernel
theorem dX7_readMove_8 : decode cX7_readMove 8 = .ok (.iaload, 1) := by decide +kernel
theorem dX7_readMove_9 : decode cX7_readMove 9 = .ok (.istore_n 2, 1) := by decide +kernel
theorem dX7_readMove_10 : decode cX7_readMove 10 = .ok (.aload_n 0, 1) := by decide +kernel
theorem dX7_readMove_11 : decode cX7_readMove 11 = .ok (.dup, 1) := by decide +kernel
theorem dX7_readMove_12 : decode cX7_readMove 12 = .ok (.getfield 167, 3) := by decide +kernel
theorem dX7_readMove_15 : decode cX7_readMove 15 = .ok (.iconst 1, 1) := by decide +kernel
theorem dX7_readMove_16 : decode cX7_readMove 16 = .ok (.iadd, 1) := by decide +kernel
theorem dX7_readMove_17 : decode cX7_readMove 17 = .ok (.putfield 167, 3) := by decide +kernel
theorem dX7_readMove_20 : decode cX7_readMove 20 = .ok (.iload_n 2, 1) := by decide +kernel
theorem dX7_readMove_21 : decode cX7_readMove 21 = .ok (.bipush 115, 2) := by decide +kernel
theorem dX7_readMove_23 : decode cX7_readMove 23 = .ok (.if_icmp .ne 9, 3) := by decide +kernel
theorem dX7_readMove_26 : decode cX7_readMove 26 = .ok (.aload_n 0, 1) := by decide +kernel
theorem dX7_readMove_27 : decode cX7_readMove 27 = .ok (.aload_n 1, 1) := by decide +kernel
theorem dX7_readMove_28 : decode cX7_readMove 28 = .ok (.invokevirtual 180, 3) := by decide +kernel
theorem dX7_readMove_31 : decode cX7_readMove 31 = .ok (.ireturn, 1) := by decide +kernel
theorem dX7_readMove_32 : decode cX7_readMove 32 = .ok (.iload_n 2, 1) := by decide +kernel
theorem dX7_readMove_33 : decode cX7_readMove 33 = .ok (.bipush 103, 2) := by decide +kernel
theorem dX7_readMove_35 : decode cX7_readMove 35 = .ok (.if_icmp .ne 50, 3) := by decide +kernel
theorem dX7_readMove_38 : decode cX7_readMove 38 = .ok (.aload_n 0, 1) := by decide +kernel
theorem dX7_readMove_39 : decode cX7_readMove 39 = .ok (.iconst 0, 1) := by decide +kernel
theorem dX7_readMove_40 : decode cX7_readMove 40 = .ok (.bipush 8, 2) := by decide +kernel
theorem dX7_readMove_42 : decode cX7_readMove 42 = .ok (.invokevirtual 173, 3) := by decide +kernel
theorem dX7_readMove_45 : decode cX7_readMove 45 = .ok (.istore_n 3, 1) := by decide +kernel
theorem dX7_readMove_46 : decode cX7_readMove 46 = .ok (.iload_n 3, 1) := by decide +kernel
theorem dX7_readMove_47 : decode cX7_readMove 47 = .ok (.iconst (-1), 1) := by decide +kernel
theorem dX7_readMove_48 : decode cX7_readMove 48 = .ok (.if_icmp .eq 35, 3) := by decide +kernel
theorem dX7_readMove_51 : decode cX7_readMove 51 = .ok (.aload_n 0, 1) := by decide +kernel
theorem dX7_readMove_52 : decode cX7_readMove 52 = .ok (.aload_n 1, 1) := by decide +kernel
theorem dX7_readMove_53 : decode cX7_readMove 53 = .ok (.iload_n 3, 1) := by decide +kernel
theorem dX7_readMove_54 : decode cX7_readMove 54 = .ok (.invokestatic 183, 3) := by decide +kernel
theorem dX7_readMove_57 : decode cX7_readMove 57 = .ok (.ifCond .eq 15, 3) := by decide +kernel
theorem dX7_readMove_60 : decode cX7_readMove 60 = .ok (.aload_n 1, 1) := by decide +kernel
theorem dX7_readMove_61 : decode cX7_readMove 61 = .ok (.iload_n 3, 1) := by decide +kernel
theorem dX7_readMove_62 : decode cX7_readMove 62 = .ok (.invokestatic 149, 3) := by decide +kernel
theorem dX7_readMove_65 : decode cX7_readMove 65 = .ok (.ifCond .lt 7, 3) := by decide +kernel
theorem dX7_readMove_68 : decode cX7_readMove 68 = .ok (.iconst 1, 1) := by decide +kernel
theorem dX7_readMove_69 : decode cX7_readMove 69 = .ok (.goto 4, 3) := by decide +kernel
theorem dX7_readMove_72 : decode cX7_readMove 72 = .ok (.iconst 0, 1) := by decide +kernel
theorem dX7_readMove_73 : decode cX7_readMove 73 = .ok (.invokevirtual 176, 3) := by decide +kernel
theorem dX7_readMove_76 : decode cX7_readMove 76 = .ok (.ifCond .eq 7, 3) := by decide +kernel
theorem dX7_readMove_79 : decode cX7_readMove 79 = .ok (.iconst 1, 1) := by decide +kernel
theorem dX7_readMove_80 : decode cX7_readMove 80 = .ok (.goto 4, 3) := by decide +kernel
theorem dX7_readMove_83 : decode cX7_readMove 83 = .ok (.iconst 0, 1) := by decide +kernel
theorem dX7_readMove_84 : decode cX7_readMove 84 = .ok (.ireturn, 1) := by decide +kernel
theorem dX7_readMove_85 : decode cX7_readMove 85 = .ok (.iload_n 2, 1) := by decide +kernel
theorem dX7_readMove_86 : decode cX7_readMove 86 = .ok (.bipush 108, 2) := by decide +kernel
theorem dX7_readMove_88 : decode cX7_readMove 88 = .ok (.if_icmp .ne 49, 3) := by decide +kernel
theorem dX7_readMove_91 : decode cX7_readMove 91 = .ok (.aload_n 0, 1) := by decide +kernel
theorem dX7_readMove_92 : decode cX7_readMove 92 = .ok (.iconst 0, 1) := by decide +kernel
theorem dX7_readMove_93 : decode cX7_readMove 93 = .ok (.iconst 5, 1) := by decide +kernel
theorem dX7_readMove_94 : decode cX7_readMove 94 = .ok (.invokevirtual 173, 3) := by decide +kernel
theorem dX7_readMove_97 : decode cX7_readMove 97 = .ok (.istore_n 3, 1) := by decide +kernel
theorem dX7_readMove_98 : decode cX7_readMove 98 = .ok (.iload_n 3, 1) := by decide +kernel
theorem dX7_readMove_99 : decode cX7_readMove 99 = .ok (.iconst (-1), 1) := by decide +kernel
theorem dX7_readMove_100 : decode cX7_readMove 100 = .ok (.if_icmp .eq 35, 3) := by decide +kernel
theorem dX7_readMove_103 : decode cX7_readMove 103 = .ok (.aload_n 0, 1) := by decide +kernel
theorem dX7_readMove_104 : decode cX7_readMove 104 = .ok (.aload_n 1, 1) := by decide +kernel
