set_option maxRecDepth 20000 in
theorem ggX2_init_X0_init : GoodIn wsX2_init wsX0_init := goodIn_r _ [17, 18, 2, 3, 4, 19, 20, 21, 30, 31, 32, 33, 34, 35, 36, 37] (by decide +kernel) (by decide +kernel)
set_option maxRecDepth 20000 in
theorem gX2_init_X0_init : GoodIn wsX2_init (wsX0_init) := ggX2_init_X0_init
theorem dX2_init_0 : decode cX2_init 0 = .ok (.aload_n 0, 1) := by decide +kernel
theorem dX2_init_1 : decode cX2_init 1 = .ok (.invokespecial 3, 3) := by decide +kernel
theorem dX2_init_4 : decode cX2_init 4 = .ok (.aload_n 0, 1) := by decide +kernel
theorem dX2_init_5 : decode cX2_init 5 = .ok (.iconst 3, 1) := by decide +kernel
theorem dX2_init_6 : decode cX2_init 6 = .ok (.newarray .int, 2) := by decide +kernel
theorem dX2_init_8 : decode cX2_init 8 = .ok (.putfield 9, 3) := by decide +kernel
theorem dX2_init_11 : decode cX2_init 11 = .ok (.getstatic 15, 3) := by decide +kernel
theorem dX2_init_14 : decode cX2_init 14 = .ok (.iconst 0, 1) := by decide +kernel
theorem dX2_init_15 : decode cX2_init 15 = .ok (.aload_n 0, 1) := by decide +kernel
theorem dX2_init_16 : decode cX2_init 16 = .ok (.getfield 9, 3) := by decide +kernel
theorem dX2_init_19 : decode cX2_init 19 = .ok (.iconst 0, 1) := by decide +kernel
theorem dX2_init_20 : decode cX2_init 20 = .ok (.iconst 3, 1) := by decide +kernel
theorem dX2_init_21 : decode cX2_init 21 = .ok (.invokestatic 18, 3) := by decide +kernel
theorem dX2_init_24 : decode cX2_init 24 = .ok (.aload_n 0, 1) := by decide +kernel
theorem dX2_init_25 : decode cX2_init 25 = .ok (.iconst 4, 1) := by decide +kernel
theorem dX2_init_26 : decode cX2_init 26 = .ok (.anewarray 24, 3) := by decide +kernel
theorem dX2_init_29 : decode cX2_init 29 = .ok (.putfield 26, 3) := by decide +kernel
theorem dX2_init_32 : decode cX2_init 32 = .ok (.iconst 0, 1) := by decide +kernel
theorem dX2_init_33 : decode cX2_init 33 = .ok (.istore_n 1, 1) := by decide +kernel
theorem dX2_init_34 : decode cX2_init 34 = .ok (.iload_n 1, 1) := by decide +kernel
theorem dX2_init_35 : decode cX2_init 35 = .ok (.iconst 4, 1) := by decide +kernel
theorem dX2_init_36 : decode cX2_init 36 = .ok (.if_icmp .ge 22, 3) := by decide +kernel
theorem dX2_init_39 : decode cX2_init 39 = .ok (.aload_n 0, 1) := by decide +kernel
theorem dX2_init_40 : decode cX2_init 40 = .ok (.getfield 26, 3) := by decide +kernel
theorem dX2_init_43 : decode cX2_init 43 = .ok (.iload_n 1, 1) := by decide +kernel
theorem dX2_init_44 : decode cX2_init 44 = .ok (.new 24, 3) := by decide +kernel
theorem dX2_init_47 : decode cX2_init 47 = .ok (.dup, 1) := by decide +kernel
theorem dX2_init_48 : decode cX2_init 48 = .ok (.invokespecial 30, 3) := by decide +kernel
theorem dX2_init_51 : decode cX2_init 51 = .ok (.aastore, 1) := by decide +kernel
theorem dX2_init_52 : decode cX2_init 52 = .ok (.iinc 1 1, 3) := by decide +kernel
theorem dX2_init_55 : decode cX2_init 55 = .ok (.goto (-21), 3) := by decide +kernel
theorem dX2_init_58 : decode cX2_init 58 = .ok (.aload_n 0, 1) := by decide +kernel
theorem dX2_init_59 : decode cX2_init 59 = .ok (.iconst (-1), 1) := by decide +kernel
theorem dX2_init_60 : decode cX2_init 60 = .ok (.putfield 31, 3) := by decide +kernel
theorem dX2_init_63 : decode cX2_init 63 = .ok (.return_, 1) := by decide +kernel
theorem dX2_resetSettings_0 : decode cX2_resetSettings 0 = .ok (.getstatic 15, 3) := by decide +kernel
theorem dX2_resetSettings_3 : decode cX2_resetSettings 3 = .ok (.iconst 0, 1) := by decide +kernel
theorem dX2_resetSettings_4 : decode cX2_resetSettings 4 = .ok (.aload_n 0, 1) := by decide +kernel
theorem dX2_resetSettings_5 : decode cX2_resetSettings 5 = .ok (.getfield 9, 3) := by decide +kernel
theorem dX2_resetSettings_8 : decode cX2_resetSettings 8 = .ok (.iconst 0, 1) := by decide +kernel
theorem dX2_resetSettings_9 : decode cX2_resetSettings 9 = .ok (.iconst 3, 1) := by decide +kernel
theorem dX2_resetSettings_10 : decode cX2_resetSettings 10 = .ok (.invokestatic 18, 3) := by decide +kernel
theorem dX2_resetSettings_13 : decode cX2_resetSettings 13 = .ok (.return_, 1) := by decide +kernel
set_option maxRecDepth 20000 in
theorem ggX2_copyFrom_X0_copyFrom : GoodIn wsX2_copyFrom wsX0_copyFrom := goodIn_r _ [17, 18, 19, 3, 4, 5, 20, 21, 22, 23, 24, 25, 26, 35, 36, 37, 38, 39, 40, 41, 42] (by decide +kernel) (by decide +kernel)
set_option maxRecDepth 20000 in
theorem gX2_copyFrom_X0_copyFrom : GoodIn wsX2_copyFrom (wsV RX2 35 RX0 yX0_copyFrom wsX0_copyFrom) := goodIn_app (goodIn_of _ (by decide +kernel)) ggX2_copyFrom_X0_copyFrom
theorem dX2_copyFrom_0 : decode cX2_copyFrom 0 = .ok (.aload_n 1, 1) := by decide +kernel
theorem dX2_copyFrom_1 : decode cX2_copyFrom 1 = .ok (.getfield 9, 3) := by decide +kernel
theorem dX2_copyFrom_4 : decode cX2_copyFrom 4 = .ok (.iconst 0, 1) := by decide +kernel
theorem dX2_copyFrom_5 : decode cX2_copyFrom 5 = .ok (.aload_n 0, 1) := by decide +kernel
theorem dX2_copyFrom_6 : decode cX2_copyFrom 6 = .ok (.getfield 9, 3) := by decide +kernel
theorem dX2_copyFrom_9 : decode cX2_copyFrom 9 = .ok (.iconst 0, 1) := by decide +kernel
theorem dX2_copyFrom_10 : decode cX2_copyFrom 10 = .ok (.iconst 3, 1) := by decide +kernel
theorem dX2_copyFrom_11 : decode cX2_copyFrom 11 = .ok (.invokestatic 18, 3) := by decide +kernel
theorem dX2_copyFrom_14 : decode cX2_copyFrom 14 = .ok (.iconst 0, 1) := by decide +kernel
theorem dX2_copyFrom_15 : decode cX2_copyFrom 15 = .ok (.istore_n 2, 1) := by decide +kernel
theorem dX2_copyFrom_16 : decode cX2_copyFrom 16 = .ok (.iload_n 2, 1) := by decide +kernel
theorem dX2_copyFrom_17 : decode cX2_copyFrom 17 = .ok (.iconst 4, 1) := by decide +kernel
theorem dX2_copyFrom_18 : decode cX2_copyFrom 18 = .ok (.if_icmp .ge 24, 3) := by decide +kernel
theorem dX2_copyFrom_21 : decode cX2_copyFrom 21 = .ok (.aload_n 0, 1) := by decide +kernel
theorem dX2_copyFrom_22 : decode cX2_copyFrom 22 = .ok (.getfield 26, 3) := by decide +kernel
theorem dX2_copyFrom_25 : decode cX2_copyFrom 25 = .ok (.iload_n 2, 1) := by decide +kernel
theorem dX2_copyFrom_26 : decode cX2_copyFrom 26 = .ok (.aaload, 1) := by decide +kernel
theorem dX2_copyFrom_27 : decode cX2_copyFrom 27 = .ok (.aload_n 1, 1) := by decide +kernel
theorem dX2_copyFrom_28 : decode cX2_copyFrom 28 = .ok (.getfield 26, 3) := by decide +kernel
theorem dX2_copyFrom_31 : decode cX2_copyFrom 31 = .ok (.iload_n 2, 1) := by decide +kernel
theorem dX2_copyFrom_32 : decode cX2_copyFrom 32 = .ok (.aaload, 1) := by decide +kernel
theorem dX2_copyFrom_33 : decode cX2_copyFrom 33 = .ok (.invokevirtual 35, 3) := by decide +kernel
theorem dX2_copyFrom_36 : decode cX2_copyFrom 36 = .ok (.iinc 2 1, 3) := by decide +kernel
theorem dX2_copyFrom_39 : decode cX2_copyFrom 39 = .ok (.goto (-23), 3) := by decide +kernel
theorem dX2_copyFrom_42 : decode cX2_copyFrom 42 = .ok (.aload_n 0, 1) := by decide +kernel
theorem dX2_copyFrom_43 : decode cX2_copyFrom 43 = .ok (.aload_n 1, 1) := by decide +kernel
theorem dX2_copyFrom_44 : decode cX2_copyFrom 44 = .ok (.getfield 39, 3) := by decide +kernel
theorem dX2_copyFrom_47 : decode cX2_copyFrom 47 = .ok (.putfield 39, 3) := by decide +kernel
theorem dX2_copyFrom_50 : decode cX2_copyFrom 50 = .ok (.aload_n 0, 1) := by decide +kernel
theorem dX2_copyFrom_51 : decode cX2_copyFrom 51 = .ok (.aload_n 1, 1) := by decide +kernel
theorem dX2_copyFrom_52 : decode cX2_copyFrom 52 = .ok (.getfield 42, 3) := by decide +kernel
theorem dX2_copyFrom_55 : decode cX2_copyFrom 55 = .ok (.putfield 42, 3) := by decide +kernel
theorem dX2_copyFrom_58 : decode cX2_copyFrom 58 = .ok (.aload_n 0, 1) := by decide +kernel
theorem dX2_copyFrom_59 : decode cX2_copyFrom 59 = .ok (.aload_n 1, 1) := by decide +kernel
theorem dX2_copyFrom_60 : decode cX2_copyFrom 60 = .ok (.getfield 45, 3) := by decide +kernel
theorem dX2_copyFrom_63 : decode cX2_copyFrom 63 = .ok (.putfield 45, 3) := by decide +kernel
theorem dX2_copyFrom_66 : decode cX2_copyFrom 66 = .ok (.aload_n 0, 1) := by decide +kernel
theorem dX2_copyFrom_67 : decode cX2_copyFrom 67 = .ok (.aload_n 1, 1) := by decide +kernel
theorem dX2_copyFrom_68 : decode cX2_copyFrom 68 = .ok (.getfield 49, 3) := by decide +kernel
theorem dX2_copyFrom_71 : decode cX2_copyFrom 71 = .ok (.putfield 49, 3) := by decide +kernel
theorem dX2_copyFrom_74 : decode cX2_copyFrom 74 = .ok (.aload_n 0, 1) := by decide +kernel
theorem dX2_copyFrom_75 : decode cX2_copyFrom 75 = .ok (.aload_n 1, 1) := by decide +kernel
theorem dX2_copyFrom_76 : decode cX2_copyFrom 76 = .ok (.getfield 52, 3) := by decide +kernel
theorem dX2_copyFrom_79 : decode cX2_copyFrom 79 = .ok (.putfield 52, 3) := by decide +kernel
theorem dX2_copyFrom_82 : decode cX2_copyFrom 82 = .ok (.aload_n 0, 1) := by decide +kernel
theorem dX2_copyFrom_83 : decode cX2_copyFrom 83 = .ok (.aload_n 1, 1) := by decide +kernel
theorem dX2_copyFrom_84 : decode cX2_copyFrom 84 = .ok (.getfield 31, 3) := by decide +kernel
theorem dX2_copyFrom_87 : decode cX2_copyFrom 87 = .ok (.putfield 31, 3) := by decide +kernel
theorem dX2_copyFrom_90 : decode cX2_copyFrom 90 = .ok (.return_, 1) := by decide +kernel
set_option maxRecDepth 20000 in
theorem ggX2_deal_X0_deal : GoodIn wsX2_deal wsX0_deal := goodIn_r _ [12, 13, 14, 15, 16, 17, 18, 19, 20, 21, 22, 23, 24, 25, 26, 27, 28, 29, 30, 31, 32, 33, 34, 35, 11, 36, 37, 38, 39, 40, 41, 42, 43, 52, 53, 54, 55, 56, 57, 58, 59, 60] (by decide +kernel) (by decide +kernel)
set_option maxRecDepth 20000 in
theorem gX2_deal_X0_deal : GoodIn wsX2_deal (wsV RX2 55 RX0 yX0_deal wsX0_deal) := goodIn_app (goodIn_of _ (by decide +kernel)) ggX2_deal_X0_deal
theorem dX2_deal_0 : decode cX2_deal 0 = .ok (.aload_n 0, 1) := by decide +kernel
theorem dX2_deal_1 : decode cX2_deal 1 = .ok (.iload_n 1, 1) := by decide +kernel
theorem dX2_deal_2 : decode cX2_deal 2 = .ok (.putfield 39, 3) := by decide +kernel
theorem dX2_deal_5 : decode cX2_deal 5 = .ok (.aload_n 0, 1) := by decide +kernel
theorem dX2_deal_6 : decode cX2_deal 6 = .ok (.iconst 0, 1) := by decide +kernel
theorem dX2_deal_7 : decode cX2_deal 7 = .ok (.putfield 42, 3) := by decide +kernel
theorem dX2_deal_10 : decode cX2_deal 10 = .ok (.aload_n 0, 1) := by decide +kernel
theorem dX2_deal_11 : decode cX2_deal 11 = .ok (.iconst 0, 1) := by decide +kernel
theorem dX2_deal_12 : decode cX2_deal 12 = .ok (.putfield 45, 3) := by decide +kernel
theorem dX2_deal_15 : decode cX2_deal 15 = .ok (.aload_n 0, 1) := by decide +kernel
theorem dX2_deal_16 : decode cX2_deal 16 = .ok (.iconst 0, 1) := by decide +kernel
theorem dX2_deal_17 : decode cX2_deal 17 = .ok (.putfield 49, 3) := by decide +kernel
theorem dX2_deal_20 : decode cX2_deal 20 = .ok (.aload_n 0, 1) := by decide +kernel
theorem dX2_deal_21 : decode cX2_deal 21 = .ok (.iconst 0, 1) := by decide +kernel
theorem dX2_deal_22 : decode cX2_deal 22 = .ok (.putfield 52, 3) := by decide +kernel
theorem dX2_deal_25 : decode cX2_deal 25 = .ok (.aload_n 0, 1) := by decide +kernel
theorem dX2_deal_26 : decode cX2_deal 26 = .ok (.iconst (-1), 1) := by decide +kernel
theorem dX2_deal_27 : decode cX2_deal 27 = .ok (.putfield 31, 3) := by decide +kernel
theorem dX2_deal_30 : decode cX2_deal 30 = .ok (.iconst 0, 1) := by decide +kernel
theorem dX2_deal_31 : decode cX2_deal 31 = .ok (.istore_n 3, 1) := by decide +kernel
theorem dX2_deal_32 : decode cX2_deal 32 = .ok (.iload_n 3, 1) := by decide +kernel
theorem dX2_deal_33 : decode cX2_deal 33 = .ok (.iconst 4, 1) := by decide +kernel
theorem dX2_deal_34 : decode cX2_deal 34 = .ok (.if_icmp .ge 24, 3) := by decide +kernel
theorem dX2_deal_37 : decode cX2_deal 37 = .ok (.iload_n 3, 1) := by decide +kernel
theorem dX2_deal_38 : decode cX2_deal 38 = .ok (.iload_n 1, 1) := by decide +kernel
theorem dX2_deal_39 : decode cX2_deal 39 = .ok (.if_icmp .ge 19, 3) := by decide +kernel
theorem dX2_deal_42 : decode cX2_deal 42 = .ok (.aload_n 0, 1) := by decide +kernel
theorem dX2_deal_43 : decode cX2_deal 43 = .ok (.getfield 26, 3) := by decide +kernel
theorem dX2_deal_46 : decode cX2_deal 46 = .ok (.iload_n 3, 1) := by decide +kernel
theorem dX2_deal_47 : decode cX2_deal 47 = .ok (.aaload, 1) := by decide +kernel
theorem dX2_deal_48 : decode cX2_deal 48 = .ok (.aload_n 2, 1) := by decide +kernel
theorem dX2_deal_49 : decode cX2_deal 49 = .ok (.invokevirtual 55, 3) := by decide +kernel
theorem dX2_deal_52 : decode cX2_deal 52 = .ok (.iinc 3 1, 3) := by decide +kernel
theorem dX2_deal_55 : decode cX2_deal 55 = .ok (.goto (-23), 3) := by decide +kernel
theorem dX2_deal_58 : decode cX2_deal 58 = .ok (.return_, 1) := by decide +kernel
theorem dX2_players_0 : decode cX2_players 0 = .ok (.aload_n 0, 1) := by decide +kernel
theorem dX2_players_1 : decode cX2_players 1 = .ok (.getfield 39, 3) := by decide +kernel
theorem dX2_players_4 : decode cX2_players 4 = .ok (.ireturn, 1) := by decide +kernel
theorem dX2_hasPlayer_0 : decode cX2_hasPlayer 0 = .ok (.iload_n 1, 1) := by decide +kernel
theorem dX2_hasPlayer_1 : decode cX2_hasPlayer 1 = .ok (.ifCond .lt 15, 3) := by decide +kernel
theorem dX2_hasPlayer_4 : decode cX2_hasPlayer 4 = .ok (.iload_n 1, 1) := by decide +kernel
theorem dX2_hasPlayer_5 : decode cX2_hasPlayer 5 = .ok (.aload_n 0, 1) := by decide +kernel
theorem dX2_hasPlayer_6 : decode cX2_hasPlayer 6 = .ok (.getfield 39, 3) := by decide +kernel
theorem dX2_hasPlayer_9 : decode cX2_hasPlayer 9 = .ok (.if_icmp .ge 7, 3) := by decide +kernel
theorem dX2_hasPlayer_12 : decode cX2_hasPlayer 12 = .ok (.iconst 1, 1) := by decide +kernel
theorem dX2_hasPlayer_13 : decode cX2_hasPlayer 13 = .ok (.goto 4, 3) := by decide +kernel
theorem dX2_hasPlayer_16 : decode cX2_hasPlayer 16 = .ok (.iconst 0, 1) := by decide +kernel
theorem dX2_hasPlayer_17 : decode cX2_hasPlayer 17 = .ok (.ireturn, 1) := by decide +kernel
theorem dX2_boardOf_0 : decode cX2_boardOf 0 = .ok (.aload_n 0, 1) := by decide +kernel
theorem dX2_boardOf_1 : decode cX2_boardOf 1 = .ok (.getfield 26, 3) := by decide +kernel
theorem dX2_boardOf_4 : decode cX2_boardOf 4 = .ok (.iload_n 1, 1) := by decide +kernel
theorem dX2_boardOf_5 : decode cX2_boardOf 5 = .ok (.ifCond .lt 12, 3) := by decide +kernel
theorem dX2_boardOf_8 : decode cX2_boardOf 8 = .ok (.iload_n 1, 1) := by decide +kernel
theorem dX2_boardOf_9 : decode cX2_boardOf 9 = .ok (.iconst 4, 1) := by decide +kernel
theorem dX2_boardOf_10 : decode cX2_boardOf 10 = .ok (.if_icmp .ge 7, 3) := by decide +kernel
theorem dX2_boardOf_13 : decode cX2_boardOf 13 = .ok (.iload_n 1, 1) := by decide +kernel
theorem dX2_boardOf_14 : decode cX2_boardOf 14 = .ok (.goto 4, 3) := by decide +kernel
theorem dX2_boardOf_17 : decode cX2_boardOf 17 = .ok (.iconst 0, 1) := by decide +kernel
theorem dX2_boardOf_18 : decode cX2_boardOf 18 = .ok (.aaload, 1) := by decide +kernel
theorem dX2_boardOf_19 : decode cX2_boardOf 19 = .ok (.areturn, 1) := by decide +kernel
theorem dX2_whoseTurn_0 : decode cX2_whoseTurn 0 = .ok (.aload_n 0, 1) := by decide +kernel
theorem dX2_whoseTurn_1 : decode cX2_whoseTurn 1 = .ok (.getfield 52, 3) := by decide +kernel
theorem dX2_whoseTurn_4 : decode cX2_whoseTurn 4 = .ok (.ifCond .eq 7, 3) := by decide +kernel
theorem dX2_whoseTurn_7 : decode cX2_whoseTurn 7 = .ok (.iconst (-1), 1) := by decide +kernel
theorem dX2_whoseTurn_8 : decode cX2_whoseTurn 8 = .ok (.goto 7, 3) := by decide +kernel
theorem dX2_whoseTurn_11 : decode cX2_whoseTurn 11 = .ok (.aload_n 0, 1) := by decide +kernel
theorem dX2_whoseTurn_12 : decode cX2_whoseTurn 12 = .ok (.getfield 42, 3) := by decide +kernel
theorem dX2_whoseTurn_15 : decode cX2_whoseTurn 15 = .ok (.ireturn, 1) := by decide +kernel
theorem dX2_isShifted_0 : decode cX2_isShifted 0 = .ok (.aload_n 0, 1) := by decide +kernel
theorem dX2_isShifted_1 : decode cX2_isShifted 1 = .ok (.getfield 45, 3) := by decide +kernel
theorem dX2_isShifted_4 : decode cX2_isShifted 4 = .ok (.ireturn, 1) := by decide +kernel
theorem dX2_ended_0 : decode cX2_ended 0 = .ok (.aload_n 0, 1) := by decide +kernel
theorem dX2_ended_1 : decode cX2_ended 1 = .ok (.getfield 49, 3) := by decide +kernel
theorem dX2_ended_4 : decode cX2_ended 4 = .ok (.ireturn, 1) := by decide +kernel
theorem dX2_isOver_0 : decode cX2_isOver 0 = .ok (.aload_n 0, 1) := by decide +kernel
theorem dX2_isOver_1 : decode cX2_isOver 1 = .ok (.getfield 52, 3) := by decide +kernel
theorem dX2_isOver_4 : decode cX2_isOver 4 = .ok (.ireturn, 1) := by decide +kernel
theorem dX2_winner_0 : decode cX2_winner 0 = .ok (.aload_n 0, 1) := by decide +kernel
theorem dX2_winner_1 : decode cX2_winner 1 = .ok (.getfield 31, 3) := by decide +kernel
theorem dX2_winner_4 : decode cX2_winner 4 = .ok (.ireturn, 1) := by decide +kernel
theorem dX2_isRunning_0 : decode cX2_isRunning 0 = .ok (.aload_n 0, 1) := by decide +kernel
theorem dX2_isRunning_1 : decode cX2_isRunning 1 = .ok (.getfield 39, 3) := by decide +kernel
theorem dX2_isRunning_4 : decode cX2_isRunning 4 = .ok (.ifCond .le 14, 3) := by decide +kernel
theorem dX2_isRunning_7 : decode cX2_isRunning 7 = .ok (.aload_n 0, 1) := by decide +kernel
theorem dX2_isRunning_8 : decode cX2_isRunning 8 = .ok (.getfield 52, 3) := by decide +kernel
theorem dX2_isRunning_11 : decode cX2_isRunning 11 = .ok (.ifCond .ne 7, 3) := by decide +kernel
theorem dX2_isRunning_14 : decode cX2_isRunning 14 = .ok (.iconst 1, 1) := by decide +kernel
theorem dX2_isRunning_15 : decode cX2_isRunning 15 = .ok (.goto 4, 3) := by decide +kernel
theorem dX2_isRunning_18 : decode cX2_isRunning 18 = .ok (.iconst 0, 1) := by decide +kernel
theorem dX2_isRunning_19 : decode cX2_isRunning 19 = .ok (.ireturn, 1) := by decide +kernel
set_option maxRecDepth 20000 in
theorem ggX2_settingOf_X6_isSetting : GoodIn wsX2_settingOf wsX6_isSetting := goodIn_r _ [4] (by decide +kernel) (by decide +kernel)
set_option maxRecDepth 20000 in
theorem gX2_settingOf_X6_isSetting_n59 : GoodIn wsX2_settingOf (wsX6_isSetting) := ggX2_settingOf_X6_isSetting
theorem dX2_settingOf_0 : decode cX2_settingOf 0 = .ok (.iload_n 1, 1) := by decide +kernel
theorem dX2_settingOf_1 : decode cX2_settingOf 1 = .ok (.invokestatic 59, 3) := by decide +kernel
theorem dX2_settingOf_4 : decode cX2_settingOf 4 = .ok (.ifCond .eq 12, 3) := by decide +kernel
theorem dX2_settingOf_7 : decode cX2_settingOf 7 = .ok (.aload_n 0, 1) := by decide +kernel
theorem dX2_settingOf_8 : decode cX2_settingOf 8 = .ok (.getfield 9, 3) := by decide +kernel
theorem dX2_settingOf_11 : decode cX2_settingOf 11 = .ok (.iload_n 1, 1) := by decide +kernel
theorem dX2_settingOf_12 : decode cX2_settingOf 12 = .ok (.iaload, 1) := by decide +kernel
theorem dX2_settingOf_13 : decode cX2_settingOf 13 = .ok (.goto 4, 3) := by decide +kernel
theorem dX2_settingOf_16 : decode cX2_settingOf 16 = .ok (.iconst 0, 1) := by decide +kernel
theorem dX2_settingOf_17 : decode cX2_settingOf 17 = .ok (.ireturn, 1) := by decide +kernel
set_option maxRecDepth 20000 in
theorem ggX2_changeSetting_X6_isSetting : GoodIn wsX2_changeSetting wsX6_isSetting := goodIn_r _ [4] (by decide +kernel) (by decide +kernel)
set_option maxRecDepth 20000 in
theorem gX2_changeSetting_X6_isSetting_n59 : GoodIn wsX2_changeSetting (wsX6_isSetting) := ggX2_changeSetting_X6_isSetting
theorem dX2_changeSetting_0 : decode cX2_changeSetting 0 = .ok (.iload_n 1, 1) := by decide +kernel
theorem dX2_changeSetting_1 : decode cX2_changeSetting 1 = .ok (.invokestatic 59, 3) := by decide +kernel
theorem dX2_changeSetting_4 : decode cX2_changeSetting 4 = .ok (.ifCond .ne 5, 3) := by decide +kernel
theorem dX2_changeSetting_7 : decode cX2_changeSetting 7 = .ok (.iconst 0, 1) := by decide +kernel
theorem dX2_changeSetting_8 : decode cX2_changeSetting 8 = .ok (.ireturn, 1) := by decide +kernel
theorem dX2_changeSetting_9 : decode cX2_changeSetting 9 = .ok (.aload_n 0, 1) := by decide +kernel
theorem dX2_changeSetting_10 : decode cX2_changeSetting 10 = .ok (.getfield 9, 3) := by decide +kernel
theorem dX2_changeSetting_13 : decode cX2_changeSetting 13 = .ok (.iload_n 1, 1) := by decide +kernel
theorem dX2_changeSetting_14 : decode cX2_changeSetting 14 = .ok (.iaload, 1) := by decide +kernel
theorem dX2_changeSetting_15 : decode cX2_changeSetting 15 = .ok (.istore_n 3, 1) := by decide +kernel
theorem dX2_changeSetting_16 : decode cX2_changeSetting 16 = .ok (.aload_n 0, 1) := by decide +kernel
theorem dX2_changeSetting_17 : decode cX2_changeSetting 17 = .ok (.getfield 9, 3) := by decide +kernel
theorem dX2_changeSetting_20 : decode cX2_changeSetting 20 = .ok (.iload_n 1, 1) := by decide +kernel
theorem dX2_changeSetting_21 : decode cX2_changeSetting 21 = .ok (.iload_n 2, 1) := by decide +kernel
theorem dX2_changeSetting_22 : decode cX2_changeSetting 22 = .ok (.iastore, 1) := by decide +kernel
theorem dX2_changeSetting_23 : decode cX2_changeSetting 23 = .ok (.iload_n 3, 1) := by decide +kernel
theorem dX2_changeSetting_24 : decode cX2_changeSetting 24 = .ok (.ireturn, 1) := by decide +kernel
set_option maxRecDepth 20000 in
theorem ggX2_takenByAll_X2_boardOf : GoodIn wsX2_takenByAll wsX2_boardOf := goodIn_r _ [6, 7, 14, 15, 16, 17, 18, 19, 20, 21] (by decide +kernel) (by decide +kernel)
set_option maxRecDepth 20000 in
theorem gX2_takenByAll_X2_boardOf : GoodIn wsX2_takenByAll (wsV RX2 63 RX2 yX2_boardOf wsX2_boardOf) := goodIn_app (goodIn_of _ (by decide +kernel)) ggX2_takenByAll_X2_boardOf
set_option maxRecDepth 20000 in
theorem ggX2_takenByAll_X0_taken : GoodIn wsX2_takenByAll wsX0_taken := goodIn_r _ [12, 13, 22, 23, 24, 25, 26, 27, 28, 29] (by decide +kernel) (by decide +kernel)
set_option maxRecDepth 20000 in
theorem gX2_takenByAll_X0_taken : GoodIn wsX2_takenByAll (wsV RX2 67 RX0 yX0_taken wsX0_taken) := goodIn_app (goodIn_of _ (by decide +kernel)) ggX2_takenByAll_X0_taken
theorem dX2_takenByAll_0 : decode cX2_takenByAll 0 = .ok (.iconst 0, 1) := by decide +kernel
theorem dX2_takenByAll_1 : decode cX2_takenByAll 1 = .ok (.istore_n 1, 1) := by decide +kernel
theorem dX2_takenByAll_2 : decode cX2_takenByAll 2 = .ok (.iconst 0, 1) := by decide +kernel
theorem dX2_takenByAll_3 : decode cX2_takenByAll 3 = .ok (.istore_n 2, 1) := by decide +kernel
theorem dX2_takenByAll_4 : decode cX2_takenByAll 4 = .ok (.iload_n 2, 1) := by decide +kernel
theorem dX2_takenByAll_5 : decode cX2_takenByAll 5 = .ok (.aload_n 0, 1) := by decide +kernel
theorem dX2_takenByAll_6 : decode cX2_takenByAll 6 = .ok (.getfield 39, 3) := by decide +kernel
theorem dX2_takenByAll_9 : decode cX2_takenByAll 9 = .ok (.if_icmp .ge 20, 3) := by decide +kernel
theorem dX2_takenByAll_12 : decode cX2_takenByAll 12 = .ok (.iload_n 1, 1) := by decide +kernel
theorem dX2_takenByAll_13 : decode cX2_takenByAll 13 = .ok (.aload_n 0, 1) := by decide +kernel
theorem dX2_takenByAll_14 : decode cX2_takenByAll 14 = .ok (.iload_n 2, 1) := by decide +kernel
theorem dX2_takenByAll_15 : decode cX2_takenByAll 15 = .ok (.invokevirtual 63, 3) := by decide +kernel
theorem dX2_takenByAll_18 : decode cX2_takenByAll 18 = .ok (.invokevirtual 67, 3) := by decide +kernel
theorem dX2_takenByAll_21 : decode cX2_takenByAll 21 = .ok (.iadd, 1) := by decide +kernel
theorem dX2_takenByAll_22 : decode cX2_takenByAll 22 = .ok (.istore_n 1, 1) := by decide +kernel
theorem dX2_takenByAll_23 : decode cX2_takenByAll 23 = .ok (.iinc 2 1, 3) := by decide +kernel
theorem dX2_takenByAll_26 : decode cX2_takenByAll 26 = .ok (.goto (-22), 3) := by decide +kernel
theorem dX2_takenByAll_29 : decode cX2_takenByAll 29 = .ok (.iload_n 1, 1) := by decide +kernel
theorem dX2_takenByAll_30 : decode cX2_takenByAll 30 = .ok (.ireturn, 1) := by decide +kernel
set_option maxRecDepth 20000 in
theorem ggX2_reaches_X2_hasPlayer : GoodIn wsX2_reaches wsX2_hasPlayer := goodIn_r _ [5, 6, 43, 44, 45, 46, 47, 48, 49, 50] (by decide +kernel) (by decide +kernel)
set_option maxRecDepth 20000 in
theorem gX2_reaches_X2_hasPlayer : GoodIn wsX2_reaches (wsV RX2 71 RX2 yX2_hasPlayer wsX2_hasPlayer) := goodIn_app (goodIn_of _ (by decide +kernel)) ggX2_reaches_X2_hasPlayer
set_option maxRecDepth 20000 in
theorem ggX2_reaches_X2_boardOf : GoodIn wsX2_reaches wsX2_boardOf := goodIn_r _ [10, 11, 43, 44, 45, 46, 47, 48, 49, 50] (by decide +kernel) (by decide +kernel)
set_option maxRecDepth 20000 in
theorem gX2_reaches_X2_boardOf : GoodIn wsX2_reaches (wsV RX2 63 RX2 yX2_boardOf wsX2_boardOf) := goodIn_app (goodIn_of _ (by decide +kernel)) ggX2_reaches_X2_boardOf
set_option maxRecDepth 20000 in
theorem ggX2_reaches_X2_settingOf : GoodIn wsX2_reaches wsX2_settingOf := goodIn_r _ [15, 16, 17, 18, 19, 43, 44, 45, 46, 47, 48, 49, 50] (by decide +kernel) (by decide +kernel)
set_option maxRecDepth 20000 in
theorem gX2_reaches_X2_settingOf : GoodIn wsX2_reaches (wsV RX2 74 RX2 yX2_settingOf wsX2_settingOf) := goodIn_app (goodIn_of _ (by decide +kernel)) ggX2_reaches_X2_settingOf
set_option maxRecDepth 20000 in
theorem ggX2_reaches_X0_reach : GoodIn wsX2_reaches wsX0_reach := goodIn_r _ [24, 25, 26, 27, 28, 23, 29, 30, 31, 32, 33, 34, 35, 36, 37, 51, 52, 53, 54, 55, 56, 57, 58] (by decide +kernel) (by decide +kernel)
set_option maxRecDepth 20000 in
theorem gX2_reaches_X0_reach : GoodIn wsX2_reaches (wsV RX2 78 RX0 yX0_reach wsX0_reach) := goodIn_app (goodIn_of _ (by decide +kernel)) ggX2_reaches_X0_reach
set_option maxRecDepth 20000 in
theorem ggX2_reaches_X6_isIn : GoodIn wsX2_reaches wsX6_isIn := goodIn_r _ [39, 40, 41, 18, 42] (by decide +kernel) (by decide +kernel)
set_option maxRecDepth 20000 in
theorem gX2_reaches_X6_isIn_n81 : GoodIn wsX2_reaches (wsX6_isIn) := ggX2_reaches_X6_isIn
theorem dX2_reaches_0 : decode cX2_reaches 0 = .ok (.aload_n 0, 1) := by decide +kernel
theorem dX2_reaches_1 : decode cX2_reaches 1 = .ok (.iload_n 1, 1) := by decide +kernel
theorem dX2_reaches_2 : decode cX2_reaches 2 = .ok (.invokevirtual 71, 3) := by decide +kernel
theorem dX2_reaches_5 : decode cX2_reaches 5 = .ok (.ifCond .eq 27, 3) := by decide +kernel
theorem dX2_reaches_8 : decode cX2_reaches 8 = .ok (.aload_n 0, 1) := by decide +kernel
theorem dX2_reaches_9 : decode cX2_reaches 9 = .ok (.iload_n 1, 1) := by decide +kernel
theorem dX2_reaches_10 : decode cX2_reaches 10 = .ok (.invokevirtual 63, 3) := by decide +kernel
theorem dX2_reaches_13 : decode cX2_reaches 13 = .ok (.aload_n 0, 1) := by decide +kernel
theorem dX2_reaches_14 : decode cX2_reaches 14 = .ok (.iconst 0, 1) := by decide +kernel
theorem dX2_reaches_15 : decode cX2_reaches 15 = .ok (.invokevirtual 74, 3) := by decide +kernel
theorem dX2_reaches_18 : decode cX2_reaches 18 = .ok (.invokevirtual 78, 3) := by decide +kernel
theorem dX2_reaches_21 : decode cX2_reaches 21 = .ok (.iload_n 2, 1) := by decide +kernel
theorem dX2_reaches_22 : decode cX2_reaches 22 = .ok (.invokestatic 81, 3) := by decide +kernel
theorem dX2_reaches_25 : decode cX2_reaches 25 = .ok (.ifCond .eq 7, 3) := by decide +kernel
theorem dX2_reaches_28 : decode cX2_reaches 28 = .ok (.iconst 1, 1) := by decide +kernel
theorem dX2_reaches_29 : decode cX2_reaches 29 = .ok (.goto 4, 3) := by decide +kernel
theorem dX2_reaches_32 : decode cX2_reaches 32 = .ok (.iconst 0, 1) := by decide +kernel
theorem dX2_reaches_33 : decode cX2_reaches 33 = .ok (.ireturn, 1) := by decide +kernel
set_option maxRecDepth 20000 in
theorem ggX2_mayShift_X2_isRunning : GoodIn wsX2_mayShift wsX2_isRunning := goodIn_r _ [7, 8, 9, 32, 33, 34, 35, 36, 37, 38, 39] (by decide +kernel) (by decide +kernel)
set_option maxRecDepth 20000 in
theorem gX2_mayShift_X2_isRunning : GoodIn wsX2_mayShift (wsV RX2 85 RX2 yX2_isRunning wsX2_isRunning) := goodIn_app (goodIn_of _ (by decide +kernel)) ggX2_mayShift_X2_isRunning
set_option maxRecDepth 20000 in
theorem ggX2_mayShift_X2_hasPlayer : GoodIn wsX2_mayShift wsX2_hasPlayer := goodIn_r _ [13, 8, 32, 33, 34, 35, 36, 37, 38, 39] (by decide +kernel) (by decide +kernel)
set_option maxRecDepth 20000 in
theorem gX2_mayShift_X2_hasPlayer : GoodIn wsX2_mayShift (wsV RX2 71 RX2 yX2_hasPlayer wsX2_hasPlayer) := goodIn_app (goodIn_of _ (by decide +kernel)) ggX2_mayShift_X2_hasPlayer
set_option maxRecDepth 20000 in
theorem ggX2_mayShift_X6_isLine : GoodIn wsX2_mayShift wsX6_isLine := goodIn_r _ [16] (by decide +kernel) (by decide +kernel)
set_option maxRecDepth 20000 in
theorem gX2_mayShift_X6_isLine_n89 : GoodIn wsX2_mayShift (wsX6_isLine) := ggX2_mayShift_X6_isLine
set_option maxRecDepth 20000 in
theorem ggX2_mayShift_X6_isDirection : GoodIn wsX2_mayShift wsX6_isDirection := goodIn_r _ [18] (by decide +kernel) (by decide +kernel)
set_option maxRecDepth 20000 in
theorem gX2_mayShift_X6_isDirection_n92 : GoodIn wsX2_mayShift (wsX6_isDirection) := ggX2_mayShift_X6_isDirection
set_option maxRecDepth 20000 in
theorem ggX2_mayShift_X2_boardOf : GoodIn wsX2_mayShift wsX2_boardOf := goodIn_r _ [22, 23, 32, 33, 34, 35, 36, 37, 38, 39] (by decide +kernel) (by decide +kernel)
set_option maxRecDepth 20000 in
theorem gX2_mayShift_X2_boardOf : GoodIn wsX2_mayShift (wsV RX2 63 RX2 yX2_boardOf wsX2_boardOf) := goodIn_app (goodIn_of _ (by decide +kernel)) ggX2_mayShift_X2_boardOf
set_option maxRecDepth 20000 in
theorem ggX2_mayShift_X0_allows : GoodIn wsX2_mayShift wsX0_allows := goodIn_r _ [28, 29, 30, 31, 40, 41, 42, 43, 44, 45, 46, 47] (by decide +kernel) (by decide +kernel)
set_option maxRecDepth 20000 in
theorem gX2_mayShift_X0_allows : GoodIn wsX2_mayShift (wsV RX2 95 RX0 yX0_allows wsX0_allows) := goodIn_app (goodIn_of _ (by decide +kernel)) ggX2_mayShift_X0_allows
theorem dX2_mayShift_0 : decode cX2_mayShift 0 = .ok (.aload_n 0, 1) := by decide +kernel
theorem dX2_mayShift_1 : decode cX2_mayShift 1 = .ok (.invokevirtual 85, 3) := by decide +kernel
theorem dX2_mayShift_4 : decode cX2_mayShift 4 = .ok (.ifCond .eq 57, 3) := by decide +kernel
theorem dX2_mayShift_7 : decode cX2_mayShift 7 = .ok (.aload_n 0, 1) := by decide +kernel
theorem dX2_mayShift_8 : decode cX2_mayShift 8 = .ok (.getfield 45, 3) := by decide +kernel
theorem dX2_mayShift_11 : decode cX2_mayShift 11 = .ok (.ifCond .ne 50, 3) := by decide +kernel
theorem dX2_mayShift_14 : decode cX2_mayShift 14 = .ok (.aload_n 0, 1) := by decide +kernel
theorem dX2_mayShift_15 : decode cX2_mayShift 15 = .ok (.iload_n 1, 1) := by decide +kernel
theorem dX2_mayShift_16 : decode cX2_mayShift 16 = .ok (.invokevirtual 71, 3) := by decide +kernel
theorem dX2_mayShift_19 : decode cX2_mayShift 19 = .ok (.ifCond .eq 42, 3) := by decide +kernel
theorem dX2_mayShift_22 : decode cX2_mayShift 22 = .ok (.iload_n 1, 1) := by decide +kernel
theorem dX2_mayShift_23 : decode cX2_mayShift 23 = .ok (.aload_n 0, 1) := by decide +kernel
theorem dX2_mayShift_24 : decode cX2_mayShift 24 = .ok (.getfield 42, 3) := by decide +kernel
theorem dX2_mayShift_27 : decode cX2_mayShift 27 = .ok (.if_icmp .eq 34, 3) := by decide +kernel
theorem dX2_mayShift_30 : decode cX2_mayShift 30 = .ok (.iload_n 2, 1) := by decide +kernel
theorem dX2_mayShift_31 : decode cX2_mayShift 31 = .ok (.invokestatic 89, 3) := by decide +kernel
theorem dX2_mayShift_34 : decode cX2_mayShift 34 = .ok (.ifCond .eq 27, 3) := by decide +kernel
theorem dX2_mayShift_37 : decode cX2_mayShift 37 = .ok (.iload_n 3, 1) := by decide +kernel
theorem dX2_mayShift_38 : decode cX2_mayShift 38 = .ok (.invokestatic 92, 3) := by decide +kernel
theorem dX2_mayShift_41 : decode cX2_mayShift 41 = .ok (.ifCond .eq 20, 3) := by decide +kernel
theorem dX2_mayShift_44 : decode cX2_mayShift 44 = .ok (.aload_n 0, 1) := by decide +kernel
theorem dX2_mayShift_45 : decode cX2_mayShift 45 = .ok (.iload_n 1, 1) := by decide +kernel
theorem dX2_mayShift_46 : decode cX2_mayShift 46 = .ok (.invokevirtual 63, 3) := by decide +kernel
theorem dX2_mayShift_49 : decode cX2_mayShift 49 = .ok (.iload_n 2, 1) := by decide +kernel
theorem dX2_mayShift_50 : decode cX2_mayShift 50 = .ok (.iload_n 3, 1) := by decide +kernel
theorem dX2_mayShift_51 : decode cX2_mayShift 51 = .ok (.invokevirtual 95, 3) := by decide +kernel
theorem dX2_mayShift_54 : decode cX2_mayShift 54 = .ok (.ifCond .eq 7, 3) := by decide +kernel
theorem dX2_mayShift_57 : decode cX2_mayShift 57 = .ok (.iconst 1, 1) := by decide +kernel
theorem dX2_mayShift_58 : decode cX2_mayShift 58 = .ok (.goto 4, 3) := by decide +kernel
theorem dX2_mayShift_61 : decode cX2_mayShift 61 = .ok (.iconst 0, 1) := by decide +kernel
theorem dX2_mayShift_62 : decode cX2_mayShift 62 = .ok (.ireturn, 1) := by decide +kernel
set_option maxRecDepth 20000 in
theorem ggX2_shiftLine_X2_boardOf : GoodIn wsX2_shiftLine wsX2_boardOf := goodIn_r _ [6, 7, 28, 29, 30, 31, 32, 33, 34, 35] (by decide +kernel) (by decide +kernel)
set_option maxRecDepth 20000 in
theorem gX2_shiftLine_X2_boardOf : GoodIn wsX2_shiftLine (wsV RX2 63 RX2 yX2_boardOf wsX2_boardOf) := goodIn_app (goodIn_of _ (by decide +kernel)) ggX2_shiftLine_X2_boardOf
set_option maxRecDepth 20000 in
theorem ggX2_shiftLine_X0_moveLine : GoodIn wsX2_shiftLine wsX0_moveLine := goodIn_r _ [12, 13, 14, 15, 16, 17, 18, 19, 20, 21, 11, 22, 23, 24, 25, 26, 27, 36, 37, 38, 39, 40, 41, 42, 43] (by decide +kernel) (by decide +kernel)
set_option maxRecDepth 20000 in
theorem gX2_shiftLine_X0_moveLine : GoodIn wsX2_shiftLine (wsV RX2 98 RX0 yX0_moveLine wsX0_moveLine) := goodIn_app (goodIn_of _ (by decide +kernel)) ggX2_shiftLine_X0_moveLine
theorem dX2_shiftLine_0 : decode cX2_shiftLine 0 = .ok (.aload_n 0, 1) := by decide +kernel
theorem dX2_shiftLine_1 : decode cX2_shiftLine 1 = .ok (.iload_n 1, 1) := by decide +kernel
theorem dX2_shiftLine_2 : decode cX2_shiftLine 2 = .ok (.invokevirtual 63, 3) := by decide +kernel
theorem dX2_shiftLine_5 : decode cX2_shiftLine 5 = .ok (.iload_n 2, 1) := by decide +kernel
theorem dX2_shiftLine_6 : decode cX2_shiftLine 6 = .ok (.iload_n 3, 1) := by decide +kernel
theorem dX2_shiftLine_7 : decode cX2_shiftLine 7 = .ok (.invokevirtual 98, 3) := by decide +kernel
theorem dX2_shiftLine_10 : decode cX2_shiftLine 10 = .ok (.aload_n 0, 1) := by decide +kernel
theorem dX2_shiftLine_11 : decode cX2_shiftLine 11 = .ok (.iconst 1, 1) := by decide +kernel
theorem dX2_shiftLine_12 : decode cX2_shiftLine 12 = .ok (.putfield 45, 3) := by decide +kernel
theorem dX2_shiftLine_15 : decode cX2_shiftLine 15 = .ok (.return_, 1) := by decide +kernel
set_option maxRecDepth 20000 in
theorem ggX2_tryShift_X2_mayShift : GoodIn wsX2_tryShift wsX2_mayShift := goodIn_r _ [5, 6, 7, 8, 9, 10, 4, 11, 12, 13, 14, 15, 16, 17, 18, 19, 20, 21, 22, 23, 24, 25, 26, 27, 28, 29, 30, 31, 32, 33, 34, 35, 54, 55, 56, 57, 58, 59, 60, 61, 62, 63, 64, 65, 66, 67, 68, 69] (by decide +kernel) (by decide +kernel)
set_option maxRecDepth 20000 in
theorem gX2_tryShift_X2_mayShift : GoodIn wsX2_tryShift (wsV RX2 102 RX2 yX2_mayShift wsX2_mayShift) := goodIn_app (goodIn_of _ (by decide +kernel)) ggX2_tryShift_X2_mayShift
set_option maxRecDepth 20000 in
theorem ggX2_tryShift_X2_shiftLine : GoodIn wsX2_tryShift wsX2_shiftLine := goodIn_r _ [39, 6, 23, 24, 25, 4, 26, 27, 40, 41, 42, 31, 43, 44, 45, 34, 35, 18, 19, 20, 46, 47, 48, 49, 50, 51, 52, 53, 54, 55, 56, 57, 58, 59, 60, 61, 62, 63, 64, 65, 66, 67, 68, 69] (by decide +kernel) (by decide +kernel)
set_option maxRecDepth 20000 in
theorem gX2_tryShift_X2_shiftLine : GoodIn wsX2_tryShift (wsV RX2 106 RX2 yX2_shiftLine wsX2_shiftLine) := goodIn_app (goodIn_of _ (by decide +kernel)) ggX2_tryShift_X2_shiftLine
theorem dX2_tryShift_0 : decode cX2_tryShift 0 = .ok (.aload_n 0, 1) := by decide +kernel
theorem dX2_tryShift_1 : decode cX2_tryShift 1 = .ok (.iload_n 1, 1) := by decide +kernel
theorem dX2_tryShift_2 : decode cX2_tryShift 2 = .ok (.iload_n 2, 1) := by decide +kernel
theorem dX2_tryShift_3 : decode cX2_tryShift 3 = .ok (.iload_n 3, 1) := by decide +kernel
theorem dX2_tryShift_4 : decode cX2_tryShift 4 = .ok (.invokevirtual 102, 3) := by decide +kernel
theorem dX2_tryShift_7 : decode cX2_tryShift 7 = .ok (.ifCond .ne 5, 3) := by decide +kernel
theorem dX2_tryShift_10 : decode cX2_tryShift 10 = .ok (.iconst 0, 1) := by decide +kernel
theorem dX2_tryShift_11 : decode cX2_tryShift 11 = .ok (.ireturn, 1) := by decide +kernel
theorem dX2_tryShift_12 : decode cX2_tryShift 12 = .ok (.aload_n 0, 1) := by decide +kernel
theorem dX2_tryShift_13 : decode cX2_tryShift 13 = .ok (.iload_n 1, 1) := by decide +kernel
theorem dX2_tryShift_14 : decode cX2_tryShift 14 = .ok (.iload_n 2, 1) := by decide +kernel
theorem dX2_tryShift_15 : decode cX2_tryShift 15 = .ok (.iload_n 3, 1) := by decide +kernel
theorem dX2_tryShift_16 : decode cX2_tryShift 16 = .ok (.invokevirtual 106, 3) := by decide +kernel
theorem dX2_tryShift_19 : decode cX2_tryShift 19 = .ok (.iconst 1, 1) := by decide +kernel
theorem dX2_tryShift_20 : decode cX2_tryShift 20 = .ok (.ireturn, 1) := by decide +kernel
set_option maxRecDepth 20000 in
theorem ggX2_mayEndTurn_X2_isRunning : GoodIn wsX2_mayEndTurn wsX2_isRunning := goodIn_r _ [6, 7, 8, 9, 10, 11, 12, 13, 14, 15, 16] (by decide +kernel) (by decide +kernel)
set_option maxRecDepth 20000 in
theorem gX2_mayEndTurn_X2_isRunning : GoodIn wsX2_mayEndTurn (wsV RX2 85 RX2 yX2_isRunning wsX2_isRunning) := goodIn_app (goodIn_of _ (by decide +kernel)) ggX2_mayEndTurn_X2_isRunning
theorem dX2_mayEndTurn_0 : decode cX2_mayEndTurn 0 = .ok (.aload_n 0, 1) := by decide +kernel
theorem dX2_mayEndTurn_1 : decode cX2_mayEndTurn 1 = .ok (.invokevirtual 85, 3) := by decide +kernel
theorem dX2_mayEndTurn_4 : decode cX2_mayEndTurn 4 = .ok (.ifCond .eq 14, 3) := by decide +kernel
theorem dX2_mayEndTurn_7 : decode cX2_mayEndTurn 7 = .ok (.aload_n 0, 1) := by decide +kernel
theorem dX2_mayEndTurn_8 : decode cX2_mayEndTurn 8 = .ok (.getfield 45, 3) := by decide +kernel
theorem dX2_mayEndTurn_11 : decode cX2_mayEndTurn 11 = .ok (.ifCond .eq 7, 3) := by decide +kernel
theorem dX2_mayEndTurn_14 : decode cX2_mayEndTurn 14 = .ok (.iconst 1, 1) := by decide +kernel
theorem dX2_mayEndTurn_15 : decode cX2_mayEndTurn 15 = .ok (.goto 4, 3) := by decide +kernel
theorem dX2_mayEndTurn_18 : decode cX2_mayEndTurn 18 = .ok (.iconst 0, 1) := by decide +kernel
theorem dX2_mayEndTurn_19 : decode cX2_mayEndTurn 19 = .ok (.ireturn, 1) := by decide +kernel
set_option maxRecDepth 20000 in
theorem ggX2_mayGo_X2_mayEndTurn : GoodIn wsX2_mayGo wsX2_mayEndTurn := goodIn_r _ [6, 7, 8, 9, 10, 5, 11, 12, 13, 58, 59, 60, 61, 62, 63, 64, 65] (by decide +kernel) (by decide +kernel)
set_option maxRecDepth 20000 in
theorem gX2_mayGo_X2_mayEndTurn : GoodIn wsX2_mayGo (wsV RX2 110 RX2 yX2_mayEndTurn wsX2_mayEndTurn) := goodIn_app (goodIn_of _ (by decide +kernel)) ggX2_mayGo_X2_mayEndTurn
set_option maxRecDepth 20000 in
theorem ggX2_mayGo_X2_reaches : GoodIn wsX2_mayGo wsX2_reaches := goodIn_r _ [17, 18, 19, 20, 5, 21, 12, 22, 23, 24, 25, 26, 27, 28, 29, 30, 31, 32, 33, 34, 35, 36, 37, 38, 39, 40, 41, 42, 43, 44, 45, 46, 47, 48, 49, 50, 51, 52, 53, 54, 55, 56, 57, 58, 59, 60, 61, 62, 63, 64, 65, 66, 67, 68, 69, 70, 71, 72, 73] (by decide +kernel) (by decide +kernel)
set_option maxRecDepth 20000 in
theorem gX2_mayGo_X2_reaches : GoodIn wsX2_mayGo (wsV RX2 113 RX2 yX2_reaches wsX2_reaches) := goodIn_app (goodIn_of _ (by decide +kernel)) ggX2_mayGo_X2_reaches
theorem dX2_mayGo_0 : decode cX2_mayGo 0 = .ok (.aload_n 0, 1) := by decide +kernel
theorem dX2_mayGo_1 : decode cX2_mayGo 1 = .ok (.invokevirtual 110, 3) := by decide +kernel
theorem dX2_mayGo_4 : decode cX2_mayGo 4 = .ok (.ifCond .eq 19, 3) := by decide +kernel
theorem dX2_mayGo_7 : decode cX2_mayGo 7 = .ok (.aload_n 0, 1) := by decide +kernel
theorem dX2_mayGo_8 : decode cX2_mayGo 8 = .ok (.aload_n 0, 1) := by decide +kernel
theorem dX2_mayGo_9 : decode cX2_mayGo 9 = .ok (.getfield 42, 3) := by decide +kernel
theorem dX2_mayGo_12 : decode cX2_mayGo 12 = .ok (.iload_n 1, 1) := by decide +kernel
theorem dX2_mayGo_13 : decode cX2_mayGo 13 = .ok (.invokevirtual 113, 3) := by decide +kernel
theorem dX2_mayGo_16 : decode cX2_mayGo 16 = .ok (.ifCond .eq 7, 3) := by decide +kernel
theorem dX2_mayGo_19 : decode cX2_mayGo 19 = .ok (.iconst 1, 1) := by decide +kernel
theorem dX2_mayGo_20 : decode cX2_mayGo 20 = .ok (.goto 4, 3) := by decide +kernel
theorem dX2_mayGo_23 : decode cX2_mayGo 23 = .ok (.iconst 0, 1) := by decide +kernel
theorem dX2_mayGo_24 : decode cX2_mayGo 24 = .ok (.ireturn, 1) := by decide +kernel
set_option maxRecDepth 20000 in
theorem ggX2_goTo_X2_boardOf : GoodIn wsX2_goTo wsX2_boardOf := goodIn_r _ [6, 7, 49, 50, 51, 52, 53, 54, 55, 56] (by decide +kernel) (by decide +kernel)
set_option maxRecDepth 20000 in
theorem gX2_goTo_X2_boardOf : GoodIn wsX2_goTo (wsV RX2 63 RX2 yX2_boardOf wsX2_boardOf) := goodIn_app (goodIn_of _ (by decide +kernel)) ggX2_goTo_X2_boardOf
set_option maxRecDepth 20000 in
theorem ggX2_goTo_X0_landOn : GoodIn wsX2_goTo wsX0_landOn := goodIn_r _ [12, 13, 14, 15, 16, 17, 18, 19, 20, 21, 11, 22, 23, 57, 58, 59, 60, 61, 62, 63, 64] (by decide +kernel) (by decide +kernel)
set_option maxRecDepth 20000 in
theorem gX2_goTo_X0_landOn : GoodIn wsX2_goTo (wsV RX2 116 RX0 yX0_landOn wsX0_landOn) := goodIn_app (goodIn_of _ (by decide +kernel)) ggX2_goTo_X0_landOn
set_option maxRecDepth 20000 in
theorem ggX2_goTo_X2_endTurn : GoodIn wsX2_goTo wsX2_endTurn := goodIn_r _ [27, 28, 29, 1, 30, 31, 32, 2, 3, 4, 5, 6, 7, 33, 34, 35, 11, 36, 15, 37, 38, 39, 40, 41, 42, 17, 43, 44, 45, 46, 47, 48, 49, 50, 51, 52, 53, 54, 55, 56, 57, 58, 59, 60, 61, 62, 63, 64] (by decide +kernel) (by decide +kernel)
set_option maxRecDepth 20000 in
theorem gX2_goTo_X2_endTurn : GoodIn wsX2_goTo (wsV RX2 119 RX2 yX2_endTurn wsX2_endTurn) := goodIn_app (goodIn_of _ (by decide +kernel)) ggX2_goTo_X2_endTurn
theorem dX2_goTo_0 : decode cX2_goTo 0 = .ok (.aload_n 0, 1) := by decide +kernel
theorem dX2_goTo_1 : decode cX2_goTo 1 = .ok (.aload_n 0, 1) := by decide +kernel
theorem dX2_goTo_2 : decode cX2_goTo 2 = .ok (.getfield 42, 3) := by decide +kernel
theorem dX2_goTo_5 : decode cX2_goTo 5 = .ok (.invokevirtual 63, 3) := by decide +kernel
theorem dX2_goTo_8 : decode cX2_goTo 8 = .ok (.iload_n 1, 1) := by decide +kernel
theorem dX2_goTo_9 : decode cX2_goTo 9 = .ok (.invokevirtual 116, 3) := by decide +kernel
theorem dX2_goTo_12 : decode cX2_goTo 12 = .ok (.istore_n 2, 1) := by decide +kernel
theorem dX2_goTo_13 : decode cX2_goTo 13 = .ok (.aload_n 0, 1) := by decide +kernel
theorem dX2_goTo_14 : decode cX2_goTo 14 = .ok (.invokevirtual 119, 3) := by decide +kernel
theorem dX2_goTo_17 : decode cX2_goTo 17 = .ok (.iload_n 2, 1) := by decide +kernel
theorem dX2_goTo_18 : decode cX2_goTo 18 = .ok (.ireturn, 1) := by decide +kernel
set_option maxRecDepth 20000 in
theorem ggX2_tryGo_X2_mayGo : GoodIn wsX2_tryGo wsX2_mayGo := goodIn_r _ [5, 6, 7, 8, 9, 4, 10, 11, 12, 13, 14, 15, 16, 17, 18, 19, 20, 21, 22, 23, 24, 25, 26, 27, 28, 29, 30, 31, 32, 33, 34, 35, 36, 37, 38, 39, 40, 41, 42, 43, 44, 45, 46, 47, 48, 49, 50, 51, 52, 53, 54, 55, 56, 57, 58, 59, 60, 61, 92, 93, 94, 95, 96, 97, 98, 99, 100, 101, 102, 103, 104, 105, 106, 107] (by decide +kernel) (by decide +kernel)
set_option maxRecDepth 20000 in
theorem gX2_tryGo_X2_mayGo : GoodIn wsX2_tryGo (wsV RX2 122 RX2 yX2_mayGo wsX2_mayGo) := goodIn_app (goodIn_of _ (by decide +kernel)) ggX2_tryGo_X2_mayGo
set_option maxRecDepth 20000 in
theorem ggX2_tryGo_X2_goTo : GoodIn wsX2_tryGo wsX2_goTo := goodIn_r _ [65, 6, 26, 27, 28, 4, 29, 30, 66, 67, 68, 42, 69, 44, 70, 71, 60, 37, 61, 72, 73, 74, 75, 76, 77, 78, 79, 80, 11, 81, 17, 82, 16, 83, 84, 85, 86, 31, 32, 33, 34, 35, 36, 38, 87, 88, 89, 90, 91, 92, 93, 94, 95, 96, 97, 98, 99, 100, 101, 102, 103, 104, 105, 106, 107] (by decide +kernel) (by decide +kernel)
set_option maxRecDepth 20000 in
theorem gX2_tryGo_X2_goTo : GoodIn wsX2_tryGo (wsV RX2 125 RX2 yX2_goTo wsX2_goTo) := goodIn_app (goodIn_of _ (by decide +kernel)) ggX2_tryGo_X2_goTo
theorem dX2_tryGo_0 : decode cX2_tryGo 0 = .ok (.aload_n 0, 1) := by decide +kernel
theorem dX2_tryGo_1 : decode cX2_tryGo 1 = .ok (.iload_n 1, 1) := by decide +kernel
theorem dX2_tryGo_2 : decode cX2_tryGo 2 = .ok (.invokevirtual 122, 3) := by decide +kernel
theorem dX2_tryGo_5 : decode cX2_tryGo 5 = .ok (.ifCond .ne 5, 3) := by decide +kernel
theorem dX2_tryGo_8 : decode cX2_tryGo 8 = .ok (.iconst 0, 1) := by decide +kernel
theorem dX2_tryGo_9 : decode cX2_tryGo 9 = .ok (.ireturn, 1) := by decide +kernel
theorem dX2_tryGo_10 : decode cX2_tryGo 10 = .ok (.aload_n 0, 1) := by decide +kernel
theorem dX2_tryGo_11 : decode cX2_tryGo 11 = .ok (.iload_n 1, 1) := by decide +kernel
theorem dX2_tryGo_12 : decode cX2_tryGo 12 = .ok (.invokevirtual 125, 3) := by decide +kernel
theorem dX2_tryGo_15 : decode cX2_tryGo 15 = .ok (.pop, 1) := by decide +kernel
theorem dX2_tryGo_16 : decode cX2_tryGo 16 = .ok (.iconst 1, 1) := by decide +kernel
theorem dX2_tryGo_17 : decode cX2_tryGo 17 = .ok (.ireturn, 1) := by decide +kernel
set_option maxRecDepth 20000 in
theorem ggX2_lockLine_X2_boardOf : GoodIn wsX2_lockLine wsX2_boardOf := goodIn_r _ [6, 7, 40, 41, 42, 43, 44, 45, 46, 47] (by decide +kernel) (by decide +kernel)
set_option maxRecDepth 20000 in
theorem gX2_lockLine_X2_boardOf : GoodIn wsX2_lockLine (wsV RX2 63 RX2 yX2_boardOf wsX2_boardOf) := goodIn_app (goodIn_of _ (by decide +kernel)) ggX2_lockLine_X2_boardOf
set_option maxRecDepth 20000 in
theorem ggX2_lockLine_X0_lockOn : GoodIn wsX2_lockLine wsX0_lockOn := goodIn_r _ [12, 13, 48, 49, 50, 51, 52, 53, 54, 55] (by decide +kernel) (by decide +kernel)
set_option maxRecDepth 20000 in
theorem gX2_lockLine_X0_lockOn : GoodIn wsX2_lockLine (wsV RX2 128 RX0 yX0_lockOn wsX0_lockOn) := goodIn_app (goodIn_of _ (by decide +kernel)) ggX2_lockLine_X0_lockOn
set_option maxRecDepth 20000 in
theorem ggX2_lockLine_X2_endTurn : GoodIn wsX2_lockLine wsX2_endTurn := goodIn_r _ [17, 18, 19, 1, 20, 21, 22, 2, 3, 4, 5, 6, 7, 23, 24, 25, 11, 26, 27, 28, 29, 30, 31, 32, 33, 34, 35, 36, 37, 38, 39, 13, 40, 41, 42, 43, 44, 45, 46, 47, 48, 49, 50, 51, 52, 53, 54, 55] (by decide +kernel) (by decide +kernel)
set_option maxRecDepth 20000 in
theorem gX2_lockLine_X2_endTurn : GoodIn wsX2_lockLine (wsV RX2 119 RX2 yX2_endTurn wsX2_endTurn) := goodIn_app (goodIn_of _ (by decide +kernel)) ggX2_lockLine_X2_endTurn
theorem dX2_lockLine_0 : decode cX2_lockLine 0 = .ok (.aload_n 0, 1) := by decide +kernel
theorem dX2_lockLine_1 : decode cX2_lockLine 1 = .ok (.aload_n 0, 1) := by decide +kernel
theorem dX2_lockLine_2 : decode cX2_lockLine 2 = .ok (.getfield 42, 3) := by decide +kernel
theorem dX2_lockLine_5 : decode cX2_lockLine 5 = .ok (.invokevirtual 63, 3) := by decide +kernel
theorem dX2_lockLine_8 : decode cX2_lockLine 8 = .ok (.iload_n 1, 1) := by decide +kernel
theorem dX2_lockLine_9 : decode cX2_lockLine 9 = .ok (.invokevirtual 128, 3) := by decide +kernel
theorem dX2_lockLine_12 : decode cX2_lockLine 12 = .ok (.aload_n 0, 1) := by decide +kernel
theorem dX2_lockLine_13 : decode cX2_lockLine 13 = .ok (.invokevirtual 119, 3) := by decide +kernel
theorem dX2_lockLine_16 : decode cX2_lockLine 16 = .ok (.return_, 1) := by decide +kernel
set_option maxRecDepth 20000 in
theorem ggX2_tryLock_X2_mayEndTurn : GoodIn wsX2_tryLock wsX2_mayEndTurn := goodIn_r _ [5, 6, 7, 8, 9, 4, 10, 11, 12, 54, 55, 56, 57, 58, 59, 60, 61] (by decide +kernel) (by decide +kernel)
set_option maxRecDepth 20000 in
theorem gX2_tryLock_X2_mayEndTurn : GoodIn wsX2_tryLock (wsV RX2 110 RX2 yX2_mayEndTurn wsX2_mayEndTurn) := goodIn_app (goodIn_of _ (by decide +kernel)) ggX2_tryLock_X2_mayEndTurn
set_option maxRecDepth 20000 in
theorem ggX2_tryLock_X6_isLine : GoodIn wsX2_tryLock wsX6_isLine := goodIn_r _ [15] (by decide +kernel) (by decide +kernel)
set_option maxRecDepth 20000 in
theorem gX2_tryLock_X6_isLine_n89 : GoodIn wsX2_tryLock (wsX6_isLine) := ggX2_tryLock_X6_isLine
set_option maxRecDepth 20000 in
theorem ggX2_tryLock_X2_lockLine : GoodIn wsX2_tryLock wsX2_lockLine := goodIn_r _ [19, 20, 21, 22, 23, 4, 24, 25, 26, 27, 28, 29, 30, 31, 32, 33, 34, 35, 6, 36, 12, 37, 11, 38, 39, 40, 41, 42, 43, 44, 45, 46, 47, 48, 14, 49, 50, 51, 52, 53, 54, 55, 56, 57, 58, 59, 60, 61, 62, 63, 64, 65, 66, 67, 68, 69] (by decide +kernel) (by decide +kernel)
set_option maxRecDepth 20000 in
theorem gX2_tryLock_X2_lockLine : GoodIn wsX2_tryLock (wsV RX2 132 RX2 yX2_lockLine wsX2_lockLine) := goodIn_app (goodIn_of _ (by decide +kernel)) ggX2_tryLock_X2_lockLine
theorem dX2_tryLock_0 : decode cX2_tryLock 0 = .ok (.aload_n 0, 1) := by decide +kernel
theorem dX2_tryLock_1 : decode cX2_tryLock 1 = .ok (.invokevirtual 110, 3) := by decide +kernel
theorem dX2_tryLock_4 : decode cX2_tryLock 4 = .ok (.ifCond .eq 10, 3) := by decide +kernel
theorem dX2_tryLock_7 : decode cX2_tryLock 7 = .ok (.iload_n 1, 1) := by decide +kernel
theorem dX2_tryLock_8 : decode cX2_tryLock 8 = .ok (.invokestatic 89, 3) := by decide +kernel
theorem dX2_tryLock_11 : decode cX2_tryLock 11 = .ok (.ifCond .ne 5, 3) := by decide +kernel
theorem dX2_tryLock_14 : decode cX2_tryLock 14 = .ok (.iconst 0, 1) := by decide +kernel
theorem dX2_tryLock_15 : decode cX2_tryLock 15 = .ok (.ireturn, 1) := by decide +kernel
theorem dX2_tryLock_16 : decode cX2_tryLock 16 = .ok (.aload_n 0, 1) := by decide +kernel
theorem dX2_tryLock_17 : decode cX2_tryLock 17 = .ok (.iload_n 1, 1) := by decide +kernel
theorem dX2_tryLock_18 : decode cX2_tryLock 18 = .ok (.invokevirtual 132, 3) := by decide +kernel
theorem dX2_tryLock_21 : decode cX2_tryLock 21 = .ok (.iconst 1, 1) := by decide +kernel
theorem dX2_tryLock_22 : decode cX2_tryLock 22 = .ok (.ireturn, 1) := by decide +kernel
set_option maxRecDepth 20000 in
theorem ggX2_endTurn_X2_boardOf : GoodIn wsX2_endTurn wsX2_boardOf := goodIn_r _ [11, 12, 32, 33, 34, 35, 36, 37, 38, 39] (by decide +kernel) (by decide +kernel)
set_option maxRecDepth 20000 in
theorem gX2_endTurn_X2_boardOf : GoodIn wsX2_endTurn (wsV RX2 63 RX2 yX2_boardOf wsX2_boardOf) := goodIn_app (goodIn_of _ (by decide +kernel)) ggX2_endTurn_X2_boardOf
set_option maxRecDepth 20000 in
theorem ggX2_endTurn_X0_taken : GoodIn wsX2_endTurn wsX0_taken := goodIn_r _ [17, 18, 40, 41, 42, 43, 44, 45, 46, 47] (by decide +kernel) (by decide +kernel)
set_option maxRecDepth 20000 in
theorem gX2_endTurn_X0_taken : GoodIn wsX2_endTurn (wsV RX2 67 RX0 yX0_taken wsX0_taken) := goodIn_app (goodIn_of _ (by decide +kernel)) ggX2_endTurn_X0_taken
set_option maxRecDepth 20000 in
theorem ggX2_endTurn_X2_settingOf : GoodIn wsX2_endTurn wsX2_settingOf := goodIn_r _ [22, 23, 24, 25, 26, 32, 33, 34, 35, 36, 37, 38, 39] (by decide +kernel) (by decide +kernel)
set_option maxRecDepth 20000 in
theorem gX2_endTurn_X2_settingOf : GoodIn wsX2_endTurn (wsV RX2 74 RX2 yX2_settingOf wsX2_settingOf) := goodIn_app (goodIn_of _ (by decide +kernel)) ggX2_endTurn_X2_settingOf
set_option maxRecDepth 20000 in
theorem ggX2_endTurn_X0_unlock : GoodIn wsX2_endTurn wsX0_unlock := goodIn_r _ [30, 31, 40, 41, 42, 43, 44, 45, 46, 47] (by decide +kernel) (by decide +kernel)
set_option maxRecDepth 20000 in
theorem gX2_endTurn_X0_unlock : GoodIn wsX2_endTurn (wsV RX2 135 RX0 yX0_unlock wsX0_unlock) := goodIn_app (goodIn_of _ (by decide +kernel)) ggX2_endTurn_X0_unlock
theorem dX2_endTurn_0 : decode cX2_endTurn 0 = .ok (.aload_n 0, 1) := by decide +kernel
theorem dX2_endTurn_1 : decode cX2_endTurn 1 = .ok (.iconst 0, 1) := by decide +kernel
theorem dX2_endTurn_2 : decode cX2_endTurn 2 = .ok (.putfield 45, 3) := by decide +kernel
theorem dX2_endTurn_5 : decode cX2_endTurn 5 = .ok (.aload_n 0, 1) := by decide +kernel
theorem dX2_endTurn_6 : decode cX2_endTurn 6 = .ok (.dup, 1) := by decide +kernel
theorem dX2_endTurn_7 : decode cX2_endTurn 7 = .ok (.getfield 49, 3) := by decide +kernel
theorem dX2_endTurn_10 : decode cX2_endTurn 10 = .ok (.iconst 1, 1) := by decide +kernel
theorem dX2_endTurn_11 : decode cX2_endTurn 11 = .ok (.iadd, 1) := by decide +kernel
theorem dX2_endTurn_12 : decode cX2_endTurn 12 = .ok (.putfield 49, 3) := by decide +kernel
theorem dX2_endTurn_15 : decode cX2_endTurn 15 = .ok (.aload_n 0, 1) := by decide +kernel
theorem dX2_endTurn_16 : decode cX2_endTurn 16 = .ok (.aload_n 0, 1) := by decide +kernel
theorem dX2_endTurn_17 : decode cX2_endTurn 17 = .ok (.getfield 42, 3) := by decide +kernel
theorem dX2_endTurn_20 : decode cX2_endTurn 20 = .ok (.invokevirtual 63, 3) := by decide +kernel
theorem dX2_endTurn_23 : decode cX2_endTurn 23 = .ok (.invokevirtual 67, 3) := by decide +kernel
theorem dX2_endTurn_26 : decode cX2_endTurn 26 = .ok (.aload_n 0, 1) := by decide +kernel
theorem dX2_endTurn_27 : decode cX2_endTurn 27 = .ok (.iconst 1, 1) := by decide +kernel
theorem dX2_endTurn_28 : decode cX2_endTurn 28 = .ok (.invokevirtual 74, 3) := by decide +kernel
theorem dX2_endTurn_31 : decode cX2_endTurn 31 = .ok (.if_icmp .lt 19, 3) := by decide +kernel
theorem dX2_endTurn_34 : decode cX2_endTurn 34 = .ok (.aload_n 0, 1) := by decide +kernel
theorem dX2_endTurn_35 : decode cX2_endTurn 35 = .ok (.iconst 1, 1) := by decide +kernel
theorem dX2_endTurn_36 : decode cX2_endTurn 36 = .ok (.putfield 52, 3) := by decide +kernel
theorem dX2_endTurn_39 : decode cX2_endTurn 39 = .ok (.aload_n 0, 1) := by decide +kernel
theorem dX2_endTurn_40 : decode cX2_endTurn 40 = .ok (.aload_n 0, 1) := by decide +kernel
theorem dX2_endTurn_41 : decode cX2_endTurn 41 = .ok (.getfield 42, 3) := by decide +kernel
theorem dX2_endTurn_44 : decode cX2_endTurn 44 = .ok (.putfield 31, 3) := by decide +kernel
theorem dX2_endTurn_47 : decode cX2_endTurn 47 = .ok (.goto 61, 3) := by decide +kernel
theorem dX2_endTurn_50 : decode cX2_endTurn 50 = .ok (.aload_n 0, 1) := by decide +kernel
theorem dX2_endTurn_51 : decode cX2_endTurn 51 = .ok (.getfield 49, 3) := by decide +kernel
theorem dX2_endTurn_54 : decode cX2_endTurn 54 = .ok (.aload_n 0, 1) := by decide +kernel
theorem dX2_endTurn_55 : decode cX2_endTurn 55 = .ok (.iconst 2, 1) := by decide +kernel
theorem dX2_endTurn_56 : decode cX2_endTurn 56 = .ok (.invokevirtual 74, 3) := by decide +kernel
theorem dX2_endTurn_59 : decode cX2_endTurn 59 = .ok (.if_icmp .lt 11, 3) := by decide +kernel
theorem dX2_endTurn_62 : decode cX2_endTurn 62 = .ok (.aload_n 0, 1) := by decide +kernel
theorem dX2_endTurn_63 : decode cX2_endTurn 63 = .ok (.iconst 1, 1) := by decide +kernel
theorem dX2_endTurn_64 : decode cX2_endTurn 64 = .ok (.putfield 52, 3) := by decide +kernel
theorem dX2_endTurn_67 : decode cX2_endTurn 67 = .ok (.goto 41, 3) := by decide +kernel
theorem dX2_endTurn_70 : decode cX2_endTurn 70 = .ok (.aload_n 0, 1) := by decide +kernel
theorem dX2_endTurn_71 : decode cX2_endTurn 71 = .ok (.aload_n 0, 1) := by decide +kernel
theorem dX2_endTurn_72 : decode cX2_endTurn 72 = .ok (.getfield 42, 3) := by decide +kernel
theorem dX2_endTurn_75 : decode cX2_endTurn 75 = .ok (.iconst 1, 1) := by decide +kernel
theorem dX2_endTurn_76 : decode cX2_endTurn 76 = .ok (.iadd, 1) := by decide +kernel
theorem dX2_endTurn_77 : decode cX2_endTurn 77 = .ok (.aload_n 0, 1) := by decide +kernel
theorem dX2_endTurn_78 : decode cX2_endTurn 78 = .ok (.getfield 39, 3) := by decide +kernel
theorem dX2_endTurn_81 : decode cX2_endTurn 81 = .ok (.if_icmp .ge 12, 3) := by decide +kernel
theorem dX2_endTurn_84 : decode cX2_endTurn 84 = .ok (.aload_n 0, 1) := by decide +kernel
theorem dX2_endTurn_85 : decode cX2_endTurn 85 = .ok (.getfield 42, 3) := by decide +kernel
theorem dX2_endTurn_88 : decode cX2_endTurn 88 = .ok (.iconst 1, 1) := by decide +kernel
theorem dX2_endTurn_89 : decode cX2_endTurn 89 = .ok (.iadd, 1) := by decide +kernel
theorem dX2_endTurn_90 : decode cX2_endTurn 90 = .ok (.goto 4, 3) := by decide +kernel
theorem dX2_endTurn_93 : decode cX2_endTurn 93 = .ok (.iconst 0, 1) := by decide +kernel
theorem dX2_endTurn_94 : decode cX2_endTurn 94 = .ok (.putfield 42, 3) := by decide +kernel
theorem dX2_endTurn_97 : decode cX2_endTurn 97 = .ok (.aload_n 0, 1) := by decide +kernel
theorem dX2_endTurn_98 : decode cX2_endTurn 98 = .ok (.aload_n 0, 1) := by decide +kernel
theorem dX2_endTurn_99 : decode cX2_endTurn 99 = .ok (.getfield 42, 3) := by decide +kernel
theorem dX2_endTurn_102 : decode cX2_endTurn 102 = .ok (.invokevirtual 63, 3) := by decide +kernel
theorem dX2_endTurn_105 : decode cX2_endTurn 105 = .ok (.invokevirtual 135, 3) := by decide +kernel
theorem dX2_endTurn_108 : decode cX2_endTurn 108 = .ok (.return_, 1) := by decide +kernel
set_option maxRecDepth 20000 in
theorem ggX3_init_X2_init : GoodIn wsX3_init wsX2_init := goodIn_r _ [10, 11, 2, 3, 12, 13, 14, 15, 16, 17, 18, 19, 20, 21, 22, 23, 24, 25, 26, 27, 28, 29, 33, 34, 35, 36, 37, 38, 39, 40, 41, 42, 43, 44, 45, 46, 47, 48] (by decide +kernel) (by decide +kernel)
set_option maxRecDepth 20000 in
theorem gX3_init_X2_init : GoodIn wsX3_init (wsX2_init) := ggX3_init_X2_init
theorem dX3_init_0 : decode cX3_init 0 = .ok (.aload_n 0, 1) := by decide +kernel
theorem dX3_init_1 : decode cX3_init 1 = .ok (.invokespecial 3, 3) := by decide +kernel
theorem dX3_init_4 : decode cX3_init 4 = .ok (.aload_n 0, 1) := by decide +kernel
theorem dX3_init_5 : decode cX3_init 5 = .ok (.bipush 14, 2) := by decide +kernel
theorem dX3_init_7 : decode cX3_init 7 = .ok (.anewarray 9, 3) := by decide +kernel
theorem dX3_init_10 : decode cX3_init 10 = .ok (.putfield 11, 3) := by decide +kernel
theorem dX3_init_13 : decode cX3_init 13 = .ok (.iconst 0, 1) := by decide +kernel
theorem dX3_init_14 : decode cX3_init 14 = .ok (.istore_n 1, 1) := by decide +kernel
theorem dX3_init_15 : decode cX3_init 15 = .ok (.iload_n 1, 1) := by decide +kernel
theorem dX3_init_16 : decode cX3_init 16 = .ok (.bipush 14, 2) := by decide +kernel
theorem dX3_init_18 : decode cX3_init 18 = .ok (.if_icmp .ge 22, 3) := by decide +kernel
theorem dX3_init_21 : decode cX3_init 21 = .ok (.aload_n 0, 1) := by decide +kernel
theorem dX3_init_22 : decode cX3_init 22 = .ok (.getfield 11, 3) := by decide +kernel
theorem dX3_init_25 : decode cX3_init 25 = .ok (.iload_n 1, 1) := by decide +kernel
theorem dX3_init_26 : decode cX3_init 26 = .ok (.new 9, 3) := by decide +kernel
theorem dX3_init_29 : decode cX3_init 29 = .ok (.dup, 1) := by decide +kernel
theorem dX3_init_30 : decode cX3_init 30 = .ok (.invokespecial 17, 3) := by decide +kernel
theorem dX3_init_33 : decode cX3_init 33 = .ok (.aastore, 1) := by decide +kernel
theorem dX3_init_34 : decode cX3_init 34 = .ok (.iinc 1 1, 3) := by decide +kernel
theorem dX3_init_37 : decode cX3_init 37 = .ok (.goto (-22), 3) := by decide +kernel
theorem dX3_init_40 : decode cX3_init 40 = .ok (.return_, 1) := by decide +kernel
theorem dX3_count_0 : decode cX3_count 0 = .ok (.aload_n 0, 1) := by decide +kernel
theorem dX3_count_1 : decode cX3_count 1 = .ok (.getfield 18, 3) := by decide +kernel
theorem dX3_count_4 : decode cX3_count 4 = .ok (.ireturn, 1) := by decide +kernel
theorem dX3_forget_0 : decode cX3_forget 0 = .ok (.aload_n 0, 1) := by decide +kernel
theorem dX3_forget_1 : decode cX3_forget 1 = .ok (.iconst 0, 1) := by decide +kernel
theorem dX3_forget_2 : decode cX3_forget 2 = .ok (.putfield 18, 3) := by decide +kernel
theorem dX3_forget_5 : decode cX3_forget 5 = .ok (.return_, 1) := by decide +kernel
set_option maxRecDepth 20000 in
theorem ggX3_remember_X2_copyFrom : GoodIn wsX3_remember wsX2_copyFrom := goodIn_r _ [12, 13, 14, 15, 16, 17, 18, 19, 20, 21, 22, 23, 24, 25, 26, 27, 28, 29, 30, 31, 32, 33, 34, 35, 36, 37, 38, 42, 43, 44, 45, 46, 47, 48, 49, 50, 51, 52, 53, 54, 55, 56, 57] (by decide +kernel) (by decide +kernel)
set_option maxRecDepth 20000 in
theorem gX3_remember_X2_copyFrom : GoodIn wsX3_remember (wsV RX3 25 RX2 yX2_copyFrom wsX2_copyFrom) := goodIn_app (goodIn_of _ (by decide +kernel)) ggX3_remember_X2_copyFrom
theorem dX3_remember_0 : decode cX3_remember 0 = .ok (.aload_n 0, 1) := by decide +kernel
theorem dX3_remember_1 : decode cX3_remember 1 = .ok (.getfield 22, 3) := by decide +kernel
theorem dX3_remember_4 : decode cX3_remember 4 = .ok (.ifCond .lt 25, 3) := by decide +kernel
theorem dX3_remember_7 : decode cX3_remember 7 = .ok (.aload_n 0, 1) := by decide +kernel
theorem dX3_remember_8 : decode cX3_remember 8 = .ok (.getfield 22, 3) := by decide +kernel
theorem dX3_remember_11 : decode cX3_remember 11 = .ok (.bipush 14, 2) := by decide +kernel
theorem dX3_remember_13 : decode cX3_remember 13 = .ok (.if_icmp .ge 16, 3) := by decide +kernel
theorem dX3_remember_16 : decode cX3_remember 16 = .ok (.aload_n 0, 1) := by decide +kernel
theorem dX3_remember_17 : decode cX3_remember 17 = .ok (.getfield 11, 3) := by decide +kernel
theorem dX3_remember_20 : decode cX3_remember 20 = .ok (.aload_n 0, 1) := by decide +kernel
theorem dX3_remember_21 : decode cX3_remember 21 = .ok (.getfield 22, 3) := by decide +kernel
theorem dX3_remember_24 : decode cX3_remember 24 = .ok (.aaload, 1) := by decide +kernel
theorem dX3_remember_25 : decode cX3_remember 25 = .ok (.aload_n 1, 1) := by decide +kernel
theorem dX3_remember_26 : decode cX3_remember 26 = .ok (.invokevirtual 25, 3) := by decide +kernel
theorem dX3_remember_29 : decode cX3_remember 29 = .ok (.aload_n 0, 1) := by decide +kernel
theorem dX3_remember_30 : decode cX3_remember 30 = .ok (.aload_n 0, 1) := by decide +kernel
theorem dX3_remember_31 : decode cX3_remember 31 = .ok (.getfield 22, 3) := by decide +kernel
theorem dX3_remember_34 : decode cX3_remember 34 = .ok (.iconst 1, 1) := by decide +kernel
theorem dX3_remember_35 : decode cX3_remember 35 = .ok (.iadd, 1) := by decide +kernel
theorem dX3_remember_36 : decode cX3_remember 36 = .ok (.bipush 14, 2) := by decide +kernel
theorem dX3_remember_38 : decode cX3_remember 38 = .ok (.if_icmp .ge 12, 3) := by decide +kernel
theorem dX3_remember_41 : decode cX3_remember 41 = .ok (.aload_n 0, 1) := by decide +kernel
theorem dX3_remember_42 : decode cX3_remember 42 = .ok (.getfield 22, 3) := by decide +kernel
theorem dX3_remember_45 : decode cX3_remember 45 = .ok (.iconst 1, 1) := by decide +kernel
theorem dX3_remember_46 : decode cX3_remember 46 = .ok (.iadd, 1) := by decide +kernel
theorem dX3_remember_47 : decode cX3_remember 47 = .ok (.goto 4, 3) := by decide +kernel
theorem dX3_remember_50 : decode cX3_remember 50 = .ok (.iconst 0, 1) := by decide +kernel
theorem dX3_remember_51 : decode cX3_remember 51 = .ok (.putfield 22, 3) := by decide +kernel
theorem dX3_remember_54 : decode cX3_remember 54 = .ok (.aload_n 0, 1) := by decide +kernel
theorem dX3_remember_55 : decode cX3_remember 55 = .ok (.aload_n 0, 1) := by decide +kernel
theorem dX3_remember_56 : decode cX3_remember 56 = .ok (.getfield 18, 3) := by decide +kernel
theorem dX3_remember_59 : decode cX3_remember 59 = .ok (.iconst 1, 1) := by decide +kernel
theorem dX3_remember_60 : decode cX3_remember 60 = .ok (.iadd, 1) := by decide +kernel
theorem dX3_remember_61 : decode cX3_remember 61 = .ok (.bipush 14, 2) := by decide +kernel
theorem dX3_remember_63 : decode cX3_remember 63 = .ok (.invokestatic 29, 3) := by decide +kernel
theorem dX3_remember_66 : decode cX3_remember 66 = .ok (.putfield 18, 3) := by decide +kernel
theorem dX3_remember_69 : decode cX3_remember 69 = .ok (.return_, 1) := by decide +kernel
set_option maxRecDepth 20000 in
theorem ggX3_recall_X2_copyFrom : GoodIn wsX3_recall wsX2_copyFrom := goodIn_r _ [8, 9, 10, 11, 12, 13, 14, 15, 16, 17, 18, 19, 20, 21, 22, 23, 24, 25, 26, 27, 28, 29, 30, 31, 32, 33, 34, 38, 39, 40, 41, 42, 43, 44, 45, 46, 47, 48, 49, 50, 51, 52, 53] (by decide +kernel) (by decide +kernel)
set_option maxRecDepth 20000 in
theorem gX3_recall_X2_copyFrom : GoodIn wsX3_recall (wsV RX3 25 RX2 yX2_copyFrom wsX2_copyFrom) := goodIn_app (goodIn_of _ (by decide +kernel)) ggX3_recall_X2_copyFrom
theorem dX3_recall_0 : decode cX3_recall 0 = .ok (.aload_n 0, 1) := by decide +kernel
theorem dX3_recall_1 : decode cX3_recall 1 = .ok (.aload_n 0, 1) := by decide +kernel
theorem dX3_recall_2 : decode cX3_recall 2 = .ok (.getfield 22, 3) := by decide +kernel
theorem dX3_recall_5 : decode cX3_recall 5 = .ok (.ifCond .le 12, 3) := by decide +kernel
theorem dX3_recall_8 : decode cX3_recall 8 = .ok (.aload_n 0, 1) := by decide +kernel
theorem dX3_recall_9 : decode cX3_recall 9 = .ok (.getfield 22, 3) := by decide +kernel
theorem dX3_recall_12 : decode cX3_recall 12 = .ok (.iconst 1, 1) := by decide +kernel
theorem dX3_recall_13 : decode cX3_recall 13 = .ok (.isub, 1) := by decide +kernel
theorem dX3_recall_14 : decode cX3_recall 14 = .ok (.goto 5, 3) := by decide +kernel
theorem dX3_recall_17 : decode cX3_recall 17 = .ok (.bipush 13, 2) := by decide +kernel
theorem dX3_recall_19 : decode cX3_recall 19 = .ok (.putfield 22, 3) := by decide +kernel
theorem dX3_recall_22 : decode cX3_recall 22 = .ok (.aload_n 0, 1) := by decide +kernel
theorem dX3_recall_23 : decode cX3_recall 23 = .ok (.dup, 1) := by decide +kernel
theorem dX3_recall_24 : decode cX3_recall 24 = .ok (.getfield 18, 3) := by decide +kernel
theorem dX3_recall_27 : decode cX3_recall 27 = .ok (.iconst 1, 1) := by decide +kernel
theorem dX3_recall_28 : decode cX3_recall 28 = .ok (.isub, 1) := by decide +kernel
theorem dX3_recall_29 : decode cX3_recall 29 = .ok (.putfield 18, 3) := by decide +kernel
theorem dX3_recall_32 : decode cX3_recall 32 = .ok (.aload_n 0, 1) := by decide +kernel
theorem dX3_recall_33 : decode cX3_recall 33 = .ok (.getfield 22, 3) := by decide +kernel
theorem dX3_recall_36 : decode cX3_recall 36 = .ok (.bipush 14, 2) := by decide +kernel
theorem dX3_recall_38 : decode cX3_recall 38 = .ok (.if_icmp .ge 16, 3) := by decide +kernel
theorem dX3_recall_41 : decode cX3_recall 41 = .ok (.aload_n 1, 1) := by decide +kernel
theorem dX3_recall_42 : decode cX3_recall 42 = .ok (.aload_n 0, 1) := by decide +kernel
theorem dX3_recall_43 : decode cX3_recall 43 = .ok (.getfield 11, 3) := by decide +kernel
theorem dX3_recall_46 : decode cX3_recall 46 = .ok (.aload_n 0, 1) := by decide +kernel
theorem dX3_recall_47 : decode cX3_recall 47 = .ok (.getfield 22, 3) := by decide +kernel
theorem dX3_recall_50 : decode cX3_recall 50 = .ok (.aaload, 1) := by decide +kernel
theorem dX3_recall_51 : decode cX3_recall 51 = .ok (.invokevirtual 25, 3) := by decide +kernel
theorem dX3_recall_54 : decode cX3_recall 54 = .ok (.return_, 1) := by decide +kernel
set_option maxRecDepth 20000 in
theorem ggX4_init_X0_init : GoodIn wsX4_init wsX0_init := goodIn_r _ [10, 11, 2, 3, 12, 13, 14, 15, 16, 17, 18, 19, 20, 21, 22, 23] (by decide +kernel) (by decide +kernel)
set_option maxRecDepth 20000 in
theorem gX4_init_X0_init : GoodIn wsX4_init (wsX0_init) := ggX4_init_X0_init
theorem dX4_init_0 : decode cX4_init 0 = .ok (.aload_n 0, 1) := by decide +kernel
theorem dX4_init_1 : decode cX4_init 1 = .ok (.invokespecial 3, 3) := by decide +kernel
theorem dX4_init_4 : decode cX4_init 4 = .ok (.aload_n 0, 1) := by decide +kernel
theorem dX4_init_5 : decode cX4_init 5 = .ok (.new 9, 3) := by decide +kernel
theorem dX4_init_8 : decode cX4_init 8 = .ok (.dup, 1) := by decide +kernel
theorem dX4_init_9 : decode cX4_init 9 = .ok (.invokespecial 11, 3) := by decide +kernel
theorem dX4_init_12 : decode cX4_init 12 = .ok (.putfield 12, 3) := by decide +kernel
theorem dX4_init_15 : decode cX4_init 15 = .ok (.return_, 1) := by decide +kernel
theorem dX4_chosenPlayer_0 : decode cX4_chosenPlayer 0 = .ok (.aload_n 0, 1) := by decide +kernel
theorem dX4_chosenPlayer_1 : decode cX4_chosenPlayer 1 = .ok (.getfield 18, 3) := by decide +kernel
theorem dX4_chosenPlayer_4 : decode cX4_chosenPlayer 4 = .ok (.ireturn, 1) := by decide +kernel
theorem dX4_chosenLine_0 : decode cX4_chosenLine 0 = .ok (.aload_n 0, 1) := by decide +kernel
theorem dX4_chosenLine_1 : decode cX4_chosenLine 1 = .ok (.getfield 22, 3) := by decide +kernel
theorem dX4_chosenLine_4 : decode cX4_chosenLine 4 = .ok (.ireturn, 1) := by decide +kernel
theorem dX4_chosenDirection_0 : decode cX4_chosenDirection 0 = .ok (.aload_n 0, 1) := by decide +kernel
theorem dX4_chosenDirection_1 : decode cX4_chosenDirection 1 = .ok (.getfield 25, 3) := by decide +kernel
theorem dX4_chosenDirection_4 : decode cX4_chosenDirection 4 = .ok (.ireturn, 1) := by decide +kernel
set_option maxRecDepth 20000 in
theorem ggX4_finishTurn_X2_isRunning : GoodIn wsX4_finishTurn wsX2_isRunning := goodIn_r _ [8, 9, 10, 171, 172, 173, 174, 175, 176, 177, 178] (by decide +kernel) (by decide +kernel)
set_option maxRecDepth 20000 in
theorem gX4_finishTurn_X2_isRunning : GoodIn wsX4_finishTurn (wsV RX4 28 RX2 yX2_isRunning wsX2_isRunning) := goodIn_app (goodIn_of _ (by decide +kernel)) ggX4_finishTurn_X2_isRunning
set_option maxRecDepth 20000 in
theorem ggX4_finishTurn_X4_chooseShift : GoodIn wsX4_finishTurn wsX4_chooseShift := goodIn_r _ [15, 1, 2, 3, 16, 17, 18, 19, 7, 20, 9, 21, 22, 23, 14, 24, 25, 26, 27, 28, 29, 30, 31, 32, 5, 6, 8, 10, 33, 34, 35, 36, 37, 38, 39, 40, 41, 42, 43, 44, 45, 46, 47, 48, 49, 50, 51, 52, 53, 54, 55, 56, 57, 58, 59, 60, 61, 62, 63, 64, 65, 66, 67, 68, 69, 70, 71, 72, 73, 74, 75, 76, 77, 78, 79, 80, 81, 82, 83, 84, 85, 86, 87, 88, 89, 90, 91, 92, 93, 94, 95, 96, 97, 98, 99, 100, 101, 102, 103, 104, 105, 106, 107, 108, 109, 110, 111, 112, 113, 114, 115, 116, 117, 118, 119, 120, 121, 166, 167, 168, 169, 170, 171, 172, 173, 174, 175, 176, 177, 178, 179, 180, 181, 182, 183, 184, 185, 186] (by decide +kernel) (by decide +kernel)
set_option maxRecDepth 20000 in
theorem gX4_finishTurn_X4_chooseShift : GoodIn wsX4_finishTurn (wsV RX4 34 RX4 yX4_chooseShift wsX4_chooseShift) := goodIn_app (goodIn_of _ (by decide +kernel)) ggX4_finishTurn_X4_chooseShift
set_option maxRecDepth 20000 in
theorem ggX4_finishTurn_X2_shiftLine : GoodIn wsX4_finishTurn wsX2_shiftLine := goodIn_r _ [125, 30, 42, 43, 44, 7, 45, 46, 126, 70, 71, 50, 72, 60, 65, 53, 54, 37, 38, 39, 73, 74, 75, 76, 77, 78, 79, 67, 171, 172, 173, 174, 175, 176, 177, 178, 179, 180, 181, 182, 183, 184, 185, 186] (by decide +kernel) (by decide +kernel)
set_option maxRecDepth 20000 in
theorem gX4_finishTurn_X2_shiftLine : GoodIn wsX4_finishTurn (wsV RX4 38 RX2 yX2_shiftLine wsX2_shiftLine) := goodIn_app (goodIn_of _ (by decide +kernel)) ggX4_finishTurn_X2_shiftLine
set_option maxRecDepth 20000 in
theorem ggX4_finishTurn_X4_chooseTile : GoodIn wsX4_finishTurn wsX4_chooseTile := goodIn_r _ [130, 131, 132, 133, 134, 135, 136, 137, 7, 138, 10, 31, 55, 43, 44, 45, 46, 102, 103, 104, 50, 105, 65, 106, 107, 108, 109, 68, 66, 80, 81, 82, 83, 84, 85, 38, 86, 87, 88, 89, 90, 67, 91, 92, 93, 94, 60, 95, 96, 97, 98, 99, 100, 101, 139, 140, 141, 142, 110, 111, 112, 113, 114, 171, 172, 173, 174, 175, 176, 177, 178, 179, 180, 181, 182, 183, 184, 185, 186] (by decide +kernel) (by decide +kernel)
set_option maxRecDepth 20000 in
theorem gX4_finishTurn_X4_chooseTile : GoodIn wsX4_finishTurn (wsV RX4 42 RX4 yX4_chooseTile wsX4_chooseTile) := goodIn_app (goodIn_of _ (by decide +kernel)) ggX4_finishTurn_X4_chooseTile
set_option maxRecDepth 20000 in
theorem ggX4_finishTurn_X2_goTo : GoodIn wsX4_finishTurn wsX2_goTo := goodIn_r _ [146, 31, 42, 43, 44, 7, 45, 46, 147, 148, 149, 50, 150, 67, 65, 68, 113, 38, 114, 106, 107, 108, 109, 66, 151, 152, 153, 154, 30, 155, 10, 156, 9, 157, 158, 159, 160, 161, 81, 82, 83, 84, 85, 86, 162, 163, 164, 165, 52, 171, 172, 173, 174, 175, 176, 177, 178, 179, 180, 181, 182, 183, 184, 185, 186] (by decide +kernel) (by decide +kernel)
set_option maxRecDepth 20000 in
theorem gX4_finishTurn_X2_goTo : GoodIn wsX4_finishTurn (wsV RX4 46 RX2 yX2_goTo wsX2_goTo) := goodIn_app (goodIn_of _ (by decide +kernel)) ggX4_finishTurn_X2_goTo
theorem dX4_finishTurn_0 : decode cX4_finishTurn 0 = .ok (.aload_n 1, 1) := by decide +kernel
theorem dX4_finishTurn_1 : decode cX4_finishTurn 1 = .ok (.invokevirtual 28, 3) := by decide +kernel
theorem dX4_finishTurn_4 : decode cX4_finishTurn 4 = .ok (.ifCond .ne 5, 3) := by decide +kernel
theorem dX4_finishTurn_7 : decode cX4_finishTurn 7 = .ok (.iconst (-1), 1) := by decide +kernel
theorem dX4_finishTurn_8 : decode cX4_finishTurn 8 = .ok (.ireturn, 1) := by decide +kernel
theorem dX4_finishTurn_9 : decode cX4_finishTurn 9 = .ok (.aload_n 0, 1) := by decide +kernel
theorem dX4_finishTurn_10 : decode cX4_finishTurn 10 = .ok (.aload_n 1, 1) := by decide +kernel
theorem dX4_finishTurn_11 : decode cX4_finishTurn 11 = .ok (.invokevirtual 34, 3) := by decide +kernel
theorem dX4_finishTurn_14 : decode cX4_finishTurn 14 = .ok (.ifCond .eq 19, 3) := by decide +kernel
theorem dX4_finishTurn_17 : decode cX4_finishTurn 17 = .ok (.aload_n 1, 1) := by decide +kernel
theorem dX4_finishTurn_18 : decode cX4_finishTurn 18 = .ok (.aload_n 0, 1) := by decide +kernel
theorem dX4_finishTurn_19 : decode cX4_finishTurn 19 = .ok (.getfield 18, 3) := by decide +kernel
theorem dX4_finishTurn_22 : decode cX4_finishTurn 22 = .ok (.aload_n 0, 1) := by decide +kernel
theorem dX4_finishTurn_23 : decode cX4_finishTurn 23 = .ok (.getfield 22, 3) := by decide +kernel
theorem dX4_finishTurn_26 : decode cX4_finishTurn 26 = .ok (.aload_n 0, 1) := by decide +kernel
theorem dX4_finishTurn_27 : decode cX4_finishTurn 27 = .ok (.getfield 25, 3) := by decide +kernel
theorem dX4_finishTurn_30 : decode cX4_finishTurn 30 = .ok (.invokevirtual 38, 3) := by decide +kernel
theorem dX4_finishTurn_33 : decode cX4_finishTurn 33 = .ok (.aload_n 1, 1) := by decide +kernel
theorem dX4_finishTurn_34 : decode cX4_finishTurn 34 = .ok (.aload_n 0, 1) := by decide +kernel
theorem dX4_finishTurn_35 : decode cX4_finishTurn 35 = .ok (.aload_n 1, 1) := by decide +kernel
theorem dX4_finishTurn_36 : decode cX4_finishTurn 36 = .ok (.invokevirtual 42, 3) := by decide +kernel
theorem dX4_finishTurn_39 : decode cX4_finishTurn 39 = .ok (.invokevirtual 46, 3) := by decide +kernel
theorem dX4_finishTurn_42 : decode cX4_finishTurn 42 = .ok (.ireturn, 1) := by decide +kernel
set_option maxRecDepth 20000 in
theorem ggX4_chooseShift_X2_players : GoodIn wsX4_chooseShift wsX2_players := goodIn_r _ [9, 10, 122, 123, 124, 125, 126, 127, 128, 129] (by decide +kernel) (by decide +kernel)
set_option maxRecDepth 20000 in
theorem gX4_chooseShift_X2_players : GoodIn wsX4_chooseShift (wsV RX4 53 RX2 yX2_players wsX2_players) := goodIn_app (goodIn_of _ (by decide +kernel)) ggX4_chooseShift_X2_players
set_option maxRecDepth 20000 in
theorem ggX4_chooseShift_X4_consider : GoodIn wsX4_chooseShift wsX4_consider := goodIn_r _ [15, 16, 4, 1, 2, 3, 17, 18, 19, 8, 20, 21, 22, 23, 24, 25, 26, 10, 27, 28, 29, 30, 31, 32, 33, 34, 35, 36, 37, 38, 39, 40, 41, 42, 43, 44, 45, 46, 47, 48, 49, 50, 51, 52, 53, 54, 55, 56, 57, 58, 59, 60, 61, 62, 63, 64, 65, 66, 67, 68, 69, 70, 71, 72, 73, 74, 75, 76, 77, 78, 79, 80, 81, 82, 83, 84, 85, 86, 87, 88, 89, 90, 91, 92, 93, 94, 95, 96, 97, 98, 99, 100, 101, 102, 103, 104, 105, 106, 107, 108, 109, 110, 111, 112, 113, 114, 115, 116, 117, 118, 119, 120, 121, 122, 123, 124, 125, 126, 127, 128, 129, 130, 131, 132, 133, 134, 135, 136, 137] (by decide +kernel) (by decide +kernel)
set_option maxRecDepth 20000 in
theorem gX4_chooseShift_X4_consider : GoodIn wsX4_chooseShift (wsV RX4 57 RX4 yX4_consider wsX4_consider) := goodIn_app (goodIn_of _ (by decide +kernel)) ggX4_chooseShift_X4_consider
theorem dX4_chooseShift_0 : decode cX4_chooseShift 0 = .ok (.aload_n 0, 1) := by decide +kernel
theorem dX4_chooseShift_1 : decode cX4_chooseShift 1 = .ok (.iconst (-1), 1) := by decide +kernel
theorem dX4_chooseShift_2 : decode cX4_chooseShift 2 = .ok (.putfield 18, 3) := by decide +kernel
theorem dX4_chooseShift_5 : decode cX4_chooseShift 5 = .ok (.aload_n 0, 1) := by decide +kernel
theorem dX4_chooseShift_6 : decode cX4_chooseShift 6 = .ok (.iconst (-1), 1) := by decide +kernel
theorem dX4_chooseShift_7 : decode cX4_chooseShift 7 = .ok (.putfield 22, 3) := by decide +kernel
theorem dX4_chooseShift_10 : decode cX4_chooseShift 10 = .ok (.aload_n 0, 1) := by decide +kernel
theorem dX4_chooseShift_11 : decode cX4_chooseShift 11 = .ok (.iconst (-1), 1) := by decide +kernel
theorem dX4_chooseShift_12 : decode cX4_chooseShift 12 = .ok (.putfield 25, 3) := by decide +kernel
theorem dX4_chooseShift_15 : decode cX4_chooseShift 15 = .ok (.aload_n 0, 1) := by decide +kernel
theorem dX4_chooseShift_16 : decode cX4_chooseShift 16 = .ok (.bipush 100, 2) := by decide +kernel
theorem dX4_chooseShift_18 : decode cX4_chooseShift 18 = .ok (.putfield 50, 3) := by decide +kernel
theorem dX4_chooseShift_21 : decode cX4_chooseShift 21 = .ok (.iconst 0, 1) := by decide +kernel
theorem dX4_chooseShift_22 : decode cX4_chooseShift 22 = .ok (.istore_n 2, 1) := by decide +kernel
theorem dX4_chooseShift_23 : decode cX4_chooseShift 23 = .ok (.iload_n 2, 1) := by decide +kernel
theorem dX4_chooseShift_24 : decode cX4_chooseShift 24 = .ok (.aload_n 1, 1) := by decide +kernel
theorem dX4_chooseShift_25 : decode cX4_chooseShift 25 = .ok (.invokevirtual 53, 3) := by decide +kernel
theorem dX4_chooseShift_28 : decode cX4_chooseShift 28 = .ok (.if_icmp .ge 39, 3) := by decide +kernel
theorem dX4_chooseShift_31 : decode cX4_chooseShift 31 = .ok (.iconst 0, 1) := by decide +kernel
theorem dX4_chooseShift_32 : decode cX4_chooseShift 32 = .ok (.istore_n 3, 1) := by decide +kernel
theorem dX4_chooseShift_33 : decode cX4_chooseShift 33 = .ok (.iload_n 3, 1) := by decide +kernel
theorem dX4_chooseShift_34 : decode cX4_chooseShift 34 = .ok (.bipush 6, 2) := by decide +kernel
theorem dX4_chooseShift_36 : decode cX4_chooseShift 36 = .ok (.if_icmp .ge 25, 3) := by decide +kernel
theorem dX4_chooseShift_39 : decode cX4_chooseShift 39 = .ok (.aload_n 0, 1) := by decide +kernel
theorem dX4_chooseShift_40 : decode cX4_chooseShift 40 = .ok (.aload_n 1, 1) := by decide +kernel
theorem dX4_chooseShift_41 : decode cX4_chooseShift 41 = .ok (.iload_n 2, 1) := by decide +kernel
theorem dX4_chooseShift_42 : decode cX4_chooseShift 42 = .ok (.iload_n 3, 1) := by decide +kernel
theorem dX4_chooseShift_43 : decode cX4_chooseShift 43 = .ok (.iconst 0, 1) := by decide +kernel
theorem dX4_chooseShift_44 : decode cX4_chooseShift 44 = .ok (.invokevirtual 57, 3) := by decide +kernel
theorem dX4_chooseShift_47 : decode cX4_chooseShift 47 = .ok (.aload_n 0, 1) := by decide +kernel
theorem dX4_chooseShift_48 : decode cX4_chooseShift 48 = .ok (.aload_n 1, 1) := by decide +kernel
theorem dX4_chooseShift_49 : decode cX4_chooseShift 49 = .ok (.iload_n 2, 1) := by decide +kernel
theorem dX4_chooseShift_50 : decode cX4_chooseShift 50 = .ok (.iload_n 3, 1) := by decide +kernel
theorem dX4_chooseShift_51 : decode cX4_chooseShift 51 = .ok (.iconst 1, 1) := by decide +kernel
theorem dX4_chooseShift_52 : decode cX4_chooseShift 52 = .ok (.invokevirtual 57, 3) := by decide +kernel
theorem dX4_chooseShift_55 : decode cX4_chooseShift 55 = .ok (.iinc 3 1, 3) := by decide +kernel
theorem dX4_chooseShift_58 : decode cX4_chooseShift 58 = .ok (.goto (-25), 3) := by decide +kernel
theorem dX4_chooseShift_61 : decode cX4_chooseShift 61 = .ok (.iinc 2 1, 3) := by decide +kernel
theorem dX4_chooseShift_64 : decode cX4_chooseShift 64 = .ok (.goto (-41), 3) := by decide +kernel
theorem dX4_chooseShift_67 : decode cX4_chooseShift 67 = .ok (.aload_n 0, 1) := by decide +kernel
theorem dX4_chooseShift_68 : decode cX4_chooseShift 68 = .ok (.getfield 18, 3) := by decide +kernel
theorem dX4_chooseShift_71 : decode cX4_chooseShift 71 = .ok (.iconst (-1), 1) := by decide +kernel
theorem dX4_chooseShift_72 : decode cX4_chooseShift 72 = .ok (.if_icmp .eq 7, 3) := by decide +kernel
theorem dX4_chooseShift_75 : decode cX4_chooseShift 75 = .ok (.iconst 1, 1) := by decide +kernel
theorem dX4_chooseShift_76 : decode cX4_chooseShift 76 = .ok (.goto 4, 3) := by decide +kernel
theorem dX4_chooseShift_79 : decode cX4_chooseShift 79 = .ok (.iconst 0, 1) := by decide +kernel
theorem dX4_chooseShift_80 : decode cX4_chooseShift 80 = .ok (.ireturn, 1) := by decide +kernel
set_option maxRecDepth 20000 in
theorem ggX4_consider_X2_mayShift : GoodIn wsX4_consider wsX2_mayShift := goodIn_r _ [10, 11, 12, 13, 14, 15, 9, 16, 17, 18, 19, 20, 21, 22, 23, 24, 25, 26, 27, 28, 29, 30, 31, 32, 33, 34, 35, 36, 37, 38, 39, 40, 113, 114, 115, 116, 117, 118, 119, 120, 121, 122, 123, 124, 125, 126, 127, 128] (by decide +kernel) (by decide +kernel)
set_option maxRecDepth 20000 in
theorem gX4_consider_X2_mayShift : GoodIn wsX4_consider (wsV RX4 61 RX2 yX2_mayShift wsX2_mayShift) := goodIn_app (goodIn_of _ (by decide +kernel)) ggX4_consider_X2_mayShift
set_option maxRecDepth 20000 in
theorem ggX4_consider_X2_boardOf : GoodIn wsX4_consider wsX2_boardOf := goodIn_r _ [31, 32, 113, 114, 115, 116, 117, 118, 119, 120] (by decide +kernel) (by decide +kernel)
set_option maxRecDepth 20000 in
theorem gX4_consider_X2_boardOf : GoodIn wsX4_consider (wsV RX4 65 RX2 yX2_boardOf wsX2_boardOf) := goodIn_app (goodIn_of _ (by decide +kernel)) ggX4_consider_X2_boardOf
set_option maxRecDepth 20000 in
theorem ggX4_consider_X0_copyFrom : GoodIn wsX4_consider wsX0_copyFrom := goodIn_r _ [45, 46, 47, 48, 49, 50, 51, 52, 53, 54, 38, 39, 40, 121, 122, 123, 124, 125, 126, 127, 128] (by decide +kernel) (by decide +kernel)
set_option maxRecDepth 20000 in
theorem gX4_consider_X0_copyFrom : GoodIn wsX4_consider (wsV RX4 69 RX0 yX0_copyFrom wsX0_copyFrom) := goodIn_app (goodIn_of _ (by decide +kernel)) ggX4_consider_X0_copyFrom
set_option maxRecDepth 20000 in
theorem ggX4_consider_X0_moveLine : GoodIn wsX4_consider wsX0_moveLine := goodIn_r _ [58, 46, 51, 39, 40, 23, 24, 25, 59, 60, 36, 61, 62, 63, 64, 65, 53, 121, 122, 123, 124, 125, 126, 127, 128] (by decide +kernel) (by decide +kernel)
set_option maxRecDepth 20000 in
theorem gX4_consider_X0_moveLine : GoodIn wsX4_consider (wsV RX4 73 RX0 yX0_moveLine wsX0_moveLine) := goodIn_app (goodIn_of _ (by decide +kernel)) ggX4_consider_X0_moveLine
set_option maxRecDepth 20000 in
theorem ggX4_consider_X2_settingOf : GoodIn wsX4_consider wsX2_settingOf := goodIn_r _ [69, 70, 71, 24, 72, 113, 114, 115, 116, 117, 118, 119, 120] (by decide +kernel) (by decide +kernel)
set_option maxRecDepth 20000 in
theorem gX4_consider_X2_settingOf : GoodIn wsX4_consider (wsV RX4 77 RX2 yX2_settingOf wsX2_settingOf) := goodIn_app (goodIn_of _ (by decide +kernel)) ggX4_consider_X2_settingOf
set_option maxRecDepth 20000 in
theorem ggX4_consider_X0_reach : GoodIn wsX4_consider wsX0_reach := goodIn_r _ [76, 53, 77, 78, 79, 36, 80, 46, 81, 82, 83, 84, 85, 86, 87, 121, 122, 123, 124, 125, 126, 127, 128] (by decide +kernel) (by decide +kernel)
set_option maxRecDepth 20000 in
theorem gX4_consider_X0_reach : GoodIn wsX4_consider (wsV RX4 80 RX0 yX0_reach wsX0_reach) := goodIn_app (goodIn_of _ (by decide +kernel)) ggX4_consider_X0_reach
set_option maxRecDepth 20000 in
theorem ggX4_consider_X0_soughtPlace : GoodIn wsX4_consider wsX0_soughtPlace := goodIn_r _ [91, 51, 92, 93, 94, 36, 95, 54, 52, 121, 122, 123, 124, 125, 126, 127, 128] (by decide +kernel) (by decide +kernel)
set_option maxRecDepth 20000 in
theorem gX4_consider_X0_soughtPlace : GoodIn wsX4_consider (wsV RX4 83 RX0 yX0_soughtPlace wsX0_soughtPlace) := goodIn_app (goodIn_of _ (by decide +kernel)) ggX4_consider_X0_soughtPlace
set_option maxRecDepth 20000 in
theorem ggX4_consider_X6_isIn : GoodIn wsX4_consider wsX6_isIn := goodIn_r _ [97, 98, 99, 24, 100] (by decide +kernel) (by decide +kernel)
set_option maxRecDepth 20000 in
theorem gX4_consider_X6_isIn_n86 : GoodIn wsX4_consider (wsX6_isIn) := ggX4_consider_X6_isIn
set_option maxRecDepth 20000 in
theorem ggX4_consider_J6_bitCount_0f7a4 : GoodIn wsX4_consider wsJ6_bitCount_0f7a4 := goodIn_r _ [104, 105, 106, 107] (by decide +kernel) (by decide +kernel)
set_option maxRecDepth 20000 in
theorem gX4_consider_J6_bitCount_0f7a4 : GoodIn wsX4_consider (va_wsS RX4 90 yJ6_bitCount_0f7a4 wsJ6_bitCount_0f7a4) := goodIn_app (goodIn_of _ (by decide +kernel)) ggX4_consider_J6_bitCount_0f7a4
theorem dX4_consider_0 : decode cX4_consider 0 = .ok (.aload_n 1, 1) := by decide +kernel
theorem dX4_consider_1 : decode cX4_consider 1 = .ok (.iload_n 2, 1) := by decide +kernel
theorem dX4_consider_2 : decode cX4_consider 2 = .ok (.iload_n 3, 1) := by decide +kernel
theorem dX4_consider_3 : decode cX4_consider 3 = .ok (.iload 4, 2) := by decide +kernel
theorem dX4_consider_5 : decode cX4_consider 5 = .ok (.invokevirtual 61, 3) := by decide +kernel
theorem dX4_consider_8 : decode cX4_consider 8 = .ok (.ifCond .ne 4, 3) := by decide +kernel
theorem dX4_consider_11 : decode cX4_consider 11 = .ok (.return_, 1) := by decide +kernel
theorem dX4_consider_12 : decode cX4_consider 12 = .ok (.aload_n 0, 1) := by decide +kernel
theorem dX4_consider_13 : decode cX4_consider 13 = .ok (.getfield 12, 3) := by decide +kernel
theorem dX4_consider_16 : decode cX4_consider 16 = .ok (.aload_n 1, 1) := by decide +kernel
theorem dX4_consider_17 : decode cX4_consider 17 = .ok (.iload_n 2, 1) := by decide +kernel
theorem dX4_consider_18 : decode cX4_consider 18 = .ok (.invokevirtual 65, 3) := by decide +kernel
theorem dX4_consider_21 : decode cX4_consider 21 = .ok (.invokevirtual 69, 3) := by decide +kernel
theorem dX4_consider_24 : decode cX4_consider 24 = .ok (.aload_n 0, 1) := by decide +kernel
theorem dX4_consider_25 : decode cX4_consider 25 = .ok (.getfield 12, 3) := by decide +kernel
theorem dX4_consider_28 : decode cX4_consider 28 = .ok (.iload_n 3, 1) := by decide +kernel
theorem dX4_consider_29 : decode cX4_consider 29 = .ok (.iload 4, 2) := by decide +kernel
theorem dX4_consider_31 : decode cX4_consider 31 = .ok (.invokevirtual 73, 3) := by decide +kernel
theorem dX4_consider_34 : decode cX4_consider 34 = .ok (.aload_n 0, 1) := by decide +kernel
theorem dX4_consider_35 : decode cX4_consider 35 = .ok (.getfield 12, 3) := by decide +kernel
theorem dX4_consider_38 : decode cX4_consider 38 = .ok (.aload_n 1, 1) := by decide +kernel
theorem dX4_consider_39 : decode cX4_consider 39 = .ok (.iconst 0, 1) := by decide +kernel
theorem dX4_consider_40 : decode cX4_consider 40 = .ok (.invokevirtual 77, 3) := by decide +kernel
theorem dX4_consider_43 : decode cX4_consider 43 = .ok (.invokevirtual 80, 3) := by decide +kernel
theorem dX4_consider_46 : decode cX4_consider 46 = .ok (.istore 5, 2) := by decide +kernel
theorem dX4_consider_48 : decode cX4_consider 48 = .ok (.iload 5, 2) := by decide +kernel
theorem dX4_consider_50 : decode cX4_consider 50 = .ok (.aload_n 0, 1) := by decide +kernel
theorem dX4_consider_51 : decode cX4_consider 51 = .ok (.getfield 12, 3) := by decide +kernel
theorem dX4_consider_54 : decode cX4_consider 54 = .ok (.invokevirtual 83, 3) := by decide +kernel
theorem dX4_consider_57 : decode cX4_consider 57 = .ok (.invokestatic 86, 3) := by decide +kernel
theorem dX4_consider_60 : decode cX4_consider 60 = .ok (.ifCond .eq 8, 3) := by decide +kernel
theorem dX4_consider_63 : decode cX4_consider 63 = .ok (.bipush 10, 2) := by decide +kernel
theorem dX4_consider_65 : decode cX4_consider 65 = .ok (.goto 4, 3) := by decide +kernel
theorem dX4_consider_68 : decode cX4_consider 68 = .ok (.iconst 0, 1) := by decide +kernel
theorem dX4_consider_69 : decode cX4_consider 69 = .ok (.istore 6, 2) := by decide +kernel
theorem dX4_consider_71 : decode cX4_consider 71 = .ok (.iload 6, 2) := by decide +kernel
theorem dX4_consider_73 : decode cX4_consider 73 = .ok (.iload 5, 2) := by decide +kernel
theorem dX4_consider_75 : decode cX4_consider 75 = .ok (.invokestatic 90, 3) := by decide +kernel
theorem dX4_consider_78 : decode cX4_consider 78 = .ok (.iadd, 1) := by decide +kernel
theorem dX4_consider_79 : decode cX4_consider 79 = .ok (.istore 7, 2) := by decide +kernel
theorem dX4_consider_81 : decode cX4_consider 81 = .ok (.iload 7, 2) := by decide +kernel
theorem dX4_consider_83 : decode cX4_consider 83 = .ok (.aload_n 0, 1) := by decide +kernel
theorem dX4_consider_84 : decode cX4_consider 84 = .ok (.getfield 50, 3) := by decide +kernel
theorem dX4_consider_87 : decode cX4_consider 87 = .ok (.if_icmp .ge 25, 3) := by decide +kernel
theorem dX4_consider_90 : decode cX4_consider 90 = .ok (.aload_n 0, 1) := by decide +kernel
theorem dX4_consider_91 : decode cX4_consider 91 = .ok (.iload 7, 2) := by decide +kernel
theorem dX4_consider_93 : decode cX4_consider 93 = .ok (.putfield 50, 3) := by decide +kernel
theorem dX4_consider_96 : decode cX4_consider 96 = .ok (.aload_n 0, 1) := by decide +kernel
theorem dX4_consider_97 : decode cX4_consider 97 = .ok (.iload_n 2, 1) := by decide +kernel
theorem dX4_consider_98 : decode cX4_consider 98 = .ok (.putfield 18, 3) := by decide +kernel
theorem dX4_consider_101 : decode cX4_consider 101 = .ok (.aload_n 0, 1) := by decide +kernel
theorem dX4_consider_102 : decode cX4_consider 102 = .ok (.iload_n 3, 1) := by decide +kernel
theorem dX4_consider_103 : decode cX4_consider 103 = .ok (.putfield 22, 3) := by decide +kernel
theorem dX4_consider_106 : decode cX4_consider 106 = .ok (.aload_n 0, 1) := by decide +kernel
theorem dX4_consider_107 : decode cX4_consider 107 = .ok (.iload 4, 2) := by decide +kernel
theorem dX4_consider_109 : decode cX4_consider 109 = .ok (.putfield 25, 3) := by decide +kernel
theorem dX4_consider_112 : decode cX4_consider 112 = .ok (.return_, 1) := by decide +kernel
set_option maxRecDepth 20000 in
theorem ggX4_chooseTile_X2_whoseTurn : GoodIn wsX4_chooseTile wsX2_whoseTurn := goodIn_r _ [9, 10, 11, 63, 64, 65, 66, 67, 68, 69, 70] (by decide +kernel) (by decide +kernel)
set_option maxRecDepth 20000 in
theorem gX4_chooseTile_X2_whoseTurn : GoodIn wsX4_chooseTile (wsV RX4 95 RX2 yX2_whoseTurn wsX2_whoseTurn) := goodIn_app (goodIn_of _ (by decide +kernel)) ggX4_chooseTile_X2_whoseTurn
set_option maxRecDepth 20000 in
theorem ggX4_chooseTile_X2_boardOf : GoodIn wsX4_chooseTile wsX2_boardOf := goodIn_r _ [15, 16, 63, 64, 65, 66, 67, 68, 69, 70] (by decide +kernel) (by decide +kernel)
set_option maxRecDepth 20000 in
theorem gX4_chooseTile_X2_boardOf : GoodIn wsX4_chooseTile (wsV RX4 65 RX2 yX2_boardOf wsX2_boardOf) := goodIn_app (goodIn_of _ (by decide +kernel)) ggX4_chooseTile_X2_boardOf
set_option maxRecDepth 20000 in
theorem ggX4_chooseTile_X0_soughtPlace : GoodIn wsX4_chooseTile wsX0_soughtPlace := goodIn_r _ [21, 22, 23, 24, 25, 20, 26, 27, 28, 71, 72, 73, 74, 75, 76, 77, 78] (by decide +kernel) (by decide +kernel)
set_option maxRecDepth 20000 in
theorem gX4_chooseTile_X0_soughtPlace : GoodIn wsX4_chooseTile (wsV RX4 83 RX0 yX0_soughtPlace wsX0_soughtPlace) := goodIn_app (goodIn_of _ (by decide +kernel)) ggX4_chooseTile_X0_soughtPlace
set_option maxRecDepth 20000 in
theorem ggX4_chooseTile_X2_settingOf : GoodIn wsX4_chooseTile wsX2_settingOf := goodIn_r _ [32, 33, 34, 35, 36, 63, 64, 65, 66, 67, 68, 69, 70] (by decide +kernel) (by decide +kernel)
set_option maxRecDepth 20000 in
theorem gX4_chooseTile_X2_settingOf : GoodIn wsX4_chooseTile (wsV RX4 77 RX2 yX2_settingOf wsX2_settingOf) := goodIn_app (goodIn_of _ (by decide +kernel)) ggX4_chooseTile_X2_settingOf
set_option maxRecDepth 20000 in
theorem ggX4_chooseTile_X0_reach : GoodIn wsX4_chooseTile wsX0_reach := goodIn_r _ [40, 41, 42, 43, 44, 20, 45, 46, 47, 48, 49, 50, 51, 52, 53, 71, 72, 73, 74, 75, 76, 77, 78] (by decide +kernel) (by decide +kernel)
set_option maxRecDepth 20000 in
theorem gX4_chooseTile_X0_reach : GoodIn wsX4_chooseTile (wsV RX4 80 RX0 yX0_reach wsX0_reach) := goodIn_app (goodIn_of _ (by decide +kernel)) ggX4_chooseTile_X0_reach
set_option maxRecDepth 20000 in
theorem ggX4_chooseTile_X0_ship : GoodIn wsX4_chooseTile wsX0_ship := goodIn_r _ [57, 41, 71, 72, 73, 74, 75, 76, 77, 78] (by decide +kernel) (by decide +kernel)
set_option maxRecDepth 20000 in
theorem gX4_chooseTile_X0_ship : GoodIn wsX4_chooseTile (wsV RX4 98 RX0 yX0_ship wsX0_ship) := goodIn_app (goodIn_of _ (by decide +kernel)) ggX4_chooseTile_X0_ship
set_option maxRecDepth 20000 in
theorem ggX4_chooseTile_X6_isIn : GoodIn wsX4_chooseTile wsX6_isIn := goodIn_r _ [59, 60, 61, 35, 62] (by decide +kernel) (by decide +kernel)
set_option maxRecDepth 20000 in
theorem gX4_chooseTile_X6_isIn_n86 : GoodIn wsX4_chooseTile (wsX6_isIn) := ggX4_chooseTile_X6_isIn
theorem dX4_chooseTile_0 : decode cX4_chooseTile 0 = .ok (.aload_n 1, 1) := by decide +kernel
theorem dX4_chooseTile_1 : decode cX4_chooseTile 1 = .ok (.aload_n 1, 1) := by decide +kernel
theorem dX4_chooseTile_2 : decode cX4_chooseTile 2 = .ok (.invokevirtual 95, 3) := by decide +kernel
theorem dX4_chooseTile_5 : decode cX4_chooseTile 5 = .ok (.invokevirtual 65, 3) := by decide +kernel
theorem dX4_chooseTile_8 : decode cX4_chooseTile 8 = .ok (.astore_n 2, 1) := by decide +kernel
theorem dX4_chooseTile_9 : decode cX4_chooseTile 9 = .ok (.aload_n 2, 1) := by decide +kernel
theorem dX4_chooseTile_10 : decode cX4_chooseTile 10 = .ok (.invokevirtual 83, 3) := by decide +kernel
theorem dX4_chooseTile_13 : decode cX4_chooseTile 13 = .ok (.istore_n 3, 1) := by decide +kernel
theorem dX4_chooseTile_14 : decode cX4_chooseTile 14 = .ok (.aload_n 2, 1) := by decide +kernel
theorem dX4_chooseTile_15 : decode cX4_chooseTile 15 = .ok (.aload_n 1, 1) := by decide +kernel
theorem dX4_chooseTile_16 : decode cX4_chooseTile 16 = .ok (.iconst 0, 1) := by decide +kernel
theorem dX4_chooseTile_17 : decode cX4_chooseTile 17 = .ok (.invokevirtual 77, 3) := by decide +kernel
theorem dX4_chooseTile_20 : decode cX4_chooseTile 20 = .ok (.invokevirtual 80, 3) := by decide +kernel
theorem dX4_chooseTile_23 : decode cX4_chooseTile 23 = .ok (.istore 4, 2) := by decide +kernel
theorem dX4_chooseTile_25 : decode cX4_chooseTile 25 = .ok (.aload_n 2, 1) := by decide +kernel
theorem dX4_chooseTile_26 : decode cX4_chooseTile 26 = .ok (.invokevirtual 98, 3) := by decide +kernel
theorem dX4_chooseTile_29 : decode cX4_chooseTile 29 = .ok (.istore 5, 2) := by decide +kernel
theorem dX4_chooseTile_31 : decode cX4_chooseTile 31 = .ok (.iload_n 3, 1) := by decide +kernel
theorem dX4_chooseTile_32 : decode cX4_chooseTile 32 = .ok (.iconst (-1), 1) := by decide +kernel
theorem dX4_chooseTile_33 : decode cX4_chooseTile 33 = .ok (.if_icmp .ne 7, 3) := by decide +kernel
theorem dX4_chooseTile_36 : decode cX4_chooseTile 36 = .ok (.iconst 0, 1) := by decide +kernel
theorem dX4_chooseTile_37 : decode cX4_chooseTile 37 = .ok (.goto 5, 3) := by decide +kernel
theorem dX4_chooseTile_40 : decode cX4_chooseTile 40 = .ok (.bipush 100, 2) := by decide +kernel
theorem dX4_chooseTile_42 : decode cX4_chooseTile 42 = .ok (.istore 6, 2) := by decide +kernel
theorem dX4_chooseTile_44 : decode cX4_chooseTile 44 = .ok (.iconst 0, 1) := by decide +kernel
theorem dX4_chooseTile_45 : decode cX4_chooseTile 45 = .ok (.istore 7, 2) := by decide +kernel
theorem dX4_chooseTile_47 : decode cX4_chooseTile 47 = .ok (.iload 7, 2) := by decide +kernel
theorem dX4_chooseTile_49 : decode cX4_chooseTile 49 = .ok (.bipush 9, 2) := by decide +kernel
theorem dX4_chooseTile_51 : decode cX4_chooseTile 51 = .ok (.if_icmp .ge 59, 3) := by decide +kernel
theorem dX4_chooseTile_54 : decode cX4_chooseTile 54 = .ok (.iload 7, 2) := by decide +kernel
theorem dX4_chooseTile_56 : decode cX4_chooseTile 56 = .ok (.iconst 3, 1) := by decide +kernel
theorem dX4_chooseTile_57 : decode cX4_chooseTile 57 = .ok (.idiv, 1) := by decide +kernel
theorem dX4_chooseTile_58 : decode cX4_chooseTile 58 = .ok (.iload_n 3, 1) := by decide +kernel
theorem dX4_chooseTile_59 : decode cX4_chooseTile 59 = .ok (.iconst 3, 1) := by decide +kernel
theorem dX4_chooseTile_60 : decode cX4_chooseTile 60 = .ok (.idiv, 1) := by decide +kernel
theorem dX4_chooseTile_61 : decode cX4_chooseTile 61 = .ok (.isub, 1) := by decide +kernel
theorem dX4_chooseTile_62 : decode cX4_chooseTile 62 = .ok (.invokestatic 101, 3) := by decide +kernel
theorem dX4_chooseTile_65 : decode cX4_chooseTile 65 = .ok (.iload 7, 2) := by decide +kernel
theorem dX4_chooseTile_67 : decode cX4_chooseTile 67 = .ok (.iconst 3, 1) := by decide +kernel
theorem dX4_chooseTile_68 : decode cX4_chooseTile 68 = .ok (.irem, 1) := by decide +kernel
theorem dX4_chooseTile_69 : decode cX4_chooseTile 69 = .ok (.iload_n 3, 1) := by decide +kernel
theorem dX4_chooseTile_70 : decode cX4_chooseTile 70 = .ok (.iconst 3, 1) := by decide +kernel
theorem dX4_chooseTile_71 : decode cX4_chooseTile 71 = .ok (.irem, 1) := by decide +kernel
theorem dX4_chooseTile_72 : decode cX4_chooseTile 72 = .ok (.isub, 1) := by decide +kernel
theorem dX4_chooseTile_73 : decode cX4_chooseTile 73 = .ok (.invokestatic 101, 3) := by decide +kernel
theorem dX4_chooseTile_76 : decode cX4_chooseTile 76 = .ok (.iadd, 1) := by decide +kernel
theorem dX4_chooseTile_77 : decode cX4_chooseTile 77 = .ok (.istore 8, 2) := by decide +kernel
theorem dX4_chooseTile_79 : decode cX4_chooseTile 79 = .ok (.iload 4, 2) := by decide +kernel
theorem dX4_chooseTile_81 : decode cX4_chooseTile 81 = .ok (.iload 7, 2) := by decide +kernel
theorem dX4_chooseTile_83 : decode cX4_chooseTile 83 = .ok (.invokestatic 86, 3) := by decide +kernel
theorem dX4_chooseTile_86 : decode cX4_chooseTile 86 = .ok (.ifCond .eq 18, 3) := by decide +kernel
theorem dX4_chooseTile_89 : decode cX4_chooseTile 89 = .ok (.iload 8, 2) := by decide +kernel
theorem dX4_chooseTile_91 : decode cX4_chooseTile 91 = .ok (.iload 6, 2) := by decide +kernel
theorem dX4_chooseTile_93 : decode cX4_chooseTile 93 = .ok (.if_icmp .ge 11, 3) := by decide +kernel
theorem dX4_chooseTile_96 : decode cX4_chooseTile 96 = .ok (.iload 8, 2) := by decide +kernel
theorem dX4_chooseTile_98 : decode cX4_chooseTile 98 = .ok (.istore 6, 2) := by decide +kernel
theorem dX4_chooseTile_100 : decode cX4_chooseTile 100 = .ok (.iload 7, 2) := by decide +kernel
theorem dX4_chooseTile_102 : decode cX4_chooseTile 102 = .ok (.istore 5, 2) := by decide +kernel
theorem dX4_chooseTile_104 : decode cX4_chooseTile 104 = .ok (.iinc 7 1, 3) := by decide +kernel
theorem dX4_chooseTile_107 : decode cX4_chooseTile 107 = .ok (.goto (-60), 3) := by decide +kernel
theorem dX4_chooseTile_110 : decode cX4_chooseTile 110 = .ok (.iload 5, 2) := by decide +kernel
theorem dX4_chooseTile_112 : decode cX4_chooseTile 112 = .ok (.ireturn, 1) := by decide +kernel
theorem dX5_init_0 : decode cX5_init 0 = .ok (.aload_n 0, 1) := by decide +kernel
theorem dX5_init_1 : decode cX5_init 1 = .ok (.invokespecial 3, 3) := by decide +kernel
theorem dX5_init_4 : decode cX5_init 4 = .ok (.aload_n 0, 1) := by decide +kernel
theorem dX5_init_5 : decode cX5_init 5 = .ok (.bipush 120, 2) := by decide +kernel
theorem dX5_init_7 : decode cX5_init 7 = .ok (.newarray .char, 2) := by decide +kernel
theorem dX5_init_9 : decode cX5_init 9 = .ok (.putfield 9, 3) := by decide +kernel
theorem dX5_init_12 : decode cX5_init 12 = .ok (.return_, 1) := by decide +kernel
theorem dX5_isFull_0 : decode cX5_isFull 0 = .ok (.aload_n 0, 1) := by decide +kernel
theorem dX5_isFull_1 : decode cX5_isFull 1 = .ok (.getfield 15, 3) := by decide +kernel
theorem dX5_isFull_4 : decode cX5_isFull 4 = .ok (.bipush 120, 2) := by decide +kernel
theorem dX5_isFull_6 : decode cX5_isFull 6 = .ok (.if_icmp .lt 7, 3) := by decide +kernel
theorem dX5_isFull_9 : decode cX5_isFull 9 = .ok (.iconst 1, 1) := by decide +kernel
theorem dX5_isFull_10 : decode cX5_isFull 10 = .ok (.goto 4, 3) := by decide +kernel
theorem dX5_isFull_13 : decode cX5_isFull 13 = .ok (.iconst 0, 1) := by decide +kernel
theorem dX5_isFull_14 : decode cX5_isFull 14 = .ok (.ireturn, 1) := by decide +kernel
theorem dX5_add_0 : decode cX5_add 0 = .ok (.aload_n 0, 1) := by decide +kernel
theorem dX5_add_1 : decode cX5_add 1 = .ok (.getfield 15, 3) := by decide +kernel
theorem dX5_add_4 : decode cX5_add 4 = .ok (.ifCond .lt 32, 3) := by decide +kernel
theorem dX5_add_7 : decode cX5_add 7 = .ok (.aload_n 0, 1) := by decide +kernel
theorem dX5_add_8 : decode cX5_add 8 = .ok (.getfield 15, 3) := by decide +kernel
theorem dX5_add_11 : decode cX5_add 11 = .ok (.bipush 120, 2) := by decide +kernel
theorem dX5_add_13 : decode cX5_add 13 = .ok (.if_icmp .ge 23, 3) := by decide +kernel
theorem dX5_add_16 : decode cX5_add 16 = .ok (.aload_n 0, 1) := by decide +kernel
theorem dX5_add_17 : decode cX5_add 17 = .ok (.getfield 9, 3) := by decide +kernel
theorem dX5_add_20 : decode cX5_add 20 = .ok (.aload_n 0, 1) := by decide +kernel
theorem dX5_add_21 : decode cX5_add 21 = .ok (.getfield 15, 3) := by decide +kernel
theorem dX5_add_24 : decode cX5_add 24 = .ok (.iload_n 1, 1) := by decide +kernel
theorem dX5_add_25 : decode cX5_add 25 = .ok (.castore, 1) := by decide +kernel
theorem dX5_add_26 : decode cX5_add 26 = .ok (.aload_n 0, 1) := by decide +kernel
theorem dX5_add_27 : decode cX5_add 27 = .ok (.dup, 1) := by decide +kernel
theorem dX5_add_28 : decode cX5_add 28 = .ok (.getfield 15, 3) := by decide +kernel
theorem dX5_add_31 : decode cX5_add 31 = .ok (.iconst 1, 1) := by decide +kernel
theorem dX5_add_32 : decode cX5_add 32 = .ok (.iadd, 1) := by decide +kernel
theorem dX5_add_33 : decode cX5_add 33 = .ok (.putfield 15, 3) := by decide +kernel
theorem dX5_add_36 : decode cX5_add 36 = .ok (.aload_n 0, 1) := by decide +kernel
theorem dX5_add_37 : decode cX5_add 37 = .ok (.getfield 15, 3) := by decide +kernel
theorem dX5_add_40 : decode cX5_add 40 = .ok (.ireturn, 1) := by decide +kernel
theorem dX5_empty_0 : decode cX5_empty 0 = .ok (.aload_n 0, 1) := by decide +kernel
theorem dX5_empty_1 : decode cX5_empty 1 = .ok (.getfield 15, 3) := by decide +kernel
theorem dX5_empty_4 : decode cX5_empty 4 = .ok (.istore_n 1, 1) := by decide +kernel
theorem dX5_empty_5 : decode cX5_empty 5 = .ok (.aload_n 0, 1) := by decide +kernel
theorem dX5_empty_6 : decode cX5_empty 6 = .ok (.iconst 0, 1) := by decide +kernel
theorem dX5_empty_7 : decode cX5_empty 7 = .ok (.putfield 15, 3) := by decide +kernel
theorem dX5_empty_10 : decode cX5_empty 10 = .ok (.iload_n 1, 1) := by decide +kernel
theorem dX5_empty_11 : decode cX5_empty 11 = .ok (.ireturn, 1) := by decide +kernel
theorem dX5_length_0 : decode cX5_length 0 = .ok (.aload_n 0, 1) := by decide +kernel
theorem dX5_length_1 : decode cX5_length 1 = .ok (.getfield 15, 3) := by decide +kernel
theorem dX5_length_4 : decode cX5_length 4 = .ok (.ireturn, 1) := by decide +kernel
theorem dX5_signAt_0 : decode cX5_signAt 0 = .ok (.iload_n 1, 1) := by decide +kernel
theorem dX5_signAt_1 : decode cX5_signAt 1 = .ok (.ifCond .lt 26, 3) := by decide +kernel
theorem dX5_signAt_4 : decode cX5_signAt 4 = .ok (.iload_n 1, 1) := by decide +kernel
theorem dX5_signAt_5 : decode cX5_signAt 5 = .ok (.aload_n 0, 1) := by decide +kernel
theorem dX5_signAt_6 : decode cX5_signAt 6 = .ok (.getfield 15, 3) := by decide +kernel
theorem dX5_signAt_9 : decode cX5_signAt 9 = .ok (.if_icmp .ge 18, 3) := by decide +kernel
theorem dX5_signAt_12 : decode cX5_signAt 12 = .ok (.iload_n 1, 1) := by decide +kernel
theorem dX5_signAt_13 : decode cX5_signAt 13 = .ok (.bipush 120, 2) := by decide +kernel
theorem dX5_signAt_15 : decode cX5_signAt 15 = .ok (.if_icmp .ge 12, 3) := by decide +kernel
theorem dX5_signAt_18 : decode cX5_signAt 18 = .ok (.aload_n 0, 1) := by decide +kernel
theorem dX5_signAt_19 : decode cX5_signAt 19 = .ok (.getfield 9, 3) := by decide +kernel
theorem dX5_signAt_22 : decode cX5_signAt 22 = .ok (.iload_n 1, 1) := by decide +kernel
theorem dX5_signAt_23 : decode cX5_signAt 23 = .ok (.caload, 1) := by decide +kernel
theorem dX5_signAt_24 : decode cX5_signAt 24 = .ok (.goto 4, 3) := by decide +kernel
theorem dX5_signAt_27 : decode cX5_signAt 27 = .ok (.iconst 0, 1) := by decide +kernel
theorem dX5_signAt_28 : decode cX5_signAt 28 = .ok (.ireturn, 1) := by decide +kernel
set_option maxRecDepth 20000 in
theorem ggX5_digitAt_X5_signAt : GoodIn wsX5_digitAt wsX5_signAt := goodIn_r _ [5, 6, 7, 8, 9] (by decide +kernel) (by decide +kernel)
set_option maxRecDepth 20000 in
theorem gX5_digitAt_X5_signAt : GoodIn wsX5_digitAt (wsV RX5 19 RX5 yX5_signAt wsX5_signAt) := goodIn_app (goodIn_of _ (by decide +kernel)) ggX5_digitAt_X5_signAt
theorem dX5_digitAt_0 : decode cX5_digitAt 0 = .ok (.aload_n 0, 1) := by decide +kernel
theorem dX5_digitAt_1 : decode cX5_digitAt 1 = .ok (.iload_n 1, 1) := by decide +kernel
theorem dX5_digitAt_2 : decode cX5_digitAt 2 = .ok (.invokevirtual 19, 3) := by decide +kernel
theorem dX5_digitAt_5 : decode cX5_digitAt 5 = .ok (.bipush 48, 2) := by decide +kernel
theorem dX5_digitAt_7 : decode cX5_digitAt 7 = .ok (.isub, 1) := by decide +kernel
theorem dX5_digitAt_8 : decode cX5_digitAt 8 = .ok (.ireturn, 1) := by decide +kernel
set_option maxRecDepth 20000 in
theorem ggX5_players_X5_digitAt : GoodIn wsX5_players wsX5_digitAt := goodIn_r _ [5, 6, 7, 8, 4, 9, 10, 11, 12, 13] (by decide +kernel) (by decide +kernel)
set_option maxRecDepth 20000 in
theorem gX5_players_X5_digitAt : GoodIn wsX5_players (wsV RX5 23 RX5 yX5_digitAt wsX5_digitAt) := goodIn_app (goodIn_of _ (by decide +kernel)) ggX5_players_X5_digitAt
theorem dX5_players_0 : decode cX5_players 0 = .ok (.aload_n 0, 1) := by decide +kernel
theorem dX5_players_1 : decode cX5_players 1 = .ok (.iconst 1, 1) := by decide +kernel
theorem dX5_players_2 : decode cX5_players 2 = .ok (.invokevirtual 23, 3) := by decide +kernel
theorem dX5_players_5 : decode cX5_players 5 = .ok (.ireturn, 1) := by decide +kernel
set_option maxRecDepth 20000 in
theorem ggX5_seed_X5_digitAt : GoodIn wsX5_seed wsX5_digitAt := goodIn_r _ [5, 6, 7, 8, 4, 9, 10, 11, 12, 13] (by decide +kernel) (by decide +kernel)
set_option maxRecDepth 20000 in
theorem gX5_seed_X5_digitAt : GoodIn wsX5_seed (wsV RX5 23 RX5 yX5_digitAt wsX5_digitAt) := goodIn_app (goodIn_of _ (by decide +kernel)) ggX5_seed_X5_digitAt
theorem dX5_seed_0 : decode cX5_seed 0 = .ok (.bipush 10, 2) := by decide +kernel
theorem dX5_seed_2 : decode cX5_seed 2 = .ok (.aload_n 0, 1) := by decide +kernel
theorem dX5_seed_3 : decode cX5_seed 3 = .ok (.iconst 2, 1) := by decide +kernel
theorem dX5_seed_4 : decode cX5_seed 4 = .ok (.invokevirtual 23, 3) := by decide +kernel
theorem dX5_seed_7 : decode cX5_seed 7 = .ok (.imul, 1) := by decide +kernel
theorem dX5_seed_8 : decode cX5_seed 8 = .ok (.aload_n 0, 1) := by decide +kernel
theorem dX5_seed_9 : decode cX5_seed 9 = .ok (.iconst 3, 1) := by decide +kernel
theorem dX5_seed_10 : decode cX5_seed 10 = .ok (.invokevirtual 23, 3) := by decide +kernel
theorem dX5_seed_13 : decode cX5_seed 13 = .ok (.iadd, 1) := by decide +kernel
theorem dX5_seed_14 : decode cX5_seed 14 = .ok (.ireturn, 1) := by decide +kernel
set_option maxRecDepth 20000 in
theorem ggX5_isMoveAt_X5_signAt : GoodIn wsX5_isMoveAt wsX5_signAt := goodIn_r _ [5, 6, 7, 8, 9] (by decide +kernel) (by decide +kernel)
set_option maxRecDepth 20000 in
theorem gX5_isMoveAt_X5_signAt : GoodIn wsX5_isMoveAt (wsV RX5 19 RX5 yX5_signAt wsX5_signAt) := goodIn_app (goodIn_of _ (by decide +kernel)) ggX5_isMoveAt_X5_signAt
theorem dX5_isMoveAt_0 : decode cX5_isMoveAt 0 = .ok (.aload_n 0, 1) := by decide +kernel
theorem dX5_isMoveAt_1 : decode cX5_isMoveAt 1 = .ok (.iload_n 1, 1) := by decide +kernel
theorem dX5_isMoveAt_2 : decode cX5_isMoveAt 2 = .ok (.invokevirtual 19, 3) := by decide +kernel
theorem dX5_isMoveAt_5 : decode cX5_isMoveAt 5 = .ok (.istore_n 2, 1) := by decide +kernel
theorem dX5_isMoveAt_6 : decode cX5_isMoveAt 6 = .ok (.iload_n 2, 1) := by decide +kernel
theorem dX5_isMoveAt_7 : decode cX5_isMoveAt 7 = .ok (.bipush 115, 2) := by decide +kernel
theorem dX5_isMoveAt_9 : decode cX5_isMoveAt 9 = .ok (.if_icmp .eq 15, 3) := by decide +kernel
theorem dX5_isMoveAt_12 : decode cX5_isMoveAt 12 = .ok (.iload_n 2, 1) := by decide +kernel
theorem dX5_isMoveAt_13 : decode cX5_isMoveAt 13 = .ok (.bipush 103, 2) := by decide +kernel
theorem dX5_isMoveAt_15 : decode cX5_isMoveAt 15 = .ok (.if_icmp .eq 9, 3) := by decide +kernel
theorem dX5_isMoveAt_18 : decode cX5_isMoveAt 18 = .ok (.iload_n 2, 1) := by decide +kernel
theorem dX5_isMoveAt_19 : decode cX5_isMoveAt 19 = .ok (.bipush 108, 2) := by decide +kernel
theorem dX5_isMoveAt_21 : decode cX5_isMoveAt 21 = .ok (.if_icmp .ne 7, 3) := by decide +kernel
theorem dX5_isMoveAt_24 : decode cX5_isMoveAt 24 = .ok (.iconst 1, 1) := by decide +kernel
theorem dX5_isMoveAt_25 : decode cX5_isMoveAt 25 = .ok (.goto 4, 3) := by decide +kernel
theorem dX5_isMoveAt_28 : decode cX5_isMoveAt 28 = .ok (.iconst 0, 1) := by decide +kernel
theorem dX5_isMoveAt_29 : decode cX5_isMoveAt 29 = .ok (.ireturn, 1) := by decide +kernel
set_option maxRecDepth 20000 in
theorem ggX5_wrongAt_X5_signAt : GoodIn wsX5_wrongAt wsX5_signAt := goodIn_r _ [6, 1, 7, 14, 15] (by decide +kernel) (by decide +kernel)
set_option maxRecDepth 20000 in
theorem gX5_wrongAt_X5_signAt : GoodIn wsX5_wrongAt (wsV RX5 19 RX5 yX5_signAt wsX5_signAt) := goodIn_app (goodIn_of _ (by decide +kernel)) ggX5_wrongAt_X5_signAt
set_option maxRecDepth 20000 in
theorem ggX5_wrongAt_X5_dueAfter : GoodIn wsX5_wrongAt wsX5_dueAfter := goodIn_r _ [10, 11, 12, 5, 13] (by decide +kernel) (by decide +kernel)
set_option maxRecDepth 20000 in
theorem gX5_wrongAt_X5_dueAfter : GoodIn wsX5_wrongAt (va_wsS RX5 27 yX5_dueAfter wsX5_dueAfter) := goodIn_app (goodIn_of _ (by decide +kernel)) ggX5_wrongAt_X5_dueAfter
theorem dX5_wrongAt_0 : decode cX5_wrongAt 0 = .ok (.iconst 0, 1) := by decide +kernel
theorem dX5_wrongAt_1 : decode cX5_wrongAt 1 = .ok (.istore_n 1, 1) := by decide +kernel
theorem dX5_wrongAt_2 : decode cX5_wrongAt 2 = .ok (.iconst 0, 1) := by decide +kernel
theorem dX5_wrongAt_3 : decode cX5_wrongAt 3 = .ok (.istore_n 2, 1) := by decide +kernel
theorem dX5_wrongAt_4 : decode cX5_wrongAt 4 = .ok (.iload_n 2, 1) := by decide +kernel
theorem dX5_wrongAt_5 : decode cX5_wrongAt 5 = .ok (.aload_n 0, 1) := by decide +kernel
theorem dX5_wrongAt_6 : decode cX5_wrongAt 6 = .ok (.getfield 15, 3) := by decide +kernel
theorem dX5_wrongAt_9 : decode cX5_wrongAt 9 = .ok (.if_icmp .ge 26, 3) := by decide +kernel
theorem dX5_wrongAt_12 : decode cX5_wrongAt 12 = .ok (.iload_n 1, 1) := by decide +kernel
theorem dX5_wrongAt_13 : decode cX5_wrongAt 13 = .ok (.aload_n 0, 1) := by decide +kernel
theorem dX5_wrongAt_14 : decode cX5_wrongAt 14 = .ok (.iload_n 2, 1) := by decide +kernel
theorem dX5_wrongAt_15 : decode cX5_wrongAt 15 = .ok (.invokevirtual 19, 3) := by decide +kernel
theorem dX5_wrongAt_18 : decode cX5_wrongAt 18 = .ok (.invokestatic 27, 3) := by decide +kernel
theorem dX5_wrongAt_21 : decode cX5_wrongAt 21 = .ok (.istore_n 1, 1) := by decide +kernel
theorem dX5_wrongAt_22 : decode cX5_wrongAt 22 = .ok (.iload_n 1, 1) := by decide +kernel
theorem dX5_wrongAt_23 : decode cX5_wrongAt 23 = .ok (.iconst (-1), 1) := by decide +kernel
theorem dX5_wrongAt_24 : decode cX5_wrongAt 24 = .ok (.if_icmp .ne 5, 3) := by decide +kernel
theorem dX5_wrongAt_27 : decode cX5_wrongAt 27 = .ok (.iload_n 2, 1) := by decide +kernel
theorem dX5_wrongAt_28 : decode cX5_wrongAt 28 = .ok (.ireturn, 1) := by decide +kernel
theorem dX5_wrongAt_29 : decode cX5_wrongAt 29 = .ok (.iinc 2 1, 3) := by decide +kernel
theorem dX5_wrongAt_32 : decode cX5_wrongAt 32 = .ok (.goto (-28), 3) := by decide +kernel
theorem dX5_wrongAt_35 : decode cX5_wrongAt 35 = .ok (.iload_n 1, 1) := by decide +kernel
theorem dX5_wrongAt_36 : decode cX5_wrongAt 36 = .ok (.iconst 4, 1) := by decide +kernel
theorem dX5_wrongAt_37 : decode cX5_wrongAt 37 = .ok (.if_icmp .ne 7, 3) := by decide +kernel
theorem dX5_wrongAt_40 : decode cX5_wrongAt 40 = .ok (.iconst (-1), 1) := by decide +kernel
theorem dX5_wrongAt_41 : decode cX5_wrongAt 41 = .ok (.goto 7, 3) := by decide +kernel
theorem dX5_wrongAt_44 : decode cX5_wrongAt 44 = .ok (.aload_n 0, 1) := by decide +kernel
theorem dX5_wrongAt_45 : decode cX5_wrongAt 45 = .ok (.getfield 15, 3) := by decide +kernel
theorem dX5_wrongAt_48 : decode cX5_wrongAt 48 = .ok (.ireturn, 1) := by decide +kernel
set_option maxRecDepth 20000 in
theorem ggX5_dueAfter_X5_dueAfterLetter : GoodIn wsX5_dueAfter wsX5_dueAfterLetter := goodIn_r _ [4] (by decide +kernel) (by decide +kernel)
set_option maxRecDepth 20000 in
theorem gX5_dueAfter_X5_dueAfterLetter : GoodIn wsX5_dueAfter (va_wsS RX5 31 yX5_dueAfterLetter wsX5_dueAfterLetter) := goodIn_app (goodIn_of _ (by decide +kernel)) ggX5_dueAfter_X5_dueAfterLetter
theorem dX5_dueAfter_0 : decode cX5_dueAfter 0 = .ok (.iload_n 0, 1) := by decide +kernel
theorem dX5_dueAfter_1 : decode cX5_dueAfter 1 = .ok (.tableswitch 218 0 9 #[55, 67, 85, 103, 121, 126, 145, 164, 182, 200], 55) := by decide +kernel
theorem dX5_dueAfter_56 : decode cX5_dueAfter 56 = .ok (.iload_n 1, 1) := by decide +kernel
theorem dX5_dueAfter_57 : decode cX5_dueAfter 57 = .ok (.bipush 73, 2) := by decide +kernel
theorem dX5_dueAfter_59 : decode cX5_dueAfter 59 = .ok (.if_icmp .ne 7, 3) := by decide +kernel
theorem dX5_dueAfter_62 : decode cX5_dueAfter 62 = .ok (.iconst 1, 1) := by decide +kernel
theorem dX5_dueAfter_63 : decode cX5_dueAfter 63 = .ok (.goto 4, 3) := by decide +kernel
theorem dX5_dueAfter_66 : decode cX5_dueAfter 66 = .ok (.iconst (-1), 1) := by decide +kernel
theorem dX5_dueAfter_67 : decode cX5_dueAfter 67 = .ok (.ireturn, 1) := by decide +kernel
theorem dX5_dueAfter_68 : decode cX5_dueAfter 68 = .ok (.iload_n 1, 1) := by decide +kernel
theorem dX5_dueAfter_69 : decode cX5_dueAfter 69 = .ok (.bipush 50, 2) := by decide +kernel
theorem dX5_dueAfter_71 : decode cX5_dueAfter 71 = .ok (.if_icmp .lt 13, 3) := by decide +kernel
theorem dX5_dueAfter_74 : decode cX5_dueAfter 74 = .ok (.iload_n 1, 1) := by decide +kernel
theorem dX5_dueAfter_75 : decode cX5_dueAfter 75 = .ok (.bipush 52, 2) := by decide +kernel
theorem dX5_dueAfter_77 : decode cX5_dueAfter 77 = .ok (.if_icmp .gt 7, 3) := by decide +kernel
theorem dX5_dueAfter_80 : decode cX5_dueAfter 80 = .ok (.iconst 2, 1) := by decide +kernel
theorem dX5_dueAfter_81 : decode cX5_dueAfter 81 = .ok (.goto 4, 3) := by decide +kernel
theorem dX5_dueAfter_84 : decode cX5_dueAfter 84 = .ok (.iconst (-1), 1) := by decide +kernel
theorem dX5_dueAfter_85 : decode cX5_dueAfter 85 = .ok (.ireturn, 1) := by decide +kernel
theorem dX5_dueAfter_86 : decode cX5_dueAfter 86 = .ok (.iload_n 1, 1) := by decide +kernel
theorem dX5_dueAfter_87 : decode cX5_dueAfter 87 = .ok (.bipush 48, 2) := by decide +kernel
theorem dX5_dueAfter_89 : decode cX5_dueAfter 89 = .ok (.if_icmp .lt 13, 3) := by decide +kernel
theorem dX5_dueAfter_92 : decode cX5_dueAfter 92 = .ok (.iload_n 1, 1) := by decide +kernel
theorem dX5_dueAfter_93 : decode cX5_dueAfter 93 = .ok (.bipush 57, 2) := by decide +kernel
theorem dX5_dueAfter_95 : decode cX5_dueAfter 95 = .ok (.if_icmp .gt 7, 3) := by decide +kernel
theorem dX5_dueAfter_98 : decode cX5_dueAfter 98 = .ok (.iconst 3, 1) := by decide +kernel
theorem dX5_dueAfter_99 : decode cX5_dueAfter 99 = .ok (.goto 4, 3) := by decide +kernel
theorem dX5_dueAfter_102 : decode cX5_dueAfter 102 = .ok (.iconst (-1), 1) := by decide +kernel
theorem dX5_dueAfter_103 : decode cX5_dueAfter 103 = .ok (.ireturn, 1) := by decide +kernel
theorem dX5_dueAfter_104 : decode cX5_dueAfter 104 = .ok (.iload_n 1, 1) := by decide +kernel
theorem dX5_dueAfter_105 : decode cX5_dueAfter 105 = .ok (.bipush 48, 2) := by decide +kernel
theorem dX5_dueAfter_107 : decode cX5_dueAfter 107 = .ok (.if_icmp .lt 13, 3) := by decide +kernel
theorem dX5_dueAfter_110 : decode cX5_dueAfter 110 = .ok (.iload_n 1, 1) := by decide +kernel
theorem dX5_dueAfter_111 : decode cX5_dueAfter 111 = .ok (.bipush 57, 2) := by decide +kernel
theorem dX5_dueAfter_113 : decode cX5_dueAfter 113 = .ok (.if_icmp .gt 7, 3) := by decide +kernel
theorem dX5_dueAfter_116 : decode cX5_dueAfter 116 = .ok (.iconst 4, 1) := by decide +kernel
theorem dX5_dueAfter_117 : decode cX5_dueAfter 117 = .ok (.goto 4, 3) := by decide +kernel
theorem dX5_dueAfter_120 : decode cX5_dueAfter 120 = .ok (.iconst (-1), 1) := by decide +kernel
theorem dX5_dueAfter_121 : decode cX5_dueAfter 121 = .ok (.ireturn, 1) := by decide +kernel
theorem dX5_dueAfter_122 : decode cX5_dueAfter 122 = .ok (.iload_n 1, 1) := by decide +kernel
theorem dX5_dueAfter_123 : decode cX5_dueAfter 123 = .ok (.invokestatic 31, 3) := by decide +kernel
theorem dX5_dueAfter_126 : decode cX5_dueAfter 126 = .ok (.ireturn, 1) := by decide +kernel
theorem dX5_dueAfter_127 : decode cX5_dueAfter 127 = .ok (.iload_n 1, 1) := by decide +kernel
theorem dX5_dueAfter_128 : decode cX5_dueAfter 128 = .ok (.bipush 48, 2) := by decide +kernel
theorem dX5_dueAfter_130 : decode cX5_dueAfter 130 = .ok (.if_icmp .lt 14, 3) := by decide +kernel
theorem dX5_dueAfter_133 : decode cX5_dueAfter 133 = .ok (.iload_n 1, 1) := by decide +kernel
theorem dX5_dueAfter_134 : decode cX5_dueAfter 134 = .ok (.bipush 51, 2) := by decide +kernel
theorem dX5_dueAfter_136 : decode cX5_dueAfter 136 = .ok (.if_icmp .gt 8, 3) := by decide +kernel
theorem dX5_dueAfter_139 : decode cX5_dueAfter 139 = .ok (.bipush 6, 2) := by decide +kernel
theorem dX5_dueAfter_141 : decode cX5_dueAfter 141 = .ok (.goto 4, 3) := by decide +kernel
theorem dX5_dueAfter_144 : decode cX5_dueAfter 144 = .ok (.iconst (-1), 1) := by decide +kernel
theorem dX5_dueAfter_145 : decode cX5_dueAfter 145 = .ok (.ireturn, 1) := by decide +kernel
theorem dX5_dueAfter_146 : decode cX5_dueAfter 146 = .ok (.iload_n 1, 1) := by decide +kernel
theorem dX5_dueAfter_147 : decode cX5_dueAfter 147 = .ok (.bipush 48, 2) := by decide +kernel
theorem dX5_dueAfter_149 : decode cX5_dueAfter 149 = .ok (.if_icmp .lt 14, 3) := by decide +kernel
theorem dX5_dueAfter_152 : decode cX5_dueAfter 152 = .ok (.iload_n 1, 1) := by decide +kernel
theorem dX5_dueAfter_153 : decode cX5_dueAfter 153 = .ok (.bipush 53, 2) := by decide +kernel
theorem dX5_dueAfter_155 : decode cX5_dueAfter 155 = .ok (.if_icmp .gt 8, 3) := by decide +kernel
theorem dX5_dueAfter_158 : decode cX5_dueAfter 158 = .ok (.bipush 7, 2) := by decide +kernel
theorem dX5_dueAfter_160 : decode cX5_dueAfter 160 = .ok (.goto 4, 3) := by decide +kernel
theorem dX5_dueAfter_163 : decode cX5_dueAfter 163 = .ok (.iconst (-1), 1) := by decide +kernel
theorem dX5_dueAfter_164 : decode cX5_dueAfter 164 = .ok (.ireturn, 1) := by decide +kernel
theorem dX5_dueAfter_165 : decode cX5_dueAfter 165 = .ok (.iload_n 1, 1) := by decide +kernel
theorem dX5_dueAfter_166 : decode cX5_dueAfter 166 = .ok (.bipush 43, 2) := by decide +kernel
theorem dX5_dueAfter_168 : decode cX5_dueAfter 168 = .ok (.if_icmp .eq 9, 3) := by decide +kernel
theorem dX5_dueAfter_171 : decode cX5_dueAfter 171 = .ok (.iload_n 1, 1) := by decide +kernel
theorem dX5_dueAfter_172 : decode cX5_dueAfter 172 = .ok (.bipush 45, 2) := by decide +kernel
theorem dX5_dueAfter_174 : decode cX5_dueAfter 174 = .ok (.if_icmp .ne 7, 3) := by decide +kernel
theorem dX5_dueAfter_177 : decode cX5_dueAfter 177 = .ok (.iconst 4, 1) := by decide +kernel
theorem dX5_dueAfter_178 : decode cX5_dueAfter 178 = .ok (.goto 4, 3) := by decide +kernel
theorem dX5_dueAfter_181 : decode cX5_dueAfter 181 = .ok (.iconst (-1), 1) := by decide +kernel
theorem dX5_dueAfter_182 : decode cX5_dueAfter 182 = .ok (.ireturn, 1) := by decide +kernel
theorem dX5_dueAfter_183 : decode cX5_dueAfter 183 = .ok (.iload_n 1, 1) := by decide +kernel
theorem dX5_dueAfter_184 : decode cX5_dueAfter 184 = .ok (.bipush 48, 2) := by decide +kernel
theorem dX5_dueAfter_186 : decode cX5_dueAfter 186 = .ok (.if_icmp .lt 13, 3) := by decide +kernel
theorem dX5_dueAfter_189 : decode cX5_dueAfter 189 = .ok (.iload_n 1, 1) := by decide +kernel
theorem dX5_dueAfter_190 : decode cX5_dueAfter 190 = .ok (.bipush 56, 2) := by decide +kernel
theorem dX5_dueAfter_192 : decode cX5_dueAfter 192 = .ok (.if_icmp .gt 7, 3) := by decide +kernel
theorem dX5_dueAfter_195 : decode cX5_dueAfter 195 = .ok (.iconst 4, 1) := by decide +kernel
theorem dX5_dueAfter_196 : decode cX5_dueAfter 196 = .ok (.goto 4, 3) := by decide +kernel
theorem dX5_dueAfter_199 : decode cX5_dueAfter 199 = .ok (.iconst (-1), 1) := by decide +kernel
theorem dX5_dueAfter_200 : decode cX5_dueAfter 200 = .ok (.ireturn, 1) := by decide +kernel
theorem dX5_dueAfter_201 : decode cX5_dueAfter 201 = .ok (.iload_n 1, 1) := by decide +kernel
theorem dX5_dueAfter_202 : decode cX5_dueAfter 202 = .ok (.bipush 48, 2) := by decide +kernel
theorem dX5_dueAfter_204 : decode cX5_dueAfter 204 = .ok (.if_icmp .lt 13, 3) := by decide +kernel
theorem dX5_dueAfter_207 : decode cX5_dueAfter 207 = .ok (.iload_n 1, 1) := by decide +kernel
theorem dX5_dueAfter_208 : decode cX5_dueAfter 208 = .ok (.bipush 53, 2) := by decide +kernel
theorem dX5_dueAfter_210 : decode cX5_dueAfter 210 = .ok (.if_icmp .gt 7, 3) := by decide +kernel
theorem dX5_dueAfter_213 : decode cX5_dueAfter 213 = .ok (.iconst 4, 1) := by decide +kernel
theorem dX5_dueAfter_214 : decode cX5_dueAfter 214 = .ok (.goto 4, 3) := by decide +kernel
theorem dX5_dueAfter_217 : decode cX5_dueAfter 217 = .ok (.iconst (-1), 1) := by decide +kernel
theorem dX5_dueAfter_218 : decode cX5_dueAfter 218 = .ok (.ireturn, 1) := by decide +kernel
theorem dX5_dueAfter_219 : decode cX5_dueAfter 219 = .ok (.iconst (-1), 1) := by decide +kernel
theorem dX5_dueAfter_220 : decode cX5_dueAfter 220 = .ok (.ireturn, 1) := by decide +kernel
theorem dX5_dueAfterLetter_0 : decode cX5_dueAfterLetter 0 = .ok (.iload_n 0, 1) := by decide +kernel
theorem dX5_dueAfterLetter_1 : decode cX5_dueAfterLetter 1 = .ok (.bipush 115, 2) := by decide +kernel
theorem dX5_dueAfterLetter_3 : decode cX5_dueAfterLetter 3 = .ok (.if_icmp .ne 5, 3) := by decide +kernel
theorem dX5_dueAfterLetter_6 : decode cX5_dueAfterLetter 6 = .ok (.iconst 5, 1) := by decide +kernel
theorem dX5_dueAfterLetter_7 : decode cX5_dueAfterLetter 7 = .ok (.ireturn, 1) := by decide +kernel
theorem dX5_dueAfterLetter_8 : decode cX5_dueAfterLetter 8 = .ok (.iload_n 0, 1) := by decide +kernel
theorem dX5_dueAfterLetter_9 : decode cX5_dueAfterLetter 9 = .ok (.bipush 103, 2) := by decide +kernel
theorem dX5_dueAfterLetter_11 : decode cX5_dueAfterLetter 11 = .ok (.if_icmp .ne 6, 3) := by decide +kernel
theorem dX5_dueAfterLetter_14 : decode cX5_dueAfterLetter 14 = .ok (.bipush 8, 2) := by decide +kernel
theorem dX5_dueAfterLetter_16 : decode cX5_dueAfterLetter 16 = .ok (.ireturn, 1) := by decide +kernel
theorem dX5_dueAfterLetter_17 : decode cX5_dueAfterLetter 17 = .ok (.iload_n 0, 1) := by decide +kernel
theorem dX5_dueAfterLetter_18 : decode cX5_dueAfterLetter 18 = .ok (.bipush 108, 2) := by decide +kernel
theorem dX5_dueAfterLetter_20 : decode cX5_dueAfterLetter 20 = .ok (.if_icmp .ne 8, 3) := by decide +kernel
theorem dX5_dueAfterLetter_23 : decode cX5_dueAfterLetter 23 = .ok (.bipush 9, 2) := by decide +kernel
theorem dX5_dueAfterLetter_25 : decode cX5_dueAfterLetter 25 = .ok (.goto 4, 3) := by decide +kernel
theorem dX5_dueAfterLetter_28 : decode cX5_dueAfterLetter 28 = .ok (.iconst (-1), 1) := by decide +kernel
theorem dX5_dueAfterLetter_29 : decode cX5_dueAfterLetter 29 = .ok (.ireturn, 1) := by decide +kernel
