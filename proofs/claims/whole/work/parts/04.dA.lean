abbrev vwCl : List vw_C := [(RX0, TX0, 8), (RX1, TX1, 1), (RX2, TX2, 8), (RX3, TX3, 3), (RX4, TX4, 5), (RX5, TX5, 2), (RX6, TX6, 8), (RX7, TX7, 16)]
theorem dX0_init_0 : decode cX0_init 0 = .ok (.aload_n 0, 1) := by decide +kernel
theorem dX0_init_1 : decode cX0_init 1 = .ok (.invokespecial 3, 3) := by decide +kernel
theorem dX0_init_4 : decode cX0_init 4 = .ok (.aload_n 0, 1) := by decide +kernel
theorem dX0_init_5 : decode cX0_init 5 = .ok (.bipush 9, 2) := by decide +kernel
theorem dX0_init_7 : decode cX0_init 7 = .ok (.newarray .int, 2) := by decide +kernel
theorem dX0_init_9 : decode cX0_init 9 = .ok (.putfield 9, 3) := by decide +kernel
theorem dX0_init_12 : decode cX0_init 12 = .ok (.aload_n 0, 1) := by decide +kernel
theorem dX0_init_13 : decode cX0_init 13 = .ok (.bipush 9, 2) := by decide +kernel
theorem dX0_init_15 : decode cX0_init 15 = .ok (.newarray .int, 2) := by decide +kernel
theorem dX0_init_17 : decode cX0_init 17 = .ok (.putfield 15, 3) := by decide +kernel
theorem dX0_init_20 : decode cX0_init 20 = .ok (.aload_n 0, 1) := by decide +kernel
theorem dX0_init_21 : decode cX0_init 21 = .ok (.iconst 5, 1) := by decide +kernel
theorem dX0_init_22 : decode cX0_init 22 = .ok (.newarray .int, 2) := by decide +kernel
theorem dX0_init_24 : decode cX0_init 24 = .ok (.putfield 18, 3) := by decide +kernel
theorem dX0_init_27 : decode cX0_init 27 = .ok (.return_, 1) := by decide +kernel
theorem dX0_copyFrom_0 : decode cX0_copyFrom 0 = .ok (.aload_n 1, 1) := by decide +kernel
theorem dX0_copyFrom_1 : decode cX0_copyFrom 1 = .ok (.getfield 9, 3) := by decide +kernel
theorem dX0_copyFrom_4 : decode cX0_copyFrom 4 = .ok (.iconst 0, 1) := by decide +kernel
theorem dX0_copyFrom_5 : decode cX0_copyFrom 5 = .ok (.aload_n 0, 1) := by decide +kernel
theorem dX0_copyFrom_6 : decode cX0_copyFrom 6 = .ok (.getfield 9, 3) := by decide +kernel
theorem dX0_copyFrom_9 : decode cX0_copyFrom 9 = .ok (.iconst 0, 1) := by decide +kernel
theorem dX0_copyFrom_10 : decode cX0_copyFrom 10 = .ok (.bipush 9, 2) := by decide +kernel
theorem dX0_copyFrom_12 : decode cX0_copyFrom 12 = .ok (.invokestatic 21, 3) := by decide +kernel
theorem dX0_copyFrom_15 : decode cX0_copyFrom 15 = .ok (.aload_n 1, 1) := by decide +kernel
theorem dX0_copyFrom_16 : decode cX0_copyFrom 16 = .ok (.getfield 15, 3) := by decide +kernel
theorem dX0_copyFrom_19 : decode cX0_copyFrom 19 = .ok (.iconst 0, 1) := by decide +kernel
theorem dX0_copyFrom_20 : decode cX0_copyFrom 20 = .ok (.aload_n 0, 1) := by decide +kernel
theorem dX0_copyFrom_21 : decode cX0_copyFrom 21 = .ok (.getfield 15, 3) := by decide +kernel
theorem dX0_copyFrom_24 : decode cX0_copyFrom 24 = .ok (.iconst 0, 1) := by decide +kernel
theorem dX0_copyFrom_25 : decode cX0_copyFrom 25 = .ok (.bipush 9, 2) := by decide +kernel
theorem dX0_copyFrom_27 : decode cX0_copyFrom 27 = .ok (.invokestatic 21, 3) := by decide +kernel
theorem dX0_copyFrom_30 : decode cX0_copyFrom 30 = .ok (.aload_n 1, 1) := by decide +kernel
theorem dX0_copyFrom_31 : decode cX0_copyFrom 31 = .ok (.getfield 18, 3) := by decide +kernel
theorem dX0_copyFrom_34 : decode cX0_copyFrom 34 = .ok (.iconst 0, 1) := by decide +kernel
theorem dX0_copyFrom_35 : decode cX0_copyFrom 35 = .ok (.aload_n 0, 1) := by decide +kernel
theorem dX0_copyFrom_36 : decode cX0_copyFrom 36 = .ok (.getfield 18, 3) := by decide +kernel
theorem dX0_copyFrom_39 : decode cX0_copyFrom 39 = .ok (.iconst 0, 1) := by decide +kernel
theorem dX0_copyFrom_40 : decode cX0_copyFrom 40 = .ok (.iconst 5, 1) := by decide +kernel
theorem dX0_copyFrom_41 : decode cX0_copyFrom 41 = .ok (.invokestatic 21, 3) := by decide +kernel
theorem dX0_copyFrom_44 : decode cX0_copyFrom 44 = .ok (.aload_n 0, 1) := by decide +kernel
theorem dX0_copyFrom_45 : decode cX0_copyFrom 45 = .ok (.aload_n 1, 1) := by decide +kernel
theorem dX0_copyFrom_46 : decode cX0_copyFrom 46 = .ok (.getfield 27, 3) := by decide +kernel
theorem dX0_copyFrom_49 : decode cX0_copyFrom 49 = .ok (.putfield 27, 3) := by decide +kernel
theorem dX0_copyFrom_52 : decode cX0_copyFrom 52 = .ok (.aload_n 0, 1) := by decide +kernel
theorem dX0_copyFrom_53 : decode cX0_copyFrom 53 = .ok (.aload_n 1, 1) := by decide +kernel
theorem dX0_copyFrom_54 : decode cX0_copyFrom 54 = .ok (.getfield 31, 3) := by decide +kernel
theorem dX0_copyFrom_57 : decode cX0_copyFrom 57 = .ok (.putfield 31, 3) := by decide +kernel
theorem dX0_copyFrom_60 : decode cX0_copyFrom 60 = .ok (.aload_n 0, 1) := by decide +kernel
theorem dX0_copyFrom_61 : decode cX0_copyFrom 61 = .ok (.aload_n 1, 1) := by decide +kernel
theorem dX0_copyFrom_62 : decode cX0_copyFrom 62 = .ok (.getfield 34, 3) := by decide +kernel
theorem dX0_copyFrom_65 : decode cX0_copyFrom 65 = .ok (.putfield 34, 3) := by decide +kernel
theorem dX0_copyFrom_68 : decode cX0_copyFrom 68 = .ok (.aload_n 0, 1) := by decide +kernel
theorem dX0_copyFrom_69 : decode cX0_copyFrom 69 = .ok (.aload_n 1, 1) := by decide +kernel
theorem dX0_copyFrom_70 : decode cX0_copyFrom 70 = .ok (.getfield 37, 3) := by decide +kernel
theorem dX0_copyFrom_73 : decode cX0_copyFrom 73 = .ok (.putfield 37, 3) := by decide +kernel
theorem dX0_copyFrom_76 : decode cX0_copyFrom 76 = .ok (.aload_n 0, 1) := by decide +kernel
theorem dX0_copyFrom_77 : decode cX0_copyFrom 77 = .ok (.aload_n 1, 1) := by decide +kernel
theorem dX0_copyFrom_78 : decode cX0_copyFrom 78 = .ok (.getfield 40, 3) := by decide +kernel
theorem dX0_copyFrom_81 : decode cX0_copyFrom 81 = .ok (.putfield 40, 3) := by decide +kernel
theorem dX0_copyFrom_84 : decode cX0_copyFrom 84 = .ok (.return_, 1) := by decide +kernel
set_option maxRecDepth 20000 in
theorem ggX0_deal_X1_below : GoodIn wsX0_deal wsX1_below := goodIn_r _ [13, 14, 15, 16, 12, 17, 18, 19, 20, 41] (by decide +kernel) (by decide +kernel)
set_option maxRecDepth 20000 in
theorem gX0_deal_X1_below : GoodIn wsX0_deal (wsV RX0 43 RX1 yX1_below wsX1_below) := goodIn_app (goodIn_of _ (by decide +kernel)) ggX0_deal_X1_below
set_option maxRecDepth 20000 in
theorem ggX0_deal_X0_hide : GoodIn wsX0_deal wsX0_hide := goodIn_r _ [25, 2, 26, 27, 28, 33, 34, 35, 36, 37, 38, 39, 40] (by decide +kernel) (by decide +kernel)
set_option maxRecDepth 20000 in
theorem gX0_deal_X0_hide : GoodIn wsX0_deal (wsV RX0 49 RX0 yX0_hide wsX0_hide) := goodIn_app (goodIn_of _ (by decide +kernel)) ggX0_deal_X0_hide
set_option maxRecDepth 20000 in
theorem ggX0_deal_X0_exchange : GoodIn wsX0_deal wsX0_exchange := goodIn_r _ [32, 3, 33, 34, 35, 36, 37, 38, 39, 40] (by decide +kernel) (by decide +kernel)
set_option maxRecDepth 20000 in
theorem gX0_deal_X0_exchange : GoodIn wsX0_deal (wsV RX0 53 RX0 yX0_exchange wsX0_exchange) := goodIn_app (goodIn_of _ (by decide +kernel)) ggX0_deal_X0_exchange
theorem dX0_deal_0 : decode cX0_deal 0 = .ok (.iconst 0, 1) := by decide +kernel
theorem dX0_deal_1 : decode cX0_deal 1 = .ok (.istore_n 2, 1) := by decide +kernel
theorem dX0_deal_2 : decode cX0_deal 2 = .ok (.iload_n 2, 1) := by decide +kernel
theorem dX0_deal_3 : decode cX0_deal 3 = .ok (.bipush 9, 2) := by decide +kernel
theorem dX0_deal_5 : decode cX0_deal 5 = .ok (.if_icmp .ge 30, 3) := by decide +kernel
theorem dX0_deal_8 : decode cX0_deal 8 = .ok (.aload_n 0, 1) := by decide +kernel
theorem dX0_deal_9 : decode cX0_deal 9 = .ok (.getfield 9, 3) := by decide +kernel
theorem dX0_deal_12 : decode cX0_deal 12 = .ok (.iload_n 2, 1) := by decide +kernel
theorem dX0_deal_13 : decode cX0_deal 13 = .ok (.iconst 1, 1) := by decide +kernel
theorem dX0_deal_14 : decode cX0_deal 14 = .ok (.aload_n 1, 1) := by decide +kernel
theorem dX0_deal_15 : decode cX0_deal 15 = .ok (.bipush 15, 2) := by decide +kernel
theorem dX0_deal_17 : decode cX0_deal 17 = .ok (.invokevirtual 43, 3) := by decide +kernel
theorem dX0_deal_20 : decode cX0_deal 20 = .ok (.iadd, 1) := by decide +kernel
theorem dX0_deal_21 : decode cX0_deal 21 = .ok (.iastore, 1) := by decide +kernel
theorem dX0_deal_22 : decode cX0_deal 22 = .ok (.aload_n 0, 1) := by decide +kernel
theorem dX0_deal_23 : decode cX0_deal 23 = .ok (.getfield 15, 3) := by decide +kernel
theorem dX0_deal_26 : decode cX0_deal 26 = .ok (.iload_n 2, 1) := by decide +kernel
theorem dX0_deal_27 : decode cX0_deal 27 = .ok (.iconst 0, 1) := by decide +kernel
theorem dX0_deal_28 : decode cX0_deal 28 = .ok (.iastore, 1) := by decide +kernel
theorem dX0_deal_29 : decode cX0_deal 29 = .ok (.iinc 2 1, 3) := by decide +kernel
theorem dX0_deal_32 : decode cX0_deal 32 = .ok (.goto (-30), 3) := by decide +kernel
theorem dX0_deal_35 : decode cX0_deal 35 = .ok (.iconst 1, 1) := by decide +kernel
theorem dX0_deal_36 : decode cX0_deal 36 = .ok (.istore_n 2, 1) := by decide +kernel
theorem dX0_deal_37 : decode cX0_deal 37 = .ok (.iload_n 2, 1) := by decide +kernel
theorem dX0_deal_38 : decode cX0_deal 38 = .ok (.iconst 5, 1) := by decide +kernel
theorem dX0_deal_39 : decode cX0_deal 39 = .ok (.if_icmp .gt 20, 3) := by decide +kernel
theorem dX0_deal_42 : decode cX0_deal 42 = .ok (.aload_n 0, 1) := by decide +kernel
theorem dX0_deal_43 : decode cX0_deal 43 = .ok (.iload_n 2, 1) := by decide +kernel
theorem dX0_deal_44 : decode cX0_deal 44 = .ok (.aload_n 1, 1) := by decide +kernel
theorem dX0_deal_45 : decode cX0_deal 45 = .ok (.bipush 9, 2) := by decide +kernel
theorem dX0_deal_47 : decode cX0_deal 47 = .ok (.invokevirtual 43, 3) := by decide +kernel
theorem dX0_deal_50 : decode cX0_deal 50 = .ok (.invokevirtual 49, 3) := by decide +kernel
theorem dX0_deal_53 : decode cX0_deal 53 = .ok (.iinc 2 1, 3) := by decide +kernel
theorem dX0_deal_56 : decode cX0_deal 56 = .ok (.goto (-19), 3) := by decide +kernel
theorem dX0_deal_59 : decode cX0_deal 59 = .ok (.iconst 0, 1) := by decide +kernel
theorem dX0_deal_60 : decode cX0_deal 60 = .ok (.istore_n 2, 1) := by decide +kernel
theorem dX0_deal_61 : decode cX0_deal 61 = .ok (.iload_n 2, 1) := by decide +kernel
theorem dX0_deal_62 : decode cX0_deal 62 = .ok (.iconst 5, 1) := by decide +kernel
theorem dX0_deal_63 : decode cX0_deal 63 = .ok (.if_icmp .ge 18, 3) := by decide +kernel
theorem dX0_deal_66 : decode cX0_deal 66 = .ok (.aload_n 0, 1) := by decide +kernel
theorem dX0_deal_67 : decode cX0_deal 67 = .ok (.getfield 18, 3) := by decide +kernel
theorem dX0_deal_70 : decode cX0_deal 70 = .ok (.iload_n 2, 1) := by decide +kernel
theorem dX0_deal_71 : decode cX0_deal 71 = .ok (.iload_n 2, 1) := by decide +kernel
theorem dX0_deal_72 : decode cX0_deal 72 = .ok (.iconst 1, 1) := by decide +kernel
theorem dX0_deal_73 : decode cX0_deal 73 = .ok (.iadd, 1) := by decide +kernel
theorem dX0_deal_74 : decode cX0_deal 74 = .ok (.iastore, 1) := by decide +kernel
theorem dX0_deal_75 : decode cX0_deal 75 = .ok (.iinc 2 1, 3) := by decide +kernel
theorem dX0_deal_78 : decode cX0_deal 78 = .ok (.goto (-17), 3) := by decide +kernel
theorem dX0_deal_81 : decode cX0_deal 81 = .ok (.iconst 4, 1) := by decide +kernel
theorem dX0_deal_82 : decode cX0_deal 82 = .ok (.istore_n 2, 1) := by decide +kernel
theorem dX0_deal_83 : decode cX0_deal 83 = .ok (.iload_n 2, 1) := by decide +kernel
theorem dX0_deal_84 : decode cX0_deal 84 = .ok (.iconst 1, 1) := by decide +kernel
theorem dX0_deal_85 : decode cX0_deal 85 = .ok (.if_icmp .lt 21, 3) := by decide +kernel
theorem dX0_deal_88 : decode cX0_deal 88 = .ok (.aload_n 0, 1) := by decide +kernel
theorem dX0_deal_89 : decode cX0_deal 89 = .ok (.iload_n 2, 1) := by decide +kernel
theorem dX0_deal_90 : decode cX0_deal 90 = .ok (.aload_n 1, 1) := by decide +kernel
theorem dX0_deal_91 : decode cX0_deal 91 = .ok (.iload_n 2, 1) := by decide +kernel
theorem dX0_deal_92 : decode cX0_deal 92 = .ok (.iconst 1, 1) := by decide +kernel
theorem dX0_deal_93 : decode cX0_deal 93 = .ok (.iadd, 1) := by decide +kernel
theorem dX0_deal_94 : decode cX0_deal 94 = .ok (.invokevirtual 43, 3) := by decide +kernel
theorem dX0_deal_97 : decode cX0_deal 97 = .ok (.invokevirtual 53, 3) := by decide +kernel
theorem dX0_deal_100 : decode cX0_deal 100 = .ok (.iinc 2 (-1), 3) := by decide +kernel
theorem dX0_deal_103 : decode cX0_deal 103 = .ok (.goto (-20), 3) := by decide +kernel
theorem dX0_deal_106 : decode cX0_deal 106 = .ok (.aload_n 0, 1) := by decide +kernel
theorem dX0_deal_107 : decode cX0_deal 107 = .ok (.iconst 4, 1) := by decide +kernel
theorem dX0_deal_108 : decode cX0_deal 108 = .ok (.putfield 27, 3) := by decide +kernel
theorem dX0_deal_111 : decode cX0_deal 111 = .ok (.aload_n 0, 1) := by decide +kernel
theorem dX0_deal_112 : decode cX0_deal 112 = .ok (.iconst 0, 1) := by decide +kernel
theorem dX0_deal_113 : decode cX0_deal 113 = .ok (.putfield 31, 3) := by decide +kernel
theorem dX0_deal_116 : decode cX0_deal 116 = .ok (.aload_n 0, 1) := by decide +kernel
theorem dX0_deal_117 : decode cX0_deal 117 = .ok (.iconst (-1), 1) := by decide +kernel
theorem dX0_deal_118 : decode cX0_deal 118 = .ok (.putfield 34, 3) := by decide +kernel
theorem dX0_deal_121 : decode cX0_deal 121 = .ok (.aload_n 0, 1) := by decide +kernel
theorem dX0_deal_122 : decode cX0_deal 122 = .ok (.iconst (-1), 1) := by decide +kernel
theorem dX0_deal_123 : decode cX0_deal 123 = .ok (.putfield 37, 3) := by decide +kernel
theorem dX0_deal_126 : decode cX0_deal 126 = .ok (.aload_n 0, 1) := by decide +kernel
theorem dX0_deal_127 : decode cX0_deal 127 = .ok (.iconst (-1), 1) := by decide +kernel
theorem dX0_deal_128 : decode cX0_deal 128 = .ok (.putfield 40, 3) := by decide +kernel
theorem dX0_deal_131 : decode cX0_deal 131 = .ok (.return_, 1) := by decide +kernel
set_option maxRecDepth 20000 in
theorem ggX0_hide_X6_isPlace : GoodIn wsX0_hide wsX6_isPlace := goodIn_r _ [4] (by decide +kernel) (by decide +kernel)
set_option maxRecDepth 20000 in
theorem gX0_hide_X6_isPlace_n56 : GoodIn wsX0_hide (wsX6_isPlace) := ggX0_hide_X6_isPlace
theorem dX0_hide_0 : decode cX0_hide 0 = .ok (.iconst 0, 1) := by decide +kernel
theorem dX0_hide_1 : decode cX0_hide 1 = .ok (.istore_n 3, 1) := by decide +kernel
theorem dX0_hide_2 : decode cX0_hide 2 = .ok (.iload_n 3, 1) := by decide +kernel
theorem dX0_hide_3 : decode cX0_hide 3 = .ok (.bipush 9, 2) := by decide +kernel
theorem dX0_hide_5 : decode cX0_hide 5 = .ok (.if_icmp .ge 44, 3) := by decide +kernel
theorem dX0_hide_8 : decode cX0_hide 8 = .ok (.iload_n 2, 1) := by decide +kernel
theorem dX0_hide_9 : decode cX0_hide 9 = .ok (.iload_n 3, 1) := by decide +kernel
theorem dX0_hide_10 : decode cX0_hide 10 = .ok (.iadd, 1) := by decide +kernel
theorem dX0_hide_11 : decode cX0_hide 11 = .ok (.bipush 9, 2) := by decide +kernel
theorem dX0_hide_13 : decode cX0_hide 13 = .ok (.irem, 1) := by decide +kernel
theorem dX0_hide_14 : decode cX0_hide 14 = .ok (.istore 4, 2) := by decide +kernel
theorem dX0_hide_16 : decode cX0_hide 16 = .ok (.iload 4, 2) := by decide +kernel
theorem dX0_hide_18 : decode cX0_hide 18 = .ok (.invokestatic 56, 3) := by decide +kernel
theorem dX0_hide_21 : decode cX0_hide 21 = .ok (.ifCond .eq 22, 3) := by decide +kernel
theorem dX0_hide_24 : decode cX0_hide 24 = .ok (.aload_n 0, 1) := by decide +kernel
theorem dX0_hide_25 : decode cX0_hide 25 = .ok (.getfield 15, 3) := by decide +kernel
theorem dX0_hide_28 : decode cX0_hide 28 = .ok (.iload 4, 2) := by decide +kernel
theorem dX0_hide_30 : decode cX0_hide 30 = .ok (.iaload, 1) := by decide +kernel
theorem dX0_hide_31 : decode cX0_hide 31 = .ok (.ifCond .ne 12, 3) := by decide +kernel
theorem dX0_hide_34 : decode cX0_hide 34 = .ok (.aload_n 0, 1) := by decide +kernel
theorem dX0_hide_35 : decode cX0_hide 35 = .ok (.getfield 15, 3) := by decide +kernel
theorem dX0_hide_38 : decode cX0_hide 38 = .ok (.iload 4, 2) := by decide +kernel
theorem dX0_hide_40 : decode cX0_hide 40 = .ok (.iload_n 1, 1) := by decide +kernel
theorem dX0_hide_41 : decode cX0_hide 41 = .ok (.iastore, 1) := by decide +kernel
theorem dX0_hide_42 : decode cX0_hide 42 = .ok (.return_, 1) := by decide +kernel
theorem dX0_hide_43 : decode cX0_hide 43 = .ok (.iinc 3 1, 3) := by decide +kernel
theorem dX0_hide_46 : decode cX0_hide 46 = .ok (.goto (-44), 3) := by decide +kernel
theorem dX0_hide_49 : decode cX0_hide 49 = .ok (.return_, 1) := by decide +kernel
theorem dX0_exchange_0 : decode cX0_exchange 0 = .ok (.iload_n 1, 1) := by decide +kernel
theorem dX0_exchange_1 : decode cX0_exchange 1 = .ok (.ifCond .lt 17, 3) := by decide +kernel
theorem dX0_exchange_4 : decode cX0_exchange 4 = .ok (.iload_n 1, 1) := by decide +kernel
theorem dX0_exchange_5 : decode cX0_exchange 5 = .ok (.iconst 5, 1) := by decide +kernel
theorem dX0_exchange_6 : decode cX0_exchange 6 = .ok (.if_icmp .ge 12, 3) := by decide +kernel
theorem dX0_exchange_9 : decode cX0_exchange 9 = .ok (.iload_n 2, 1) := by decide +kernel
theorem dX0_exchange_10 : decode cX0_exchange 10 = .ok (.ifCond .lt 8, 3) := by decide +kernel
theorem dX0_exchange_13 : decode cX0_exchange 13 = .ok (.iload_n 2, 1) := by decide +kernel
theorem dX0_exchange_14 : decode cX0_exchange 14 = .ok (.iconst 5, 1) := by decide +kernel
theorem dX0_exchange_15 : decode cX0_exchange 15 = .ok (.if_icmp .lt 4, 3) := by decide +kernel
theorem dX0_exchange_18 : decode cX0_exchange 18 = .ok (.return_, 1) := by decide +kernel
theorem dX0_exchange_19 : decode cX0_exchange 19 = .ok (.aload_n 0, 1) := by decide +kernel
theorem dX0_exchange_20 : decode cX0_exchange 20 = .ok (.getfield 18, 3) := by decide +kernel
theorem dX0_exchange_23 : decode cX0_exchange 23 = .ok (.iload_n 1, 1) := by decide +kernel
theorem dX0_exchange_24 : decode cX0_exchange 24 = .ok (.iaload, 1) := by decide +kernel
theorem dX0_exchange_25 : decode cX0_exchange 25 = .ok (.istore_n 3, 1) := by decide +kernel
theorem dX0_exchange_26 : decode cX0_exchange 26 = .ok (.aload_n 0, 1) := by decide +kernel
theorem dX0_exchange_27 : decode cX0_exchange 27 = .ok (.getfield 18, 3) := by decide +kernel
theorem dX0_exchange_30 : decode cX0_exchange 30 = .ok (.iload_n 1, 1) := by decide +kernel
theorem dX0_exchange_31 : decode cX0_exchange 31 = .ok (.aload_n 0, 1) := by decide +kernel
theorem dX0_exchange_32 : decode cX0_exchange 32 = .ok (.getfield 18, 3) := by decide +kernel
theorem dX0_exchange_35 : decode cX0_exchange 35 = .ok (.iload_n 2, 1) := by decide +kernel
theorem dX0_exchange_36 : decode cX0_exchange 36 = .ok (.iaload, 1) := by decide +kernel
theorem dX0_exchange_37 : decode cX0_exchange 37 = .ok (.iastore, 1) := by decide +kernel
theorem dX0_exchange_38 : decode cX0_exchange 38 = .ok (.aload_n 0, 1) := by decide +kernel
theorem dX0_exchange_39 : decode cX0_exchange 39 = .ok (.getfield 18, 3) := by decide +kernel
theorem dX0_exchange_42 : decode cX0_exchange 42 = .ok (.iload_n 2, 1) := by decide +kernel
theorem dX0_exchange_43 : decode cX0_exchange 43 = .ok (.iload_n 3, 1) := by decide +kernel
theorem dX0_exchange_44 : decode cX0_exchange 44 = .ok (.iastore, 1) := by decide +kernel
theorem dX0_exchange_45 : decode cX0_exchange 45 = .ok (.return_, 1) := by decide +kernel
set_option maxRecDepth 20000 in
theorem ggX0_openingsAt_X6_isPlace : GoodIn wsX0_openingsAt wsX6_isPlace := goodIn_r _ [4] (by decide +kernel) (by decide +kernel)
set_option maxRecDepth 20000 in
theorem gX0_openingsAt_X6_isPlace_n56 : GoodIn wsX0_openingsAt (wsX6_isPlace) := ggX0_openingsAt_X6_isPlace
theorem dX0_openingsAt_0 : decode cX0_openingsAt 0 = .ok (.iload_n 1, 1) := by decide +kernel
theorem dX0_openingsAt_1 : decode cX0_openingsAt 1 = .ok (.invokestatic 56, 3) := by decide +kernel
theorem dX0_openingsAt_4 : decode cX0_openingsAt 4 = .ok (.ifCond .eq 12, 3) := by decide +kernel
theorem dX0_openingsAt_7 : decode cX0_openingsAt 7 = .ok (.aload_n 0, 1) := by decide +kernel
theorem dX0_openingsAt_8 : decode cX0_openingsAt 8 = .ok (.getfield 9, 3) := by decide +kernel
theorem dX0_openingsAt_11 : decode cX0_openingsAt 11 = .ok (.iload_n 1, 1) := by decide +kernel
theorem dX0_openingsAt_12 : decode cX0_openingsAt 12 = .ok (.iaload, 1) := by decide +kernel
theorem dX0_openingsAt_13 : decode cX0_openingsAt 13 = .ok (.goto 4, 3) := by decide +kernel
theorem dX0_openingsAt_16 : decode cX0_openingsAt 16 = .ok (.iconst 0, 1) := by decide +kernel
theorem dX0_openingsAt_17 : decode cX0_openingsAt 17 = .ok (.ireturn, 1) := by decide +kernel
set_option maxRecDepth 20000 in
theorem ggX0_treasureAt_X6_isPlace : GoodIn wsX0_treasureAt wsX6_isPlace := goodIn_r _ [4] (by decide +kernel) (by decide +kernel)
set_option maxRecDepth 20000 in
theorem gX0_treasureAt_X6_isPlace_n56 : GoodIn wsX0_treasureAt (wsX6_isPlace) := ggX0_treasureAt_X6_isPlace
theorem dX0_treasureAt_0 : decode cX0_treasureAt 0 = .ok (.iload_n 1, 1) := by decide +kernel
theorem dX0_treasureAt_1 : decode cX0_treasureAt 1 = .ok (.invokestatic 56, 3) := by decide +kernel
theorem dX0_treasureAt_4 : decode cX0_treasureAt 4 = .ok (.ifCond .eq 12, 3) := by decide +kernel
theorem dX0_treasureAt_7 : decode cX0_treasureAt 7 = .ok (.aload_n 0, 1) := by decide +kernel
theorem dX0_treasureAt_8 : decode cX0_treasureAt 8 = .ok (.getfield 15, 3) := by decide +kernel
theorem dX0_treasureAt_11 : decode cX0_treasureAt 11 = .ok (.iload_n 1, 1) := by decide +kernel
theorem dX0_treasureAt_12 : decode cX0_treasureAt 12 = .ok (.iaload, 1) := by decide +kernel
theorem dX0_treasureAt_13 : decode cX0_treasureAt 13 = .ok (.goto 4, 3) := by decide +kernel
theorem dX0_treasureAt_16 : decode cX0_treasureAt 16 = .ok (.iconst 0, 1) := by decide +kernel
theorem dX0_treasureAt_17 : decode cX0_treasureAt 17 = .ok (.ireturn, 1) := by decide +kernel
theorem dX0_ship_0 : decode cX0_ship 0 = .ok (.aload_n 0, 1) := by decide +kernel
theorem dX0_ship_1 : decode cX0_ship 1 = .ok (.getfield 27, 3) := by decide +kernel
theorem dX0_ship_4 : decode cX0_ship 4 = .ok (.ireturn, 1) := by decide +kernel
theorem dX0_taken_0 : decode cX0_taken 0 = .ok (.aload_n 0, 1) := by decide +kernel
theorem dX0_taken_1 : decode cX0_taken 1 = .ok (.getfield 31, 3) := by decide +kernel
theorem dX0_taken_4 : decode cX0_taken 4 = .ok (.ireturn, 1) := by decide +kernel
theorem dX0_lockedLine_0 : decode cX0_lockedLine 0 = .ok (.aload_n 0, 1) := by decide +kernel
theorem dX0_lockedLine_1 : decode cX0_lockedLine 1 = .ok (.getfield 34, 3) := by decide +kernel
theorem dX0_lockedLine_4 : decode cX0_lockedLine 4 = .ok (.ireturn, 1) := by decide +kernel
theorem dX0_lockOn_0 : decode cX0_lockOn 0 = .ok (.aload_n 0, 1) := by decide +kernel
theorem dX0_lockOn_1 : decode cX0_lockOn 1 = .ok (.iload_n 1, 1) := by decide +kernel
theorem dX0_lockOn_2 : decode cX0_lockOn 2 = .ok (.putfield 34, 3) := by decide +kernel
theorem dX0_lockOn_5 : decode cX0_lockOn 5 = .ok (.return_, 1) := by decide +kernel
theorem dX0_unlock_0 : decode cX0_unlock 0 = .ok (.aload_n 0, 1) := by decide +kernel
theorem dX0_unlock_1 : decode cX0_unlock 1 = .ok (.iconst (-1), 1) := by decide +kernel
theorem dX0_unlock_2 : decode cX0_unlock 2 = .ok (.putfield 34, 3) := by decide +kernel
theorem dX0_unlock_5 : decode cX0_unlock 5 = .ok (.return_, 1) := by decide +kernel
theorem dX0_lastLine_0 : decode cX0_lastLine 0 = .ok (.aload_n 0, 1) := by decide +kernel
theorem dX0_lastLine_1 : decode cX0_lastLine 1 = .ok (.getfield 37, 3) := by decide +kernel
theorem dX0_lastLine_4 : decode cX0_lastLine 4 = .ok (.ireturn, 1) := by decide +kernel
theorem dX0_lastDirection_0 : decode cX0_lastDirection 0 = .ok (.aload_n 0, 1) := by decide +kernel
theorem dX0_lastDirection_1 : decode cX0_lastDirection 1 = .ok (.getfield 40, 3) := by decide +kernel
theorem dX0_lastDirection_4 : decode cX0_lastDirection 4 = .ok (.ireturn, 1) := by decide +kernel
theorem dX0_sought_0 : decode cX0_sought 0 = .ok (.aload_n 0, 1) := by decide +kernel
theorem dX0_sought_1 : decode cX0_sought 1 = .ok (.getfield 31, 3) := by decide +kernel
theorem dX0_sought_4 : decode cX0_sought 4 = .ok (.ifCond .lt 23, 3) := by decide +kernel
theorem dX0_sought_7 : decode cX0_sought 7 = .ok (.aload_n 0, 1) := by decide +kernel
theorem dX0_sought_8 : decode cX0_sought 8 = .ok (.getfield 31, 3) := by decide +kernel
theorem dX0_sought_11 : decode cX0_sought 11 = .ok (.iconst 5, 1) := by decide +kernel
theorem dX0_sought_12 : decode cX0_sought 12 = .ok (.if_icmp .ge 15, 3) := by decide +kernel
theorem dX0_sought_15 : decode cX0_sought 15 = .ok (.aload_n 0, 1) := by decide +kernel
theorem dX0_sought_16 : decode cX0_sought 16 = .ok (.getfield 18, 3) := by decide +kernel
theorem dX0_sought_19 : decode cX0_sought 19 = .ok (.aload_n 0, 1) := by decide +kernel
theorem dX0_sought_20 : decode cX0_sought 20 = .ok (.getfield 31, 3) := by decide +kernel
theorem dX0_sought_23 : decode cX0_sought 23 = .ok (.iaload, 1) := by decide +kernel
theorem dX0_sought_24 : decode cX0_sought 24 = .ok (.goto 4, 3) := by decide +kernel
theorem dX0_sought_27 : decode cX0_sought 27 = .ok (.iconst (-1), 1) := by decide +kernel
theorem dX0_sought_28 : decode cX0_sought 28 = .ok (.ireturn, 1) := by decide +kernel
set_option maxRecDepth 20000 in
theorem ggX0_soughtPlace_X0_sought : GoodIn wsX0_soughtPlace wsX0_sought := goodIn_r _ [6, 7, 8, 9, 10, 11, 12, 13, 14, 15, 16] (by decide +kernel) (by decide +kernel)
set_option maxRecDepth 20000 in
theorem gX0_soughtPlace_X0_sought : GoodIn wsX0_soughtPlace (wsV RX0 60 RX0 yX0_sought wsX0_sought) := goodIn_app (goodIn_of _ (by decide +kernel)) ggX0_soughtPlace_X0_sought
theorem dX0_soughtPlace_0 : decode cX0_soughtPlace 0 = .ok (.aload_n 0, 1) := by decide +kernel
theorem dX0_soughtPlace_1 : decode cX0_soughtPlace 1 = .ok (.invokevirtual 60, 3) := by decide +kernel
theorem dX0_soughtPlace_4 : decode cX0_soughtPlace 4 = .ok (.istore_n 1, 1) := by decide +kernel
theorem dX0_soughtPlace_5 : decode cX0_soughtPlace 5 = .ok (.iconst 0, 1) := by decide +kernel
theorem dX0_soughtPlace_6 : decode cX0_soughtPlace 6 = .ok (.istore_n 2, 1) := by decide +kernel
theorem dX0_soughtPlace_7 : decode cX0_soughtPlace 7 = .ok (.iload_n 2, 1) := by decide +kernel
theorem dX0_soughtPlace_8 : decode cX0_soughtPlace 8 = .ok (.bipush 9, 2) := by decide +kernel
theorem dX0_soughtPlace_10 : decode cX0_soughtPlace 10 = .ok (.if_icmp .ge 21, 3) := by decide +kernel
theorem dX0_soughtPlace_13 : decode cX0_soughtPlace 13 = .ok (.aload_n 0, 1) := by decide +kernel
theorem dX0_soughtPlace_14 : decode cX0_soughtPlace 14 = .ok (.getfield 15, 3) := by decide +kernel
theorem dX0_soughtPlace_17 : decode cX0_soughtPlace 17 = .ok (.iload_n 2, 1) := by decide +kernel
theorem dX0_soughtPlace_18 : decode cX0_soughtPlace 18 = .ok (.iaload, 1) := by decide +kernel
theorem dX0_soughtPlace_19 : decode cX0_soughtPlace 19 = .ok (.iload_n 1, 1) := by decide +kernel
theorem dX0_soughtPlace_20 : decode cX0_soughtPlace 20 = .ok (.if_icmp .ne 5, 3) := by decide +kernel
theorem dX0_soughtPlace_23 : decode cX0_soughtPlace 23 = .ok (.iload_n 2, 1) := by decide +kernel
theorem dX0_soughtPlace_24 : decode cX0_soughtPlace 24 = .ok (.ireturn, 1) := by decide +kernel
theorem dX0_soughtPlace_25 : decode cX0_soughtPlace 25 = .ok (.iinc 2 1, 3) := by decide +kernel
theorem dX0_soughtPlace_28 : decode cX0_soughtPlace 28 = .ok (.goto (-21), 3) := by decide +kernel
theorem dX0_soughtPlace_31 : decode cX0_soughtPlace 31 = .ok (.iconst (-1), 1) := by decide +kernel
theorem dX0_soughtPlace_32 : decode cX0_soughtPlace 32 = .ok (.ireturn, 1) := by decide +kernel
theorem dX0_allows_0 : decode cX0_allows 0 = .ok (.iload_n 1, 1) := by decide +kernel
theorem dX0_allows_1 : decode cX0_allows 1 = .ok (.aload_n 0, 1) := by decide +kernel
theorem dX0_allows_2 : decode cX0_allows 2 = .ok (.getfield 34, 3) := by decide +kernel
theorem dX0_allows_5 : decode cX0_allows 5 = .ok (.if_icmp .eq 23, 3) := by decide +kernel
theorem dX0_allows_8 : decode cX0_allows 8 = .ok (.iload_n 1, 1) := by decide +kernel
theorem dX0_allows_9 : decode cX0_allows 9 = .ok (.aload_n 0, 1) := by decide +kernel
theorem dX0_allows_10 : decode cX0_allows 10 = .ok (.getfield 37, 3) := by decide +kernel
theorem dX0_allows_13 : decode cX0_allows 13 = .ok (.if_icmp .ne 11, 3) := by decide +kernel
theorem dX0_allows_16 : decode cX0_allows 16 = .ok (.iload_n 2, 1) := by decide +kernel
theorem dX0_allows_17 : decode cX0_allows 17 = .ok (.aload_n 0, 1) := by decide +kernel
theorem dX0_allows_18 : decode cX0_allows 18 = .ok (.getfield 40, 3) := by decide +kernel
theorem dX0_allows_21 : decode cX0_allows 21 = .ok (.if_icmp .ne 7, 3) := by decide +kernel
theorem dX0_allows_24 : decode cX0_allows 24 = .ok (.iconst 1, 1) := by decide +kernel
theorem dX0_allows_25 : decode cX0_allows 25 = .ok (.goto 4, 3) := by decide +kernel
theorem dX0_allows_28 : decode cX0_allows 28 = .ok (.iconst 0, 1) := by decide +kernel
theorem dX0_allows_29 : decode cX0_allows 29 = .ok (.ireturn, 1) := by decide +kernel
set_option maxRecDepth 20000 in
theorem ggX0_moveLine_X6_isLine : GoodIn wsX0_moveLine wsX6_isLine := goodIn_r _ [7] (by decide +kernel) (by decide +kernel)
set_option maxRecDepth 20000 in
theorem gX0_moveLine_X6_isLine_n64 : GoodIn wsX0_moveLine (wsX6_isLine) := ggX0_moveLine_X6_isLine
set_option maxRecDepth 20000 in
theorem ggX0_moveLine_X0_cycle : GoodIn wsX0_moveLine wsX0_cycle := goodIn_r _ [11] (by decide +kernel) (by decide +kernel)
set_option maxRecDepth 20000 in
theorem gX0_moveLine_X0_cycle : GoodIn wsX0_moveLine (va_wsS RX0 67 yX0_cycle wsX0_cycle) := goodIn_app (goodIn_of _ (by decide +kernel)) ggX0_moveLine_X0_cycle
set_option maxRecDepth 20000 in
theorem ggX0_moveLine_X0_moveShip : GoodIn wsX0_moveLine wsX0_moveShip := goodIn_r _ [15, 16, 17, 18, 19, 20, 21, 22, 23, 24] (by decide +kernel) (by decide +kernel)
set_option maxRecDepth 20000 in
theorem gX0_moveLine_X0_moveShip : GoodIn wsX0_moveLine (wsV RX0 71 RX0 yX0_moveShip wsX0_moveShip) := goodIn_app (goodIn_of _ (by decide +kernel)) ggX0_moveLine_X0_moveShip
theorem dX0_moveLine_0 : decode cX0_moveLine 0 = .ok (.iload_n 1, 1) := by decide +kernel
theorem dX0_moveLine_1 : decode cX0_moveLine 1 = .ok (.invokestatic 64, 3) := by decide +kernel
theorem dX0_moveLine_4 : decode cX0_moveLine 4 = .ok (.ifCond .ne 4, 3) := by decide +kernel
theorem dX0_moveLine_7 : decode cX0_moveLine 7 = .ok (.return_, 1) := by decide +kernel
theorem dX0_moveLine_8 : decode cX0_moveLine 8 = .ok (.iload_n 1, 1) := by decide +kernel
theorem dX0_moveLine_9 : decode cX0_moveLine 9 = .ok (.iconst 3, 1) := by decide +kernel
theorem dX0_moveLine_10 : decode cX0_moveLine 10 = .ok (.if_icmp .ge 9, 3) := by decide +kernel
theorem dX0_moveLine_13 : decode cX0_moveLine 13 = .ok (.iload_n 1, 1) := by decide +kernel
theorem dX0_moveLine_14 : decode cX0_moveLine 14 = .ok (.iconst 3, 1) := by decide +kernel
theorem dX0_moveLine_15 : decode cX0_moveLine 15 = .ok (.imul, 1) := by decide +kernel
theorem dX0_moveLine_16 : decode cX0_moveLine 16 = .ok (.goto 6, 3) := by decide +kernel
theorem dX0_moveLine_19 : decode cX0_moveLine 19 = .ok (.iload_n 1, 1) := by decide +kernel
theorem dX0_moveLine_20 : decode cX0_moveLine 20 = .ok (.iconst 3, 1) := by decide +kernel
theorem dX0_moveLine_21 : decode cX0_moveLine 21 = .ok (.isub, 1) := by decide +kernel
theorem dX0_moveLine_22 : decode cX0_moveLine 22 = .ok (.istore_n 3, 1) := by decide +kernel
theorem dX0_moveLine_23 : decode cX0_moveLine 23 = .ok (.iload_n 1, 1) := by decide +kernel
theorem dX0_moveLine_24 : decode cX0_moveLine 24 = .ok (.iconst 3, 1) := by decide +kernel
theorem dX0_moveLine_25 : decode cX0_moveLine 25 = .ok (.if_icmp .ge 7, 3) := by decide +kernel
theorem dX0_moveLine_28 : decode cX0_moveLine 28 = .ok (.iconst 1, 1) := by decide +kernel
theorem dX0_moveLine_29 : decode cX0_moveLine 29 = .ok (.goto 4, 3) := by decide +kernel
theorem dX0_moveLine_32 : decode cX0_moveLine 32 = .ok (.iconst 3, 1) := by decide +kernel
theorem dX0_moveLine_33 : decode cX0_moveLine 33 = .ok (.istore 4, 2) := by decide +kernel
theorem dX0_moveLine_35 : decode cX0_moveLine 35 = .ok (.iload_n 2, 1) := by decide +kernel
theorem dX0_moveLine_36 : decode cX0_moveLine 36 = .ok (.iconst 1, 1) := by decide +kernel
theorem dX0_moveLine_37 : decode cX0_moveLine 37 = .ok (.if_icmp .ne 7, 3) := by decide +kernel
theorem dX0_moveLine_40 : decode cX0_moveLine 40 = .ok (.iconst 1, 1) := by decide +kernel
theorem dX0_moveLine_41 : decode cX0_moveLine 41 = .ok (.goto 4, 3) := by decide +kernel
theorem dX0_moveLine_44 : decode cX0_moveLine 44 = .ok (.iconst 2, 1) := by decide +kernel
theorem dX0_moveLine_45 : decode cX0_moveLine 45 = .ok (.istore 5, 2) := by decide +kernel
theorem dX0_moveLine_47 : decode cX0_moveLine 47 = .ok (.aload_n 0, 1) := by decide +kernel
theorem dX0_moveLine_48 : decode cX0_moveLine 48 = .ok (.getfield 9, 3) := by decide +kernel
theorem dX0_moveLine_51 : decode cX0_moveLine 51 = .ok (.iload_n 3, 1) := by decide +kernel
theorem dX0_moveLine_52 : decode cX0_moveLine 52 = .ok (.iload 4, 2) := by decide +kernel
theorem dX0_moveLine_54 : decode cX0_moveLine 54 = .ok (.iload 5, 2) := by decide +kernel
theorem dX0_moveLine_56 : decode cX0_moveLine 56 = .ok (.invokestatic 67, 3) := by decide +kernel
theorem dX0_moveLine_59 : decode cX0_moveLine 59 = .ok (.aload_n 0, 1) := by decide +kernel
theorem dX0_moveLine_60 : decode cX0_moveLine 60 = .ok (.getfield 15, 3) := by decide +kernel
theorem dX0_moveLine_63 : decode cX0_moveLine 63 = .ok (.iload_n 3, 1) := by decide +kernel
theorem dX0_moveLine_64 : decode cX0_moveLine 64 = .ok (.iload 4, 2) := by decide +kernel
theorem dX0_moveLine_66 : decode cX0_moveLine 66 = .ok (.iload 5, 2) := by decide +kernel
theorem dX0_moveLine_68 : decode cX0_moveLine 68 = .ok (.invokestatic 67, 3) := by decide +kernel
theorem dX0_moveLine_71 : decode cX0_moveLine 71 = .ok (.aload_n 0, 1) := by decide +kernel
theorem dX0_moveLine_72 : decode cX0_moveLine 72 = .ok (.iload_n 3, 1) := by decide +kernel
theorem dX0_moveLine_73 : decode cX0_moveLine 73 = .ok (.iload 4, 2) := by decide +kernel
theorem dX0_moveLine_75 : decode cX0_moveLine 75 = .ok (.iload 5, 2) := by decide +kernel
theorem dX0_moveLine_77 : decode cX0_moveLine 77 = .ok (.invokevirtual 71, 3) := by decide +kernel
theorem dX0_moveLine_80 : decode cX0_moveLine 80 = .ok (.aload_n 0, 1) := by decide +kernel
theorem dX0_moveLine_81 : decode cX0_moveLine 81 = .ok (.iload_n 1, 1) := by decide +kernel
theorem dX0_moveLine_82 : decode cX0_moveLine 82 = .ok (.putfield 37, 3) := by decide +kernel
theorem dX0_moveLine_85 : decode cX0_moveLine 85 = .ok (.aload_n 0, 1) := by decide +kernel
theorem dX0_moveLine_86 : decode cX0_moveLine 86 = .ok (.iload_n 2, 1) := by decide +kernel
theorem dX0_moveLine_87 : decode cX0_moveLine 87 = .ok (.putfield 40, 3) := by decide +kernel
theorem dX0_moveLine_90 : decode cX0_moveLine 90 = .ok (.return_, 1) := by decide +kernel
theorem dX0_cycle_0 : decode cX0_cycle 0 = .ok (.iload_n 1, 1) := by decide +kernel
theorem dX0_cycle_1 : decode cX0_cycle 1 = .ok (.iload_n 2, 1) := by decide +kernel
theorem dX0_cycle_2 : decode cX0_cycle 2 = .ok (.iadd, 1) := by decide +kernel
theorem dX0_cycle_3 : decode cX0_cycle 3 = .ok (.istore 4, 2) := by decide +kernel
theorem dX0_cycle_5 : decode cX0_cycle 5 = .ok (.iload 4, 2) := by decide +kernel
theorem dX0_cycle_7 : decode cX0_cycle 7 = .ok (.iload_n 2, 1) := by decide +kernel
theorem dX0_cycle_8 : decode cX0_cycle 8 = .ok (.iadd, 1) := by decide +kernel
theorem dX0_cycle_9 : decode cX0_cycle 9 = .ok (.istore 5, 2) := by decide +kernel
theorem dX0_cycle_11 : decode cX0_cycle 11 = .ok (.iload_n 1, 1) := by decide +kernel
theorem dX0_cycle_12 : decode cX0_cycle 12 = .ok (.ifCond .lt 33, 3) := by decide +kernel
theorem dX0_cycle_15 : decode cX0_cycle 15 = .ok (.iload_n 1, 1) := by decide +kernel
theorem dX0_cycle_16 : decode cX0_cycle 16 = .ok (.aload_n 0, 1) := by decide +kernel
theorem dX0_cycle_17 : decode cX0_cycle 17 = .ok (.arraylength, 1) := by decide +kernel
theorem dX0_cycle_18 : decode cX0_cycle 18 = .ok (.if_icmp .ge 27, 3) := by decide +kernel
theorem dX0_cycle_21 : decode cX0_cycle 21 = .ok (.iload 4, 2) := by decide +kernel
theorem dX0_cycle_23 : decode cX0_cycle 23 = .ok (.ifCond .lt 22, 3) := by decide +kernel
theorem dX0_cycle_26 : decode cX0_cycle 26 = .ok (.iload 4, 2) := by decide +kernel
theorem dX0_cycle_28 : decode cX0_cycle 28 = .ok (.aload_n 0, 1) := by decide +kernel
theorem dX0_cycle_29 : decode cX0_cycle 29 = .ok (.arraylength, 1) := by decide +kernel
theorem dX0_cycle_30 : decode cX0_cycle 30 = .ok (.if_icmp .ge 15, 3) := by decide +kernel
theorem dX0_cycle_33 : decode cX0_cycle 33 = .ok (.iload 5, 2) := by decide +kernel
theorem dX0_cycle_35 : decode cX0_cycle 35 = .ok (.ifCond .lt 10, 3) := by decide +kernel
theorem dX0_cycle_38 : decode cX0_cycle 38 = .ok (.iload 5, 2) := by decide +kernel
theorem dX0_cycle_40 : decode cX0_cycle 40 = .ok (.aload_n 0, 1) := by decide +kernel
theorem dX0_cycle_41 : decode cX0_cycle 41 = .ok (.arraylength, 1) := by decide +kernel
theorem dX0_cycle_42 : decode cX0_cycle 42 = .ok (.if_icmp .lt 4, 3) := by decide +kernel
theorem dX0_cycle_45 : decode cX0_cycle 45 = .ok (.return_, 1) := by decide +kernel
theorem dX0_cycle_46 : decode cX0_cycle 46 = .ok (.iconst 0, 1) := by decide +kernel
theorem dX0_cycle_47 : decode cX0_cycle 47 = .ok (.istore 6, 2) := by decide +kernel
theorem dX0_cycle_49 : decode cX0_cycle 49 = .ok (.iload 6, 2) := by decide +kernel
theorem dX0_cycle_51 : decode cX0_cycle 51 = .ok (.iload_n 3, 1) := by decide +kernel
theorem dX0_cycle_52 : decode cX0_cycle 52 = .ok (.if_icmp .ge 35, 3) := by decide +kernel
theorem dX0_cycle_55 : decode cX0_cycle 55 = .ok (.aload_n 0, 1) := by decide +kernel
theorem dX0_cycle_56 : decode cX0_cycle 56 = .ok (.iload 5, 2) := by decide +kernel
theorem dX0_cycle_58 : decode cX0_cycle 58 = .ok (.iaload, 1) := by decide +kernel
theorem dX0_cycle_59 : decode cX0_cycle 59 = .ok (.istore 7, 2) := by decide +kernel
theorem dX0_cycle_61 : decode cX0_cycle 61 = .ok (.aload_n 0, 1) := by decide +kernel
theorem dX0_cycle_62 : decode cX0_cycle 62 = .ok (.iload 5, 2) := by decide +kernel
theorem dX0_cycle_64 : decode cX0_cycle 64 = .ok (.aload_n 0, 1) := by decide +kernel
theorem dX0_cycle_65 : decode cX0_cycle 65 = .ok (.iload 4, 2) := by decide +kernel
theorem dX0_cycle_67 : decode cX0_cycle 67 = .ok (.iaload, 1) := by decide +kernel
theorem dX0_cycle_68 : decode cX0_cycle 68 = .ok (.iastore, 1) := by decide +kernel
theorem dX0_cycle_69 : decode cX0_cycle 69 = .ok (.aload_n 0, 1) := by decide +kernel
theorem dX0_cycle_70 : decode cX0_cycle 70 = .ok (.iload 4, 2) := by decide +kernel
theorem dX0_cycle_72 : decode cX0_cycle 72 = .ok (.aload_n 0, 1) := by decide +kernel
theorem dX0_cycle_73 : decode cX0_cycle 73 = .ok (.iload_n 1, 1) := by decide +kernel
theorem dX0_cycle_74 : decode cX0_cycle 74 = .ok (.iaload, 1) := by decide +kernel
theorem dX0_cycle_75 : decode cX0_cycle 75 = .ok (.iastore, 1) := by decide +kernel
theorem dX0_cycle_76 : decode cX0_cycle 76 = .ok (.aload_n 0, 1) := by decide +kernel
theorem dX0_cycle_77 : decode cX0_cycle 77 = .ok (.iload_n 1, 1) := by decide +kernel
theorem dX0_cycle_78 : decode cX0_cycle 78 = .ok (.iload 7, 2) := by decide +kernel
theorem dX0_cycle_80 : decode cX0_cycle 80 = .ok (.iastore, 1) := by decide +kernel
theorem dX0_cycle_81 : decode cX0_cycle 81 = .ok (.iinc 6 1, 3) := by decide +kernel
theorem dX0_cycle_84 : decode cX0_cycle 84 = .ok (.goto (-35), 3) := by decide +kernel
theorem dX0_cycle_87 : decode cX0_cycle 87 = .ok (.return_, 1) := by decide +kernel
theorem dX0_moveShip_0 : decode cX0_moveShip 0 = .ok (.iconst 0, 1) := by decide +kernel
theorem dX0_moveShip_1 : decode cX0_moveShip 1 = .ok (.istore 4, 2) := by decide +kernel
theorem dX0_moveShip_3 : decode cX0_moveShip 3 = .ok (.iload 4, 2) := by decide +kernel
theorem dX0_moveShip_5 : decode cX0_moveShip 5 = .ok (.iconst 3, 1) := by decide +kernel
theorem dX0_moveShip_6 : decode cX0_moveShip 6 = .ok (.if_icmp .ge 37, 3) := by decide +kernel
theorem dX0_moveShip_9 : decode cX0_moveShip 9 = .ok (.aload_n 0, 1) := by decide +kernel
theorem dX0_moveShip_10 : decode cX0_moveShip 10 = .ok (.getfield 27, 3) := by decide +kernel
theorem dX0_moveShip_13 : decode cX0_moveShip 13 = .ok (.iload_n 1, 1) := by decide +kernel
theorem dX0_moveShip_14 : decode cX0_moveShip 14 = .ok (.iload 4, 2) := by decide +kernel
theorem dX0_moveShip_16 : decode cX0_moveShip 16 = .ok (.iload_n 2, 1) := by decide +kernel
theorem dX0_moveShip_17 : decode cX0_moveShip 17 = .ok (.imul, 1) := by decide +kernel
theorem dX0_moveShip_18 : decode cX0_moveShip 18 = .ok (.iadd, 1) := by decide +kernel
theorem dX0_moveShip_19 : decode cX0_moveShip 19 = .ok (.if_icmp .ne 18, 3) := by decide +kernel
theorem dX0_moveShip_22 : decode cX0_moveShip 22 = .ok (.aload_n 0, 1) := by decide +kernel
theorem dX0_moveShip_23 : decode cX0_moveShip 23 = .ok (.iload_n 1, 1) := by decide +kernel
theorem dX0_moveShip_24 : decode cX0_moveShip 24 = .ok (.iload 4, 2) := by decide +kernel
theorem dX0_moveShip_26 : decode cX0_moveShip 26 = .ok (.iload_n 3, 1) := by decide +kernel
theorem dX0_moveShip_27 : decode cX0_moveShip 27 = .ok (.iadd, 1) := by decide +kernel
theorem dX0_moveShip_28 : decode cX0_moveShip 28 = .ok (.iconst 3, 1) := by decide +kernel
theorem dX0_moveShip_29 : decode cX0_moveShip 29 = .ok (.irem, 1) := by decide +kernel
theorem dX0_moveShip_30 : decode cX0_moveShip 30 = .ok (.iload_n 2, 1) := by decide +kernel
theorem dX0_moveShip_31 : decode cX0_moveShip 31 = .ok (.imul, 1) := by decide +kernel
theorem dX0_moveShip_32 : decode cX0_moveShip 32 = .ok (.iadd, 1) := by decide +kernel
theorem dX0_moveShip_33 : decode cX0_moveShip 33 = .ok (.putfield 27, 3) := by decide +kernel
theorem dX0_moveShip_36 : decode cX0_moveShip 36 = .ok (.return_, 1) := by decide +kernel
theorem dX0_moveShip_37 : decode cX0_moveShip 37 = .ok (.iinc 4 1, 3) := by decide +kernel
theorem dX0_moveShip_40 : decode cX0_moveShip 40 = .ok (.goto (-37), 3) := by decide +kernel
theorem dX0_moveShip_43 : decode cX0_moveShip 43 = .ok (.return_, 1) := by decide +kernel
set_option maxRecDepth 20000 in
theorem ggX0_reach_X0_openAcross : GoodIn wsX0_reach wsX0_openAcross := goodIn_r _ [6, 7, 15, 16, 17, 18, 19, 20, 21, 22] (by decide +kernel) (by decide +kernel)
set_option maxRecDepth 20000 in
theorem gX0_reach_X0_openAcross : GoodIn wsX0_reach (wsV RX0 75 RX0 yX0_openAcross wsX0_openAcross) := goodIn_app (goodIn_of _ (by decide +kernel)) ggX0_reach_X0_openAcross
set_option maxRecDepth 20000 in
theorem ggX0_reach_X0_openDown : GoodIn wsX0_reach wsX0_openDown := goodIn_r _ [11, 7, 15, 16, 17, 18, 19, 20, 21, 22] (by decide +kernel) (by decide +kernel)
set_option maxRecDepth 20000 in
theorem gX0_reach_X0_openDown : GoodIn wsX0_reach (wsV RX0 78 RX0 yX0_openDown wsX0_openDown) := goodIn_app (goodIn_of _ (by decide +kernel)) ggX0_reach_X0_openDown
set_option maxRecDepth 20000 in
theorem ggX0_reach_X0_widened : GoodIn wsX0_reach wsX0_widened := goodIn_r _ [14] (by decide +kernel) (by decide +kernel)
set_option maxRecDepth 20000 in
theorem gX0_reach_X0_widened : GoodIn wsX0_reach (va_wsS RX0 81 yX0_widened wsX0_widened) := goodIn_app (goodIn_of _ (by decide +kernel)) ggX0_reach_X0_widened
theorem dX0_reach_0 : decode cX0_reach 0 = .ok (.aload_n 0, 1) := by decide +kernel
theorem dX0_reach_1 : decode cX0_reach 1 = .ok (.invokevirtual 75, 3) := by decide +kernel
theorem dX0_reach_4 : decode cX0_reach 4 = .ok (.istore_n 2, 1) := by decide +kernel
theorem dX0_reach_5 : decode cX0_reach 5 = .ok (.aload_n 0, 1) := by decide +kernel
theorem dX0_reach_6 : decode cX0_reach 6 = .ok (.invokevirtual 78, 3) := by decide +kernel
theorem dX0_reach_9 : decode cX0_reach 9 = .ok (.istore_n 3, 1) := by decide +kernel
theorem dX0_reach_10 : decode cX0_reach 10 = .ok (.iconst 1, 1) := by decide +kernel
theorem dX0_reach_11 : decode cX0_reach 11 = .ok (.aload_n 0, 1) := by decide +kernel
theorem dX0_reach_12 : decode cX0_reach 12 = .ok (.getfield 27, 3) := by decide +kernel
theorem dX0_reach_15 : decode cX0_reach 15 = .ok (.ishl, 1) := by decide +kernel
theorem dX0_reach_16 : decode cX0_reach 16 = .ok (.istore 4, 2) := by decide +kernel
theorem dX0_reach_18 : decode cX0_reach 18 = .ok (.iconst 0, 1) := by decide +kernel
theorem dX0_reach_19 : decode cX0_reach 19 = .ok (.istore 5, 2) := by decide +kernel
theorem dX0_reach_21 : decode cX0_reach 21 = .ok (.iload 5, 2) := by decide +kernel
theorem dX0_reach_23 : decode cX0_reach 23 = .ok (.iload_n 1, 1) := by decide +kernel
theorem dX0_reach_24 : decode cX0_reach 24 = .ok (.if_icmp .ge 18, 3) := by decide +kernel
theorem dX0_reach_27 : decode cX0_reach 27 = .ok (.iload 4, 2) := by decide +kernel
theorem dX0_reach_29 : decode cX0_reach 29 = .ok (.iload_n 2, 1) := by decide +kernel
theorem dX0_reach_30 : decode cX0_reach 30 = .ok (.iload_n 3, 1) := by decide +kernel
theorem dX0_reach_31 : decode cX0_reach 31 = .ok (.invokestatic 81, 3) := by decide +kernel
theorem dX0_reach_34 : decode cX0_reach 34 = .ok (.istore 4, 2) := by decide +kernel
theorem dX0_reach_36 : decode cX0_reach 36 = .ok (.iinc 5 1, 3) := by decide +kernel
theorem dX0_reach_39 : decode cX0_reach 39 = .ok (.goto (-18), 3) := by decide +kernel
theorem dX0_reach_42 : decode cX0_reach 42 = .ok (.iload 4, 2) := by decide +kernel
theorem dX0_reach_44 : decode cX0_reach 44 = .ok (.ireturn, 1) := by decide +kernel
set_option maxRecDepth 20000 in
theorem ggX0_stepsTo_X0_openAcross : GoodIn wsX0_stepsTo wsX0_openAcross := goodIn_r _ [6, 7, 21, 22, 23, 24, 25, 26, 27, 28] (by decide +kernel) (by decide +kernel)
set_option maxRecDepth 20000 in
theorem gX0_stepsTo_X0_openAcross : GoodIn wsX0_stepsTo (wsV RX0 75 RX0 yX0_openAcross wsX0_openAcross) := goodIn_app (goodIn_of _ (by decide +kernel)) ggX0_stepsTo_X0_openAcross
set_option maxRecDepth 20000 in
theorem ggX0_stepsTo_X0_openDown : GoodIn wsX0_stepsTo wsX0_openDown := goodIn_r _ [11, 7, 21, 22, 23, 24, 25, 26, 27, 28] (by decide +kernel) (by decide +kernel)
set_option maxRecDepth 20000 in
theorem gX0_stepsTo_X0_openDown : GoodIn wsX0_stepsTo (wsV RX0 78 RX0 yX0_openDown wsX0_openDown) := goodIn_app (goodIn_of _ (by decide +kernel)) ggX0_stepsTo_X0_openDown
set_option maxRecDepth 20000 in
theorem ggX0_stepsTo_X6_isIn : GoodIn wsX0_stepsTo wsX6_isIn := goodIn_r _ [14, 15, 16, 13, 17] (by decide +kernel) (by decide +kernel)
set_option maxRecDepth 20000 in
theorem gX0_stepsTo_X6_isIn_n85 : GoodIn wsX0_stepsTo (wsX6_isIn) := ggX0_stepsTo_X6_isIn
set_option maxRecDepth 20000 in
theorem ggX0_stepsTo_X0_widened : GoodIn wsX0_stepsTo wsX0_widened := goodIn_r _ [20] (by decide +kernel) (by decide +kernel)
set_option maxRecDepth 20000 in
theorem gX0_stepsTo_X0_widened : GoodIn wsX0_stepsTo (va_wsS RX0 81 yX0_widened wsX0_widened) := goodIn_app (goodIn_of _ (by decide +kernel)) ggX0_stepsTo_X0_widened
theorem dX0_stepsTo_0 : decode cX0_stepsTo 0 = .ok (.aload_n 0, 1) := by decide +kernel
theorem dX0_stepsTo_1 : decode cX0_stepsTo 1 = .ok (.invokevirtual 75, 3) := by decide +kernel
theorem dX0_stepsTo_4 : decode cX0_stepsTo 4 = .ok (.istore_n 2, 1) := by decide +kernel
theorem dX0_stepsTo_5 : decode cX0_stepsTo 5 = .ok (.aload_n 0, 1) := by decide +kernel
theorem dX0_stepsTo_6 : decode cX0_stepsTo 6 = .ok (.invokevirtual 78, 3) := by decide +kernel
theorem dX0_stepsTo_9 : decode cX0_stepsTo 9 = .ok (.istore_n 3, 1) := by decide +kernel
theorem dX0_stepsTo_10 : decode cX0_stepsTo 10 = .ok (.iconst 1, 1) := by decide +kernel
theorem dX0_stepsTo_11 : decode cX0_stepsTo 11 = .ok (.aload_n 0, 1) := by decide +kernel
theorem dX0_stepsTo_12 : decode cX0_stepsTo 12 = .ok (.getfield 27, 3) := by decide +kernel
theorem dX0_stepsTo_15 : decode cX0_stepsTo 15 = .ok (.ishl, 1) := by decide +kernel
theorem dX0_stepsTo_16 : decode cX0_stepsTo 16 = .ok (.istore 4, 2) := by decide +kernel
theorem dX0_stepsTo_18 : decode cX0_stepsTo 18 = .ok (.iconst 0, 1) := by decide +kernel
theorem dX0_stepsTo_19 : decode cX0_stepsTo 19 = .ok (.istore 5, 2) := by decide +kernel
theorem dX0_stepsTo_21 : decode cX0_stepsTo 21 = .ok (.iload 5, 2) := by decide +kernel
theorem dX0_stepsTo_23 : decode cX0_stepsTo 23 = .ok (.bipush 9, 2) := by decide +kernel
theorem dX0_stepsTo_25 : decode cX0_stepsTo 25 = .ok (.if_icmp .ge 30, 3) := by decide +kernel
theorem dX0_stepsTo_28 : decode cX0_stepsTo 28 = .ok (.iload 4, 2) := by decide +kernel
theorem dX0_stepsTo_30 : decode cX0_stepsTo 30 = .ok (.iload_n 1, 1) := by decide +kernel
theorem dX0_stepsTo_31 : decode cX0_stepsTo 31 = .ok (.invokestatic 85, 3) := by decide +kernel
theorem dX0_stepsTo_34 : decode cX0_stepsTo 34 = .ok (.ifCond .eq 6, 3) := by decide +kernel
theorem dX0_stepsTo_37 : decode cX0_stepsTo 37 = .ok (.iload 5, 2) := by decide +kernel
theorem dX0_stepsTo_39 : decode cX0_stepsTo 39 = .ok (.ireturn, 1) := by decide +kernel
theorem dX0_stepsTo_40 : decode cX0_stepsTo 40 = .ok (.iload 4, 2) := by decide +kernel
theorem dX0_stepsTo_42 : decode cX0_stepsTo 42 = .ok (.iload_n 2, 1) := by decide +kernel
theorem dX0_stepsTo_43 : decode cX0_stepsTo 43 = .ok (.iload_n 3, 1) := by decide +kernel
theorem dX0_stepsTo_44 : decode cX0_stepsTo 44 = .ok (.invokestatic 81, 3) := by decide +kernel
theorem dX0_stepsTo_47 : decode cX0_stepsTo 47 = .ok (.istore 4, 2) := by decide +kernel
theorem dX0_stepsTo_49 : decode cX0_stepsTo 49 = .ok (.iinc 5 1, 3) := by decide +kernel
theorem dX0_stepsTo_52 : decode cX0_stepsTo 52 = .ok (.goto (-31), 3) := by decide +kernel
theorem dX0_stepsTo_55 : decode cX0_stepsTo 55 = .ok (.iconst (-1), 1) := by decide +kernel
theorem dX0_stepsTo_56 : decode cX0_stepsTo 56 = .ok (.ireturn, 1) := by decide +kernel
theorem dX0_widened_0 : decode cX0_widened 0 = .ok (.iload_n 0, 1) := by decide +kernel
theorem dX0_widened_1 : decode cX0_widened 1 = .ok (.iload_n 1, 1) := by decide +kernel
theorem dX0_widened_2 : decode cX0_widened 2 = .ok (.iand, 1) := by decide +kernel
theorem dX0_widened_3 : decode cX0_widened 3 = .ok (.iconst 1, 1) := by decide +kernel
theorem dX0_widened_4 : decode cX0_widened 4 = .ok (.ishl, 1) := by decide +kernel
theorem dX0_widened_5 : decode cX0_widened 5 = .ok (.iload_n 0, 1) := by decide +kernel
theorem dX0_widened_6 : decode cX0_widened 6 = .ok (.iconst 1, 1) := by decide +kernel
theorem dX0_widened_7 : decode cX0_widened 7 = .ok (.ishr, 1) := by decide +kernel
theorem dX0_widened_8 : decode cX0_widened 8 = .ok (.iload_n 1, 1) := by decide +kernel
theorem dX0_widened_9 : decode cX0_widened 9 = .ok (.iand, 1) := by decide +kernel
theorem dX0_widened_10 : decode cX0_widened 10 = .ok (.ior, 1) := by decide +kernel
theorem dX0_widened_11 : decode cX0_widened 11 = .ok (.istore_n 3, 1) := by decide +kernel
theorem dX0_widened_12 : decode cX0_widened 12 = .ok (.iload_n 0, 1) := by decide +kernel
theorem dX0_widened_13 : decode cX0_widened 13 = .ok (.iload_n 2, 1) := by decide +kernel
theorem dX0_widened_14 : decode cX0_widened 14 = .ok (.iand, 1) := by decide +kernel
theorem dX0_widened_15 : decode cX0_widened 15 = .ok (.iconst 3, 1) := by decide +kernel
theorem dX0_widened_16 : decode cX0_widened 16 = .ok (.ishl, 1) := by decide +kernel
theorem dX0_widened_17 : decode cX0_widened 17 = .ok (.iload_n 0, 1) := by decide +kernel
theorem dX0_widened_18 : decode cX0_widened 18 = .ok (.iconst 3, 1) := by decide +kernel
theorem dX0_widened_19 : decode cX0_widened 19 = .ok (.ishr, 1) := by decide +kernel
theorem dX0_widened_20 : decode cX0_widened 20 = .ok (.iload_n 2, 1) := by decide +kernel
theorem dX0_widened_21 : decode cX0_widened 21 = .ok (.iand, 1) := by decide +kernel
theorem dX0_widened_22 : decode cX0_widened 22 = .ok (.ior, 1) := by decide +kernel
theorem dX0_widened_23 : decode cX0_widened 23 = .ok (.istore 4, 2) := by decide +kernel
theorem dX0_widened_25 : decode cX0_widened 25 = .ok (.iload_n 0, 1) := by decide +kernel
theorem dX0_widened_26 : decode cX0_widened 26 = .ok (.iload_n 3, 1) := by decide +kernel
theorem dX0_widened_27 : decode cX0_widened 27 = .ok (.ior, 1) := by decide +kernel
theorem dX0_widened_28 : decode cX0_widened 28 = .ok (.iload 4, 2) := by decide +kernel
theorem dX0_widened_30 : decode cX0_widened 30 = .ok (.ior, 1) := by decide +kernel
theorem dX0_widened_31 : decode cX0_widened 31 = .ok (.ireturn, 1) := by decide +kernel
theorem dX0_openAcross_0 : decode cX0_openAcross 0 = .ok (.iconst 0, 1) := by decide +kernel
theorem dX0_openAcross_1 : decode cX0_openAcross 1 = .ok (.istore_n 1, 1) := by decide +kernel
theorem dX0_openAcross_2 : decode cX0_openAcross 2 = .ok (.iconst 0, 1) := by decide +kernel
theorem dX0_openAcross_3 : decode cX0_openAcross 3 = .ok (.istore_n 2, 1) := by decide +kernel
theorem dX0_openAcross_4 : decode cX0_openAcross 4 = .ok (.iload_n 2, 1) := by decide +kernel
theorem dX0_openAcross_5 : decode cX0_openAcross 5 = .ok (.iconst 1, 1) := by decide +kernel
theorem dX0_openAcross_6 : decode cX0_openAcross 6 = .ok (.iadd, 1) := by decide +kernel
theorem dX0_openAcross_7 : decode cX0_openAcross 7 = .ok (.bipush 9, 2) := by decide +kernel
theorem dX0_openAcross_9 : decode cX0_openAcross 9 = .ok (.if_icmp .ge 47, 3) := by decide +kernel
theorem dX0_openAcross_12 : decode cX0_openAcross 12 = .ok (.iload_n 2, 1) := by decide +kernel
theorem dX0_openAcross_13 : decode cX0_openAcross 13 = .ok (.iconst 3, 1) := by decide +kernel
theorem dX0_openAcross_14 : decode cX0_openAcross 14 = .ok (.irem, 1) := by decide +kernel
theorem dX0_openAcross_15 : decode cX0_openAcross 15 = .ok (.iconst 2, 1) := by decide +kernel
theorem dX0_openAcross_16 : decode cX0_openAcross 16 = .ok (.if_icmp .ge 34, 3) := by decide +kernel
theorem dX0_openAcross_19 : decode cX0_openAcross 19 = .ok (.aload_n 0, 1) := by decide +kernel
theorem dX0_openAcross_20 : decode cX0_openAcross 20 = .ok (.getfield 9, 3) := by decide +kernel
theorem dX0_openAcross_23 : decode cX0_openAcross 23 = .ok (.iload_n 2, 1) := by decide +kernel
theorem dX0_openAcross_24 : decode cX0_openAcross 24 = .ok (.iaload, 1) := by decide +kernel
theorem dX0_openAcross_25 : decode cX0_openAcross 25 = .ok (.iconst 2, 1) := by decide +kernel
theorem dX0_openAcross_26 : decode cX0_openAcross 26 = .ok (.iand, 1) := by decide +kernel
theorem dX0_openAcross_27 : decode cX0_openAcross 27 = .ok (.ifCond .eq 23, 3) := by decide +kernel
theorem dX0_openAcross_30 : decode cX0_openAcross 30 = .ok (.aload_n 0, 1) := by decide +kernel
theorem dX0_openAcross_31 : decode cX0_openAcross 31 = .ok (.getfield 9, 3) := by decide +kernel
theorem dX0_openAcross_34 : decode cX0_openAcross 34 = .ok (.iload_n 2, 1) := by decide +kernel
theorem dX0_openAcross_35 : decode cX0_openAcross 35 = .ok (.iconst 1, 1) := by decide +kernel
theorem dX0_openAcross_36 : decode cX0_openAcross 36 = .ok (.iadd, 1) := by decide +kernel
theorem dX0_openAcross_37 : decode cX0_openAcross 37 = .ok (.iaload, 1) := by decide +kernel
theorem dX0_openAcross_38 : decode cX0_openAcross 38 = .ok (.bipush 8, 2) := by decide +kernel
theorem dX0_openAcross_40 : decode cX0_openAcross 40 = .ok (.iand, 1) := by decide +kernel
theorem dX0_openAcross_41 : decode cX0_openAcross 41 = .ok (.ifCond .eq 9, 3) := by decide +kernel
theorem dX0_openAcross_44 : decode cX0_openAcross 44 = .ok (.iload_n 1, 1) := by decide +kernel
theorem dX0_openAcross_45 : decode cX0_openAcross 45 = .ok (.iconst 1, 1) := by decide +kernel
theorem dX0_openAcross_46 : decode cX0_openAcross 46 = .ok (.iload_n 2, 1) := by decide +kernel
theorem dX0_openAcross_47 : decode cX0_openAcross 47 = .ok (.ishl, 1) := by decide +kernel
theorem dX0_openAcross_48 : decode cX0_openAcross 48 = .ok (.ior, 1) := by decide +kernel
theorem dX0_openAcross_49 : decode cX0_openAcross 49 = .ok (.istore_n 1, 1) := by decide +kernel
theorem dX0_openAcross_50 : decode cX0_openAcross 50 = .ok (.iinc 2 1, 3) := by decide +kernel
theorem dX0_openAcross_53 : decode cX0_openAcross 53 = .ok (.goto (-49), 3) := by decide +kernel
theorem dX0_openAcross_56 : decode cX0_openAcross 56 = .ok (.iload_n 1, 1) := by decide +kernel
theorem dX0_openAcross_57 : decode cX0_openAcross 57 = .ok (.ireturn, 1) := by decide +kernel
theorem dX0_openDown_0 : decode cX0_openDown 0 = .ok (.iconst 0, 1) := by decide +kernel
theorem dX0_openDown_1 : decode cX0_openDown 1 = .ok (.istore_n 1, 1) := by decide +kernel
theorem dX0_openDown_2 : decode cX0_openDown 2 = .ok (.iconst 0, 1) := by decide +kernel
theorem dX0_openDown_3 : decode cX0_openDown 3 = .ok (.istore_n 2, 1) := by decide +kernel
theorem dX0_openDown_4 : decode cX0_openDown 4 = .ok (.iload_n 2, 1) := by decide +kernel
theorem dX0_openDown_5 : decode cX0_openDown 5 = .ok (.iconst 3, 1) := by decide +kernel
theorem dX0_openDown_6 : decode cX0_openDown 6 = .ok (.iadd, 1) := by decide +kernel
theorem dX0_openDown_7 : decode cX0_openDown 7 = .ok (.bipush 9, 2) := by decide +kernel
theorem dX0_openDown_9 : decode cX0_openDown 9 = .ok (.if_icmp .ge 39, 3) := by decide +kernel
theorem dX0_openDown_12 : decode cX0_openDown 12 = .ok (.aload_n 0, 1) := by decide +kernel
theorem dX0_openDown_13 : decode cX0_openDown 13 = .ok (.getfield 9, 3) := by decide +kernel
theorem dX0_openDown_16 : decode cX0_openDown 16 = .ok (.iload_n 2, 1) := by decide +kernel
theorem dX0_openDown_17 : decode cX0_openDown 17 = .ok (.iaload, 1) := by decide +kernel
theorem dX0_openDown_18 : decode cX0_openDown 18 = .ok (.iconst 4, 1) := by decide +kernel
theorem dX0_openDown_19 : decode cX0_openDown 19 = .ok (.iand, 1) := by decide +kernel
theorem dX0_openDown_20 : decode cX0_openDown 20 = .ok (.ifCond .eq 22, 3) := by decide +kernel
theorem dX0_openDown_23 : decode cX0_openDown 23 = .ok (.aload_n 0, 1) := by decide +kernel
theorem dX0_openDown_24 : decode cX0_openDown 24 = .ok (.getfield 9, 3) := by decide +kernel
theorem dX0_openDown_27 : decode cX0_openDown 27 = .ok (.iload_n 2, 1) := by decide +kernel
theorem dX0_openDown_28 : decode cX0_openDown 28 = .ok (.iconst 3, 1) := by decide +kernel
theorem dX0_openDown_29 : decode cX0_openDown 29 = .ok (.iadd, 1) := by decide +kernel
theorem dX0_openDown_30 : decode cX0_openDown 30 = .ok (.iaload, 1) := by decide +kernel
theorem dX0_openDown_31 : decode cX0_openDown 31 = .ok (.iconst 1, 1) := by decide +kernel
theorem dX0_openDown_32 : decode cX0_openDown 32 = .ok (.iand, 1) := by decide +kernel
theorem dX0_openDown_33 : decode cX0_openDown 33 = .ok (.ifCond .eq 9, 3) := by decide +kernel
theorem dX0_openDown_36 : decode cX0_openDown 36 = .ok (.iload_n 1, 1) := by decide +kernel
theorem dX0_openDown_37 : decode cX0_openDown 37 = .ok (.iconst 1, 1) := by decide +kernel
theorem dX0_openDown_38 : decode cX0_openDown 38 = .ok (.iload_n 2, 1) := by decide +kernel
theorem dX0_openDown_39 : decode cX0_openDown 39 = .ok (.ishl, 1) := by decide +kernel
theorem dX0_openDown_40 : decode cX0_openDown 40 = .ok (.ior, 1) := by decide +kernel
theorem dX0_openDown_41 : decode cX0_openDown 41 = .ok (.istore_n 1, 1) := by decide +kernel
theorem dX0_openDown_42 : decode cX0_openDown 42 = .ok (.iinc 2 1, 3) := by decide +kernel
theorem dX0_openDown_45 : decode cX0_openDown 45 = .ok (.goto (-41), 3) := by decide +kernel
theorem dX0_openDown_48 : decode cX0_openDown 48 = .ok (.iload_n 1, 1) := by decide +kernel
theorem dX0_openDown_49 : decode cX0_openDown 49 = .ok (.ireturn, 1) := by decide +kernel
set_option maxRecDepth 20000 in
theorem ggX0_landOn_X6_isPlace : GoodIn wsX0_landOn wsX6_isPlace := goodIn_r _ [6] (by decide +kernel) (by decide +kernel)
set_option maxRecDepth 20000 in
theorem gX0_landOn_X6_isPlace_n56 : GoodIn wsX0_landOn (wsX6_isPlace) := ggX0_landOn_X6_isPlace
set_option maxRecDepth 20000 in
theorem ggX0_landOn_X0_sought : GoodIn wsX0_landOn wsX0_sought := goodIn_r _ [11, 3, 12, 13, 14, 15, 16, 17, 18, 19, 20] (by decide +kernel) (by decide +kernel)
set_option maxRecDepth 20000 in
theorem gX0_landOn_X0_sought : GoodIn wsX0_landOn (wsV RX0 60 RX0 yX0_sought wsX0_sought) := goodIn_app (goodIn_of _ (by decide +kernel)) ggX0_landOn_X0_sought
theorem dX0_landOn_0 : decode cX0_landOn 0 = .ok (.iload_n 1, 1) := by decide +kernel
theorem dX0_landOn_1 : decode cX0_landOn 1 = .ok (.invokestatic 56, 3) := by decide +kernel
theorem dX0_landOn_4 : decode cX0_landOn 4 = .ok (.ifCond .ne 5, 3) := by decide +kernel
theorem dX0_landOn_7 : decode cX0_landOn 7 = .ok (.iconst 0, 1) := by decide +kernel
theorem dX0_landOn_8 : decode cX0_landOn 8 = .ok (.ireturn, 1) := by decide +kernel
theorem dX0_landOn_9 : decode cX0_landOn 9 = .ok (.aload_n 0, 1) := by decide +kernel
theorem dX0_landOn_10 : decode cX0_landOn 10 = .ok (.iload_n 1, 1) := by decide +kernel
theorem dX0_landOn_11 : decode cX0_landOn 11 = .ok (.putfield 27, 3) := by decide +kernel
theorem dX0_landOn_14 : decode cX0_landOn 14 = .ok (.aload_n 0, 1) := by decide +kernel
theorem dX0_landOn_15 : decode cX0_landOn 15 = .ok (.getfield 15, 3) := by decide +kernel
theorem dX0_landOn_18 : decode cX0_landOn 18 = .ok (.iload_n 1, 1) := by decide +kernel
theorem dX0_landOn_19 : decode cX0_landOn 19 = .ok (.iaload, 1) := by decide +kernel
theorem dX0_landOn_20 : decode cX0_landOn 20 = .ok (.istore_n 2, 1) := by decide +kernel
theorem dX0_landOn_21 : decode cX0_landOn 21 = .ok (.iload_n 2, 1) := by decide +kernel
theorem dX0_landOn_22 : decode cX0_landOn 22 = .ok (.ifCond .eq 11, 3) := by decide +kernel
theorem dX0_landOn_25 : decode cX0_landOn 25 = .ok (.iload_n 2, 1) := by decide +kernel
theorem dX0_landOn_26 : decode cX0_landOn 26 = .ok (.aload_n 0, 1) := by decide +kernel
theorem dX0_landOn_27 : decode cX0_landOn 27 = .ok (.invokevirtual 60, 3) := by decide +kernel
theorem dX0_landOn_30 : decode cX0_landOn 30 = .ok (.if_icmp .eq 5, 3) := by decide +kernel
theorem dX0_landOn_33 : decode cX0_landOn 33 = .ok (.iconst 0, 1) := by decide +kernel
theorem dX0_landOn_34 : decode cX0_landOn 34 = .ok (.ireturn, 1) := by decide +kernel
theorem dX0_landOn_35 : decode cX0_landOn 35 = .ok (.aload_n 0, 1) := by decide +kernel
theorem dX0_landOn_36 : decode cX0_landOn 36 = .ok (.getfield 15, 3) := by decide +kernel
theorem dX0_landOn_39 : decode cX0_landOn 39 = .ok (.iload_n 1, 1) := by decide +kernel
theorem dX0_landOn_40 : decode cX0_landOn 40 = .ok (.iconst 0, 1) := by decide +kernel
theorem dX0_landOn_41 : decode cX0_landOn 41 = .ok (.iastore, 1) := by decide +kernel
theorem dX0_landOn_42 : decode cX0_landOn 42 = .ok (.aload_n 0, 1) := by decide +kernel
theorem dX0_landOn_43 : decode cX0_landOn 43 = .ok (.dup, 1) := by decide +kernel
theorem dX0_landOn_44 : decode cX0_landOn 44 = .ok (.getfield 31, 3) := by decide +kernel
theorem dX0_landOn_47 : decode cX0_landOn 47 = .ok (.iconst 1, 1) := by decide +kernel
theorem dX0_landOn_48 : decode cX0_landOn 48 = .ok (.iadd, 1) := by decide +kernel
theorem dX0_landOn_49 : decode cX0_landOn 49 = .ok (.putfield 31, 3) := by decide +kernel
theorem dX0_landOn_52 : decode cX0_landOn 52 = .ok (.iload_n 2, 1) := by decide +kernel
theorem dX0_landOn_53 : decode cX0_landOn 53 = .ok (.ireturn, 1) := by decide +kernel
theorem dX1_init_0 : decode cX1_init 0 = .ok (.aload_n 0, 1) := by decide +kernel
theorem dX1_init_1 : decode cX1_init 1 = .ok (.invokespecial 1, 3) := by decide +kernel
theorem dX1_init_4 : decode cX1_init 4 = .ok (.return_, 1) := by decide +kernel
theorem dX1_startWith_0 : decode cX1_startWith 0 = .ok (.aload_n 0, 1) := by decide +kernel
theorem dX1_startWith_1 : decode cX1_startWith 1 = .ok (.lload_n 1, 1) := by decide +kernel
theorem dX1_startWith_2 : decode cX1_startWith 2 = .ok (.putfield 7, 3) := by decide +kernel
theorem dX1_startWith_5 : decode cX1_startWith 5 = .ok (.return_, 1) := by decide +kernel
theorem dX1_next_0 : decode cX1_next 0 = .ok (.aload_n 0, 1) := by decide +kernel
theorem dX1_next_1 : decode cX1_next 1 = .ok (.aload_n 0, 1) := by decide +kernel
theorem dX1_next_2 : decode cX1_next 2 = .ok (.getfield 7, 3) := by decide +kernel
theorem dX1_next_5 : decode cX1_next 5 = .ok (.ldc2_w 13, 3) := by decide +kernel
theorem dX1_next_8 : decode cX1_next 8 = .ok (.lmul, 1) := by decide +kernel
theorem dX1_next_9 : decode cX1_next 9 = .ok (.ldc2_w 15, 3) := by decide +kernel
theorem dX1_next_12 : decode cX1_next 12 = .ok (.ladd, 1) := by decide +kernel
theorem dX1_next_13 : decode cX1_next 13 = .ok (.putfield 7, 3) := by decide +kernel
theorem dX1_next_16 : decode cX1_next 16 = .ok (.aload_n 0, 1) := by decide +kernel
theorem dX1_next_17 : decode cX1_next 17 = .ok (.getfield 7, 3) := by decide +kernel
theorem dX1_next_20 : decode cX1_next 20 = .ok (.bipush 33, 2) := by decide +kernel
theorem dX1_next_22 : decode cX1_next 22 = .ok (.lushr, 1) := by decide +kernel
theorem dX1_next_23 : decode cX1_next 23 = .ok (.l2i, 1) := by decide +kernel
theorem dX1_next_24 : decode cX1_next 24 = .ok (.ireturn, 1) := by decide +kernel
set_option maxRecDepth 20000 in
theorem ggX1_below_X1_next : GoodIn wsX1_below wsX1_next := goodIn_r _ [5, 6, 7, 8, 9] (by decide +kernel) (by decide +kernel)
set_option maxRecDepth 20000 in
theorem gX1_below_X1_next : GoodIn wsX1_below (wsV RX1 17 RX1 yX1_next wsX1_next) := goodIn_app (goodIn_of _ (by decide +kernel)) ggX1_below_X1_next
theorem dX1_below_0 : decode cX1_below 0 = .ok (.aload_n 0, 1) := by decide +kernel
theorem dX1_below_1 : decode cX1_below 1 = .ok (.invokevirtual 17, 3) := by decide +kernel
theorem dX1_below_4 : decode cX1_below 4 = .ok (.istore_n 2, 1) := by decide +kernel
theorem dX1_below_5 : decode cX1_below 5 = .ok (.iload_n 1, 1) := by decide +kernel
theorem dX1_below_6 : decode cX1_below 6 = .ok (.ifCond .le 9, 3) := by decide +kernel
theorem dX1_below_9 : decode cX1_below 9 = .ok (.iload_n 2, 1) := by decide +kernel
theorem dX1_below_10 : decode cX1_below 10 = .ok (.iload_n 1, 1) := by decide +kernel
theorem dX1_below_11 : decode cX1_below 11 = .ok (.irem, 1) := by decide +kernel
theorem dX1_below_12 : decode cX1_below 12 = .ok (.goto 4, 3) := by decide +kernel
theorem dX1_below_15 : decode cX1_below 15 = .ok (.iconst 0, 1) := by decide +kernel
theorem dX1_below_16 : decode cX1_below 16 = .ok (.ireturn, 1) := by decide +kernel
theorem dJ6_bitCount_0f7a4_0 : decode cJ6_bitCount_0f7a4 0 = .ok (.iload_n 0, 1) := by decide +kernel
theorem dJ6_bitCount_0f7a4_1 : decode cJ6_bitCount_0f7a4 1 = .ok (.iload_n 0, 1) := by decide +kernel
theorem dJ6_bitCount_0f7a4_2 : decode cJ6_bitCount_0f7a4 2 = .ok (.iconst 1, 1) := by decide +kernel
theorem dJ6_bitCount_0f7a4_3 : decode cJ6_bitCount_0f7a4 3 = .ok (.iushr, 1) := by decide +kernel
theorem dJ6_bitCount_0f7a4_4 : decode cJ6_bitCount_0f7a4 4 = .ok (.ldc_w 265, 3) := by decide +kernel
theorem dJ6_bitCount_0f7a4_7 : decode cJ6_bitCount_0f7a4 7 = .ok (.iand, 1) := by decide +kernel
theorem dJ6_bitCount_0f7a4_8 : decode cJ6_bitCount_0f7a4 8 = .ok (.isub, 1) := by decide +kernel
theorem dJ6_bitCount_0f7a4_9 : decode cJ6_bitCount_0f7a4 9 = .ok (.istore_n 0, 1) := by decide +kernel
theorem dJ6_bitCount_0f7a4_10 : decode cJ6_bitCount_0f7a4 10 = .ok (.iload_n 0, 1) := by decide +kernel
theorem dJ6_bitCount_0f7a4_11 : decode cJ6_bitCount_0f7a4 11 = .ok (.ldc_w 266, 3) := by decide +kernel
theorem dJ6_bitCount_0f7a4_14 : decode cJ6_bitCount_0f7a4 14 = .ok (.iand, 1) := by decide +kernel
theorem dJ6_bitCount_0f7a4_15 : decode cJ6_bitCount_0f7a4 15 = .ok (.iload_n 0, 1) := by decide +kernel
theorem dJ6_bitCount_0f7a4_16 : decode cJ6_bitCount_0f7a4 16 = .ok (.iconst 2, 1) := by decide +kernel
theorem dJ6_bitCount_0f7a4_17 : decode cJ6_bitCount_0f7a4 17 = .ok (.iushr, 1) := by decide +kernel
theorem dJ6_bitCount_0f7a4_18 : decode cJ6_bitCount_0f7a4 18 = .ok (.ldc_w 266, 3) := by decide +kernel
theorem dJ6_bitCount_0f7a4_21 : decode cJ6_bitCount_0f7a4 21 = .ok (.iand, 1) := by decide +kernel
theorem dJ6_bitCount_0f7a4_22 : decode cJ6_bitCount_0f7a4 22 = .ok (.iadd, 1) := by decide +kernel
theorem dJ6_bitCount_0f7a4_23 : decode cJ6_bitCount_0f7a4 23 = .ok (.istore_n 0, 1) := by decide +kernel
theorem dJ6_bitCount_0f7a4_24 : decode cJ6_bitCount_0f7a4 24 = .ok (.iload_n 0, 1) := by decide +kernel
theorem dJ6_bitCount_0f7a4_25 : decode cJ6_bitCount_0f7a4 25 = .ok (.iload_n 0, 1) := by decide +kernel
theorem dJ6_bitCount_0f7a4_26 : decode cJ6_bitCount_0f7a4 26 = .ok (.iconst 4, 1) := by decide +kernel
theorem dJ6_bitCount_0f7a4_27 : decode cJ6_bitCount_0f7a4 27 = .ok (.iushr, 1) := by decide +kernel
theorem dJ6_bitCount_0f7a4_28 : decode cJ6_bitCount_0f7a4 28 = .ok (.iadd, 1) := by decide +kernel
theorem dJ6_bitCount_0f7a4_29 : decode cJ6_bitCount_0f7a4 29 = .ok (.ldc_w 267, 3) := by decide +kernel
theorem dJ6_bitCount_0f7a4_32 : decode cJ6_bitCount_0f7a4 32 = .ok (.iand, 1) := by decide +kernel
theorem dJ6_bitCount_0f7a4_33 : decode cJ6_bitCount_0f7a4 33 = .ok (.istore_n 0, 1) := by decide +kernel
theorem dJ6_bitCount_0f7a4_34 : decode cJ6_bitCount_0f7a4 34 = .ok (.iload_n 0, 1) := by decide +kernel
theorem dJ6_bitCount_0f7a4_35 : decode cJ6_bitCount_0f7a4 35 = .ok (.iload_n 0, 1) := by decide +kernel
theorem dJ6_bitCount_0f7a4_36 : decode cJ6_bitCount_0f7a4 36 = .ok (.bipush 8, 2) := by decide +kernel
theorem dJ6_bitCount_0f7a4_38 : decode cJ6_bitCount_0f7a4 38 = .ok (.iushr, 1) := by decide +kernel
theorem dJ6_bitCount_0f7a4_39 : decode cJ6_bitCount_0f7a4 39 = .ok (.iadd, 1) := by decide +kernel
theorem dJ6_bitCount_0f7a4_40 : decode cJ6_bitCount_0f7a4 40 = .ok (.istore_n 0, 1) := by decide +kernel
theorem dJ6_bitCount_0f7a4_41 : decode cJ6_bitCount_0f7a4 41 = .ok (.iload_n 0, 1) := by decide +kernel
theorem dJ6_bitCount_0f7a4_42 : decode cJ6_bitCount_0f7a4 42 = .ok (.iload_n 0, 1) := by decide +kernel
theorem dJ6_bitCount_0f7a4_43 : decode cJ6_bitCount_0f7a4 43 = .ok (.bipush 16, 2) := by decide +kernel
theorem dJ6_bitCount_0f7a4_45 : decode cJ6_bitCount_0f7a4 45 = .ok (.iushr, 1) := by decide +kernel
theorem dJ6_bitCount_0f7a4_46 : decode cJ6_bitCount_0f7a4 46 = .ok (.iadd, 1) := by decide +kernel
theorem dJ6_bitCount_0f7a4_47 : decode cJ6_bitCount_0f7a4 47 = .ok (.istore_n 0, 1) := by decide +kernel
theorem dJ6_bitCount_0f7a4_48 : decode cJ6_bitCount_0f7a4 48 = .ok (.iload_n 0, 1) := by decide +kernel
theorem dJ6_bitCount_0f7a4_49 : decode cJ6_bitCount_0f7a4 49 = .ok (.bipush 63, 2) := by decide +kernel
theorem dJ6_bitCount_0f7a4_51 : decode cJ6_bitCount_0f7a4 51 = .ok (.iand, 1) := by decide +kernel
theorem dJ6_bitCount_0f7a4_52 : decode cJ6_bitCount_0f7a4 52 = .ok (.ireturn, 1) := by decide +kernel
theorem dJ9_abs_0f7a4_0 : decode cJ9_abs_0f7a4 0 = .ok (.iload_n 0, 1) := by decide +kernel
theorem dJ9_abs_0f7a4_1 : decode cJ9_abs_0f7a4 1 = .ok (.ifCond .ge 8, 3) := by decide +kernel
theorem dJ9_abs_0f7a4_4 : decode cJ9_abs_0f7a4 4 = .ok (.iload_n 0, 1) := by decide +kernel
theorem dJ9_abs_0f7a4_5 : decode cJ9_abs_0f7a4 5 = .ok (.ineg, 1) := by decide +kernel
theorem dJ9_abs_0f7a4_6 : decode cJ9_abs_0f7a4 6 = .ok (.goto 4, 3) := by decide +kernel
theorem dJ9_abs_0f7a4_9 : decode cJ9_abs_0f7a4 9 = .ok (.iload_n 0, 1) := by decide +kernel
theorem dJ9_abs_0f7a4_10 : decode cJ9_abs_0f7a4 10 = .ok (.ireturn, 1) := by decide +kernel
theorem dJ9_min_7cf53_0 : decode cJ9_min_7cf53 0 = .ok (.iload_n 0, 1) := by decide +kernel
theorem dJ9_min_7cf53_1 : decode cJ9_min_7cf53 1 = .ok (.iload_n 1, 1) := by decide +kernel
theorem dJ9_min_7cf53_2 : decode cJ9_min_7cf53 2 = .ok (.if_icmp .gt 7, 3) := by decide +kernel
theorem dJ9_min_7cf53_5 : decode cJ9_min_7cf53 5 = .ok (.iload_n 0, 1) := by decide +kernel
theorem dJ9_min_7cf53_6 : decode cJ9_min_7cf53 6 = .ok (.goto 4, 3) := by decide +kernel
theorem dJ9_min_7cf53_9 : decode cJ9_min_7cf53 9 = .ok (.iload_n 1, 1) := by decide +kernel
theorem dJ9_min_7cf53_10 : decode cJ9_min_7cf53 10 = .ok (.ireturn, 1) := by decide +kernel
