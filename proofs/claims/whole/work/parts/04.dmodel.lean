theorem dX5_init_0 : decode cX5_init 0 = .ok (.aload_n 0, 1) := by decide +kernel
theorem dX5_init_1 : decode cX5_init 1 = .ok (.invokespecial 1, 3) := by decide +kernel
theorem dX5_init_4 : decode cX5_init 4 = .ok (.aload_n 0, 1) := by decide +kernel
theorem dX5_init_5 : decode cX5_init 5 = .ok (.bipush 8, 2) := by decide +kernel
theorem dX5_init_7 : decode cX5_init 7 = .ok (.newarray .int, 2) := by decide +kernel
theorem dX5_init_9 : decode cX5_init 9 = .ok (.putfield 7, 3) := by decide +kernel
theorem dX5_init_12 : decode cX5_init 12 = .ok (.aload_n 0, 1) := by decide +kernel
theorem dX5_init_13 : decode cX5_init 13 = .ok (.bipush 8, 2) := by decide +kernel
theorem dX5_init_15 : decode cX5_init 15 = .ok (.newarray .int, 2) := by decide +kernel
theorem dX5_init_17 : decode cX5_init 17 = .ok (.putfield 13, 3) := by decide +kernel
theorem dX5_init_20 : decode cX5_init 20 = .ok (.aload_n 0, 1) := by decide +kernel
theorem dX5_init_21 : decode cX5_init 21 = .ok (.bipush 8, 2) := by decide +kernel
theorem dX5_init_23 : decode cX5_init 23 = .ok (.newarray .int, 2) := by decide +kernel
theorem dX5_init_25 : decode cX5_init 25 = .ok (.putfield 16, 3) := by decide +kernel
theorem dX5_init_28 : decode cX5_init 28 = .ok (.aload_n 0, 1) := by decide +kernel
theorem dX5_init_29 : decode cX5_init 29 = .ok (.bipush 8, 2) := by decide +kernel
theorem dX5_init_31 : decode cX5_init 31 = .ok (.newarray .int, 2) := by decide +kernel
theorem dX5_init_33 : decode cX5_init 33 = .ok (.putfield 19, 3) := by decide +kernel
theorem dX5_init_36 : decode cX5_init 36 = .ok (.aload_n 0, 1) := by decide +kernel
theorem dX5_init_37 : decode cX5_init 37 = .ok (.iconst 4, 1) := by decide +kernel
theorem dX5_init_38 : decode cX5_init 38 = .ok (.newarray .int, 2) := by decide +kernel
theorem dX5_init_40 : decode cX5_init 40 = .ok (.putfield 22, 3) := by decide +kernel
theorem dX5_init_43 : decode cX5_init 43 = .ok (.aload_n 0, 1) := by decide +kernel
theorem dX5_init_44 : decode cX5_init 44 = .ok (.iconst 4, 1) := by decide +kernel
theorem dX5_init_45 : decode cX5_init 45 = .ok (.newarray .int, 2) := by decide +kernel
theorem dX5_init_47 : decode cX5_init 47 = .ok (.putfield 25, 3) := by decide +kernel
theorem dX5_init_50 : decode cX5_init 50 = .ok (.aload_n 0, 1) := by decide +kernel
theorem dX5_init_51 : decode cX5_init 51 = .ok (.iconst 4, 1) := by decide +kernel
theorem dX5_init_52 : decode cX5_init 52 = .ok (.newarray .int, 2) := by decide +kernel
theorem dX5_init_54 : decode cX5_init 54 = .ok (.putfield 28, 3) := by decide +kernel
theorem dX5_init_57 : decode cX5_init 57 = .ok (.aload_n 0, 1) := by decide +kernel
theorem dX5_init_58 : decode cX5_init 58 = .ok (.iconst 4, 1) := by decide +kernel
theorem dX5_init_59 : decode cX5_init 59 = .ok (.newarray .int, 2) := by decide +kernel
theorem dX5_init_61 : decode cX5_init 61 = .ok (.putfield 31, 3) := by decide +kernel
theorem dX5_init_64 : decode cX5_init 64 = .ok (.aload_n 0, 1) := by decide +kernel
theorem dX5_init_65 : decode cX5_init 65 = .ok (.bipush 12, 2) := by decide +kernel
theorem dX5_init_67 : decode cX5_init 67 = .ok (.newarray .int, 2) := by decide +kernel
theorem dX5_init_69 : decode cX5_init 69 = .ok (.putfield 34, 3) := by decide +kernel
theorem dX5_init_72 : decode cX5_init 72 = .ok (.aload_n 0, 1) := by decide +kernel
theorem dX5_init_73 : decode cX5_init 73 = .ok (.bipush 12, 2) := by decide +kernel
theorem dX5_init_75 : decode cX5_init 75 = .ok (.newarray .int, 2) := by decide +kernel
theorem dX5_init_77 : decode cX5_init 77 = .ok (.putfield 37, 3) := by decide +kernel
theorem dX5_init_80 : decode cX5_init 80 = .ok (.aload_n 0, 1) := by decide +kernel
theorem dX5_init_81 : decode cX5_init 81 = .ok (.bipush 12, 2) := by decide +kernel
theorem dX5_init_83 : decode cX5_init 83 = .ok (.newarray .int, 2) := by decide +kernel
theorem dX5_init_85 : decode cX5_init 85 = .ok (.putfield 40, 3) := by decide +kernel
theorem dX5_init_88 : decode cX5_init 88 = .ok (.aload_n 0, 1) := by decide +kernel
theorem dX5_init_89 : decode cX5_init 89 = .ok (.bipush 12, 2) := by decide +kernel
theorem dX5_init_91 : decode cX5_init 91 = .ok (.newarray .int, 2) := by decide +kernel
theorem dX5_init_93 : decode cX5_init 93 = .ok (.putfield 43, 3) := by decide +kernel
theorem dX5_init_96 : decode cX5_init 96 = .ok (.aload_n 0, 1) := by decide +kernel
theorem dX5_init_97 : decode cX5_init 97 = .ok (.bipush 12, 2) := by decide +kernel
theorem dX5_init_99 : decode cX5_init 99 = .ok (.newarray .int, 2) := by decide +kernel
theorem dX5_init_101 : decode cX5_init 101 = .ok (.putfield 46, 3) := by decide +kernel
theorem dX5_init_104 : decode cX5_init 104 = .ok (.aload_n 0, 1) := by decide +kernel
theorem dX5_init_105 : decode cX5_init 105 = .ok (.bipush 12, 2) := by decide +kernel
theorem dX5_init_107 : decode cX5_init 107 = .ok (.newarray .int, 2) := by decide +kernel
theorem dX5_init_109 : decode cX5_init 109 = .ok (.putfield 49, 3) := by decide +kernel
theorem dX5_init_112 : decode cX5_init 112 = .ok (.aload_n 0, 1) := by decide +kernel
theorem dX5_init_113 : decode cX5_init 113 = .ok (.sipush 732, 3) := by decide +kernel
theorem dX5_init_116 : decode cX5_init 116 = .ok (.newarray .int, 2) := by decide +kernel
theorem dX5_init_118 : decode cX5_init 118 = .ok (.putfield 52, 3) := by decide +kernel
theorem dX5_init_121 : decode cX5_init 121 = .ok (.aload_n 0, 1) := by decide +kernel
theorem dX5_init_122 : decode cX5_init 122 = .ok (.sipush 732, 3) := by decide +kernel
theorem dX5_init_125 : decode cX5_init 125 = .ok (.newarray .int, 2) := by decide +kernel
theorem dX5_init_127 : decode cX5_init 127 = .ok (.putfield 55, 3) := by decide +kernel
theorem dX5_init_130 : decode cX5_init 130 = .ok (.return_, 1) := by decide +kernel
theorem dX5_thrown_0 : decode cX5_thrown 0 = .ok (.aload_n 0, 1) := by decide +kernel
theorem dX5_thrown_1 : decode cX5_thrown 1 = .ok (.getfield 58, 3) := by decide +kernel
theorem dX5_thrown_4 : decode cX5_thrown 4 = .ok (.ireturn, 1) := by decide +kernel
theorem dX5_fails_0 : decode cX5_fails 0 = .ok (.aload_n 0, 1) := by decide +kernel
theorem dX5_fails_1 : decode cX5_fails 1 = .ok (.iload_n 1, 1) := by decide +kernel
theorem dX5_fails_2 : decode cX5_fails 2 = .ok (.putfield 58, 3) := by decide +kernel
theorem dX5_fails_5 : decode cX5_fails 5 = .ok (.iconst 0, 1) := by decide +kernel
theorem dX5_fails_6 : decode cX5_fails 6 = .ok (.ireturn, 1) := by decide +kernel
theorem dX5_asks_0 : decode cX5_asks 0 = .ok (.aload_n 0, 1) := by decide +kernel
theorem dX5_asks_1 : decode cX5_asks 1 = .ok (.iload_n 1, 1) := by decide +kernel
theorem dX5_asks_2 : decode cX5_asks 2 = .ok (.ifCond .eq 7, 3) := by decide +kernel
theorem dX5_asks_5 : decode cX5_asks 5 = .ok (.iconst 0, 1) := by decide +kernel
theorem dX5_asks_6 : decode cX5_asks 6 = .ok (.goto 4, 3) := by decide +kernel
theorem dX5_asks_9 : decode cX5_asks 9 = .ok (.iconst 1, 1) := by decide +kernel
theorem dX5_asks_10 : decode cX5_asks 10 = .ok (.putfield 58, 3) := by decide +kernel
theorem dX5_asks_13 : decode cX5_asks 13 = .ok (.iload_n 1, 1) := by decide +kernel
theorem dX5_asks_14 : decode cX5_asks 14 = .ok (.ireturn, 1) := by decide +kernel
theorem dX5_in_0 : decode cX5_in 0 = .ok (.iload_n 0, 1) := by decide +kernel
theorem dX5_in_1 : decode cX5_in 1 = .ok (.iload_n 1, 1) := by decide +kernel
theorem dX5_in_2 : decode cX5_in 2 = .ok (.if_icmp .lt 12, 3) := by decide +kernel
theorem dX5_in_5 : decode cX5_in 5 = .ok (.iload_n 0, 1) := by decide +kernel
theorem dX5_in_6 : decode cX5_in 6 = .ok (.iload_n 2, 1) := by decide +kernel
theorem dX5_in_7 : decode cX5_in 7 = .ok (.if_icmp .gt 7, 3) := by decide +kernel
theorem dX5_in_10 : decode cX5_in 10 = .ok (.iconst 1, 1) := by decide +kernel
theorem dX5_in_11 : decode cX5_in 11 = .ok (.goto 4, 3) := by decide +kernel
theorem dX5_in_14 : decode cX5_in 14 = .ok (.iconst 0, 1) := by decide +kernel
theorem dX5_in_15 : decode cX5_in 15 = .ok (.ireturn, 1) := by decide +kernel
theorem dX5_isVariant_0 : decode cX5_isVariant 0 = .ok (.iload_n 1, 1) := by decide +kernel
theorem dX5_isVariant_1 : decode cX5_isVariant 1 = .ok (.ifCond .lt 15, 3) := by decide +kernel
theorem dX5_isVariant_4 : decode cX5_isVariant 4 = .ok (.iload_n 1, 1) := by decide +kernel
theorem dX5_isVariant_5 : decode cX5_isVariant 5 = .ok (.aload_n 0, 1) := by decide +kernel
theorem dX5_isVariant_6 : decode cX5_isVariant 6 = .ok (.getfield 62, 3) := by decide +kernel
theorem dX5_isVariant_9 : decode cX5_isVariant 9 = .ok (.if_icmp .ge 7, 3) := by decide +kernel
theorem dX5_isVariant_12 : decode cX5_isVariant 12 = .ok (.iconst 1, 1) := by decide +kernel
theorem dX5_isVariant_13 : decode cX5_isVariant 13 = .ok (.goto 4, 3) := by decide +kernel
theorem dX5_isVariant_16 : decode cX5_isVariant 16 = .ok (.iconst 0, 1) := by decide +kernel
theorem dX5_isVariant_17 : decode cX5_isVariant 17 = .ok (.ireturn, 1) := by decide +kernel
theorem dX5_isPlayer_0 : decode cX5_isPlayer 0 = .ok (.iload_n 0, 1) := by decide +kernel
theorem dX5_isPlayer_1 : decode cX5_isPlayer 1 = .ok (.ifCond .lt 12, 3) := by decide +kernel
theorem dX5_isPlayer_4 : decode cX5_isPlayer 4 = .ok (.iload_n 0, 1) := by decide +kernel
theorem dX5_isPlayer_5 : decode cX5_isPlayer 5 = .ok (.iconst 5, 1) := by decide +kernel
theorem dX5_isPlayer_6 : decode cX5_isPlayer 6 = .ok (.if_icmp .ge 7, 3) := by decide +kernel
theorem dX5_isPlayer_9 : decode cX5_isPlayer 9 = .ok (.iconst 1, 1) := by decide +kernel
theorem dX5_isPlayer_10 : decode cX5_isPlayer 10 = .ok (.goto 4, 3) := by decide +kernel
theorem dX5_isPlayer_13 : decode cX5_isPlayer 13 = .ok (.iconst 0, 1) := by decide +kernel
theorem dX5_isPlayer_14 : decode cX5_isPlayer 14 = .ok (.ireturn, 1) := by decide +kernel
theorem dX5_isGame_0 : decode cX5_isGame 0 = .ok (.iload_n 1, 1) := by decide +kernel
theorem dX5_isGame_1 : decode cX5_isGame 1 = .ok (.ifCond .lt 15, 3) := by decide +kernel
theorem dX5_isGame_4 : decode cX5_isGame 4 = .ok (.iload_n 1, 1) := by decide +kernel
theorem dX5_isGame_5 : decode cX5_isGame 5 = .ok (.aload_n 0, 1) := by decide +kernel
theorem dX5_isGame_6 : decode cX5_isGame 6 = .ok (.getfield 65, 3) := by decide +kernel
theorem dX5_isGame_9 : decode cX5_isGame 9 = .ok (.if_icmp .ge 7, 3) := by decide +kernel
theorem dX5_isGame_12 : decode cX5_isGame 12 = .ok (.iconst 1, 1) := by decide +kernel
theorem dX5_isGame_13 : decode cX5_isGame 13 = .ok (.goto 4, 3) := by decide +kernel
theorem dX5_isGame_16 : decode cX5_isGame 16 = .ok (.iconst 0, 1) := by decide +kernel
theorem dX5_isGame_17 : decode cX5_isGame 17 = .ok (.ireturn, 1) := by decide +kernel
theorem dX5_isCell_0 : decode cX5_isCell 0 = .ok (.iload_n 0, 1) := by decide +kernel
theorem dX5_isCell_1 : decode cX5_isCell 1 = .ok (.ifCond .lt 13, 3) := by decide +kernel
theorem dX5_isCell_4 : decode cX5_isCell 4 = .ok (.iload_n 0, 1) := by decide +kernel
theorem dX5_isCell_5 : decode cX5_isCell 5 = .ok (.bipush 25, 2) := by decide +kernel
theorem dX5_isCell_7 : decode cX5_isCell 7 = .ok (.if_icmp .ge 7, 3) := by decide +kernel
theorem dX5_isCell_10 : decode cX5_isCell 10 = .ok (.iconst 1, 1) := by decide +kernel
theorem dX5_isCell_11 : decode cX5_isCell 11 = .ok (.goto 4, 3) := by decide +kernel
theorem dX5_isCell_14 : decode cX5_isCell 14 = .ok (.iconst 0, 1) := by decide +kernel
theorem dX5_isCell_15 : decode cX5_isCell 15 = .ok (.ireturn, 1) := by decide +kernel
theorem dX5_size_0 : decode cX5_size 0 = .ok (.iconst 0, 1) := by decide +kernel
theorem dX5_size_1 : decode cX5_size 1 = .ok (.istore_n 1, 1) := by decide +kernel
theorem dX5_size_2 : decode cX5_size 2 = .ok (.iconst 0, 1) := by decide +kernel
theorem dX5_size_3 : decode cX5_size 3 = .ok (.istore_n 2, 1) := by decide +kernel
theorem dX5_size_4 : decode cX5_size 4 = .ok (.iload_n 2, 1) := by decide +kernel
theorem dX5_size_5 : decode cX5_size 5 = .ok (.bipush 25, 2) := by decide +kernel
theorem dX5_size_7 : decode cX5_size 7 = .ok (.if_icmp .ge 17, 3) := by decide +kernel
theorem dX5_size_10 : decode cX5_size 10 = .ok (.iload_n 1, 1) := by decide +kernel
theorem dX5_size_11 : decode cX5_size 11 = .ok (.iload_n 0, 1) := by decide +kernel
theorem dX5_size_12 : decode cX5_size 12 = .ok (.iload_n 2, 1) := by decide +kernel
theorem dX5_size_13 : decode cX5_size 13 = .ok (.ishr, 1) := by decide +kernel
theorem dX5_size_14 : decode cX5_size 14 = .ok (.iconst 1, 1) := by decide +kernel
theorem dX5_size_15 : decode cX5_size 15 = .ok (.iand, 1) := by decide +kernel
theorem dX5_size_16 : decode cX5_size 16 = .ok (.iadd, 1) := by decide +kernel
theorem dX5_size_17 : decode cX5_size 17 = .ok (.istore_n 1, 1) := by decide +kernel
theorem dX5_size_18 : decode cX5_size 18 = .ok (.iinc 2 1, 3) := by decide +kernel
theorem dX5_size_21 : decode cX5_size 21 = .ok (.goto (-17), 3) := by decide +kernel
theorem dX5_size_24 : decode cX5_size 24 = .ok (.iload_n 1, 1) := by decide +kernel
theorem dX5_size_25 : decode cX5_size 25 = .ok (.ireturn, 1) := by decide +kernel
set_option maxRecDepth 20000 in
theorem ggX5_card_X5_in : GoodIn wsX5_card wsX5_in := goodIn_r _ [9] (by decide +kernel) (by decide +kernel)
set_option maxRecDepth 20000 in
theorem gX5_card_X5_in : GoodIn wsX5_card (va_wsS RX5 68 yX5_in wsX5_in) := goodIn_app (goodIn_of _ (by decide +kernel)) ggX5_card_X5_in
set_option maxRecDepth 20000 in
theorem ggX5_card_X5_asks : GoodIn wsX5_card wsX5_asks := goodIn_r _ [13, 14, 19, 20, 21, 22, 23, 24, 25, 26, 27, 28, 29, 30, 31, 32, 33, 34, 35, 36, 37, 38] (by decide +kernel) (by decide +kernel)
set_option maxRecDepth 20000 in
theorem gX5_card_X5_asks : GoodIn wsX5_card (wsV RX5 72 RX5 yX5_asks wsX5_asks) := goodIn_app (goodIn_of _ (by decide +kernel)) ggX5_card_X5_asks
set_option maxRecDepth 20000 in
theorem ggX5_card_X5_fails : GoodIn wsX5_card wsX5_fails := goodIn_r _ [18, 14, 19, 20, 21, 22, 23, 24, 25, 26, 27, 28, 29, 30, 31, 32, 33, 34, 35, 36, 37, 38] (by decide +kernel) (by decide +kernel)
set_option maxRecDepth 20000 in
theorem gX5_card_X5_fails : GoodIn wsX5_card (wsV RX5 79 RX5 yX5_fails wsX5_fails) := goodIn_app (goodIn_of _ (by decide +kernel)) ggX5_card_X5_fails
theorem dX5_card_0 : decode cX5_card 0 = .ok (.aload_n 0, 1) := by decide +kernel
theorem dX5_card_1 : decode cX5_card 1 = .ok (.iload_n 1, 1) := by decide +kernel
theorem dX5_card_2 : decode cX5_card 2 = .ok (.iconst 0, 1) := by decide +kernel
theorem dX5_card_3 : decode cX5_card 3 = .ok (.iconst 2, 1) := by decide +kernel
theorem dX5_card_4 : decode cX5_card 4 = .ok (.invokestatic 68, 3) := by decide +kernel
theorem dX5_card_7 : decode cX5_card 7 = .ok (.ifCond .eq 45, 3) := by decide +kernel
theorem dX5_card_10 : decode cX5_card 10 = .ok (.iload_n 2, 1) := by decide +kernel
theorem dX5_card_11 : decode cX5_card 11 = .ok (.bipush (-2), 2) := by decide +kernel
theorem dX5_card_13 : decode cX5_card 13 = .ok (.iconst 2, 1) := by decide +kernel
theorem dX5_card_14 : decode cX5_card 14 = .ok (.invokestatic 68, 3) := by decide +kernel
theorem dX5_card_17 : decode cX5_card 17 = .ok (.ifCond .eq 35, 3) := by decide +kernel
theorem dX5_card_20 : decode cX5_card 20 = .ok (.iload_n 3, 1) := by decide +kernel
theorem dX5_card_21 : decode cX5_card 21 = .ok (.bipush (-2), 2) := by decide +kernel
theorem dX5_card_23 : decode cX5_card 23 = .ok (.iconst 2, 1) := by decide +kernel
theorem dX5_card_24 : decode cX5_card 24 = .ok (.invokestatic 68, 3) := by decide +kernel
theorem dX5_card_27 : decode cX5_card 27 = .ok (.ifCond .eq 25, 3) := by decide +kernel
theorem dX5_card_30 : decode cX5_card 30 = .ok (.iload 4, 2) := by decide +kernel
theorem dX5_card_32 : decode cX5_card 32 = .ok (.iconst 1, 1) := by decide +kernel
theorem dX5_card_33 : decode cX5_card 33 = .ok (.iconst 4, 1) := by decide +kernel
theorem dX5_card_34 : decode cX5_card 34 = .ok (.invokestatic 68, 3) := by decide +kernel
theorem dX5_card_37 : decode cX5_card 37 = .ok (.ifCond .eq 15, 3) := by decide +kernel
theorem dX5_card_40 : decode cX5_card 40 = .ok (.iload_n 2, 1) := by decide +kernel
theorem dX5_card_41 : decode cX5_card 41 = .ok (.ifCond .ne 7, 3) := by decide +kernel
theorem dX5_card_44 : decode cX5_card 44 = .ok (.iload_n 3, 1) := by decide +kernel
theorem dX5_card_45 : decode cX5_card 45 = .ok (.ifCond .eq 7, 3) := by decide +kernel
theorem dX5_card_48 : decode cX5_card 48 = .ok (.iconst 1, 1) := by decide +kernel
theorem dX5_card_49 : decode cX5_card 49 = .ok (.goto 4, 3) := by decide +kernel
theorem dX5_card_52 : decode cX5_card 52 = .ok (.iconst 0, 1) := by decide +kernel
theorem dX5_card_53 : decode cX5_card 53 = .ok (.invokevirtual 72, 3) := by decide +kernel
theorem dX5_card_56 : decode cX5_card 56 = .ok (.ifCond .ne 5, 3) := by decide +kernel
theorem dX5_card_59 : decode cX5_card 59 = .ok (.iconst 0, 1) := by decide +kernel
theorem dX5_card_60 : decode cX5_card 60 = .ok (.ireturn, 1) := by decide +kernel
theorem dX5_card_61 : decode cX5_card 61 = .ok (.aload_n 0, 1) := by decide +kernel
theorem dX5_card_62 : decode cX5_card 62 = .ok (.getfield 76, 3) := by decide +kernel
theorem dX5_card_65 : decode cX5_card 65 = .ok (.bipush 8, 2) := by decide +kernel
theorem dX5_card_67 : decode cX5_card 67 = .ok (.if_icmp .ne 9, 3) := by decide +kernel
theorem dX5_card_70 : decode cX5_card 70 = .ok (.aload_n 0, 1) := by decide +kernel
theorem dX5_card_71 : decode cX5_card 71 = .ok (.iconst 2, 1) := by decide +kernel
theorem dX5_card_72 : decode cX5_card 72 = .ok (.invokevirtual 79, 3) := by decide +kernel
theorem dX5_card_75 : decode cX5_card 75 = .ok (.ireturn, 1) := by decide +kernel
theorem dX5_card_76 : decode cX5_card 76 = .ok (.aload_n 0, 1) := by decide +kernel
theorem dX5_card_77 : decode cX5_card 77 = .ok (.getfield 7, 3) := by decide +kernel
theorem dX5_card_80 : decode cX5_card 80 = .ok (.aload_n 0, 1) := by decide +kernel
theorem dX5_card_81 : decode cX5_card 81 = .ok (.getfield 76, 3) := by decide +kernel
theorem dX5_card_84 : decode cX5_card 84 = .ok (.iload_n 1, 1) := by decide +kernel
theorem dX5_card_85 : decode cX5_card 85 = .ok (.iastore, 1) := by decide +kernel
theorem dX5_card_86 : decode cX5_card 86 = .ok (.aload_n 0, 1) := by decide +kernel
theorem dX5_card_87 : decode cX5_card 87 = .ok (.getfield 13, 3) := by decide +kernel
theorem dX5_card_90 : decode cX5_card 90 = .ok (.aload_n 0, 1) := by decide +kernel
theorem dX5_card_91 : decode cX5_card 91 = .ok (.getfield 76, 3) := by decide +kernel
theorem dX5_card_94 : decode cX5_card 94 = .ok (.iload_n 2, 1) := by decide +kernel
theorem dX5_card_95 : decode cX5_card 95 = .ok (.iastore, 1) := by decide +kernel
theorem dX5_card_96 : decode cX5_card 96 = .ok (.aload_n 0, 1) := by decide +kernel
theorem dX5_card_97 : decode cX5_card 97 = .ok (.getfield 16, 3) := by decide +kernel
theorem dX5_card_100 : decode cX5_card 100 = .ok (.aload_n 0, 1) := by decide +kernel
theorem dX5_card_101 : decode cX5_card 101 = .ok (.getfield 76, 3) := by decide +kernel
theorem dX5_card_104 : decode cX5_card 104 = .ok (.iload_n 3, 1) := by decide +kernel
theorem dX5_card_105 : decode cX5_card 105 = .ok (.iastore, 1) := by decide +kernel
theorem dX5_card_106 : decode cX5_card 106 = .ok (.aload_n 0, 1) := by decide +kernel
theorem dX5_card_107 : decode cX5_card 107 = .ok (.getfield 19, 3) := by decide +kernel
theorem dX5_card_110 : decode cX5_card 110 = .ok (.aload_n 0, 1) := by decide +kernel
theorem dX5_card_111 : decode cX5_card 111 = .ok (.getfield 76, 3) := by decide +kernel
theorem dX5_card_114 : decode cX5_card 114 = .ok (.iload_n 1, 1) := by decide +kernel
theorem dX5_card_115 : decode cX5_card 115 = .ok (.ifCond .ne 7, 3) := by decide +kernel
theorem dX5_card_118 : decode cX5_card 118 = .ok (.iconst 1, 1) := by decide +kernel
theorem dX5_card_119 : decode cX5_card 119 = .ok (.goto 5, 3) := by decide +kernel
theorem dX5_card_122 : decode cX5_card 122 = .ok (.iload 4, 2) := by decide +kernel
theorem dX5_card_124 : decode cX5_card 124 = .ok (.iastore, 1) := by decide +kernel
theorem dX5_card_125 : decode cX5_card 125 = .ok (.aload_n 0, 1) := by decide +kernel
theorem dX5_card_126 : decode cX5_card 126 = .ok (.dup, 1) := by decide +kernel
theorem dX5_card_127 : decode cX5_card 127 = .ok (.getfield 76, 3) := by decide +kernel
theorem dX5_card_130 : decode cX5_card 130 = .ok (.iconst 1, 1) := by decide +kernel
theorem dX5_card_131 : decode cX5_card 131 = .ok (.iadd, 1) := by decide +kernel
theorem dX5_card_132 : decode cX5_card 132 = .ok (.putfield 76, 3) := by decide +kernel
theorem dX5_card_135 : decode cX5_card 135 = .ok (.aload_n 0, 1) := by decide +kernel
theorem dX5_card_136 : decode cX5_card 136 = .ok (.getfield 76, 3) := by decide +kernel
theorem dX5_card_139 : decode cX5_card 139 = .ok (.iconst 1, 1) := by decide +kernel
theorem dX5_card_140 : decode cX5_card 140 = .ok (.isub, 1) := by decide +kernel
theorem dX5_card_141 : decode cX5_card 141 = .ok (.ireturn, 1) := by decide +kernel
theorem dX5_areCards_0 : decode cX5_areCards 0 = .ok (.iload_n 1, 1) := by decide +kernel
theorem dX5_areCards_1 : decode cX5_areCards 1 = .ok (.iconst 1, 1) := by decide +kernel
theorem dX5_areCards_2 : decode cX5_areCards 2 = .ok (.if_icmp .lt 17, 3) := by decide +kernel
theorem dX5_areCards_5 : decode cX5_areCards 5 = .ok (.iload_n 1, 1) := by decide +kernel
theorem dX5_areCards_6 : decode cX5_areCards 6 = .ok (.iconst 1, 1) := by decide +kernel
theorem dX5_areCards_7 : decode cX5_areCards 7 = .ok (.aload_n 0, 1) := by decide +kernel
theorem dX5_areCards_8 : decode cX5_areCards 8 = .ok (.getfield 76, 3) := by decide +kernel
theorem dX5_areCards_11 : decode cX5_areCards 11 = .ok (.ishl, 1) := by decide +kernel
theorem dX5_areCards_12 : decode cX5_areCards 12 = .ok (.if_icmp .ge 7, 3) := by decide +kernel
theorem dX5_areCards_15 : decode cX5_areCards 15 = .ok (.iconst 1, 1) := by decide +kernel
theorem dX5_areCards_16 : decode cX5_areCards 16 = .ok (.goto 4, 3) := by decide +kernel
theorem dX5_areCards_19 : decode cX5_areCards 19 = .ok (.iconst 0, 1) := by decide +kernel
theorem dX5_areCards_20 : decode cX5_areCards 20 = .ok (.ireturn, 1) := by decide +kernel
set_option maxRecDepth 20000 in
theorem ggX5_variant_X5_in : GoodIn wsX5_variant wsX5_in := goodIn_r _ [8] (by decide +kernel) (by decide +kernel)
set_option maxRecDepth 20000 in
theorem gX5_variant_X5_in : GoodIn wsX5_variant (va_wsS RX5 68 yX5_in wsX5_in) := goodIn_app (goodIn_of _ (by decide +kernel)) ggX5_variant_X5_in
set_option maxRecDepth 20000 in
theorem ggX5_variant_X5_areCards : GoodIn wsX5_variant wsX5_areCards := goodIn_r _ [12, 13, 23, 24, 25, 26, 27, 28, 29, 30, 31, 32, 33, 34, 35, 36, 37, 38, 39, 40, 41, 42] (by decide +kernel) (by decide +kernel)
set_option maxRecDepth 20000 in
theorem gX5_variant_X5_areCards : GoodIn wsX5_variant (wsV RX5 84 RX5 yX5_areCards wsX5_areCards) := goodIn_app (goodIn_of _ (by decide +kernel)) ggX5_variant_X5_areCards
set_option maxRecDepth 20000 in
theorem ggX5_variant_X5_asks : GoodIn wsX5_variant wsX5_asks := goodIn_r _ [17, 18, 23, 24, 25, 26, 27, 28, 29, 30, 31, 32, 33, 34, 35, 36, 37, 38, 39, 40, 41, 42] (by decide +kernel) (by decide +kernel)
set_option maxRecDepth 20000 in
theorem gX5_variant_X5_asks : GoodIn wsX5_variant (wsV RX5 72 RX5 yX5_asks wsX5_asks) := goodIn_app (goodIn_of _ (by decide +kernel)) ggX5_variant_X5_asks
set_option maxRecDepth 20000 in
theorem ggX5_variant_X5_fails : GoodIn wsX5_variant wsX5_fails := goodIn_r _ [22, 18, 23, 24, 25, 26, 27, 28, 29, 30, 31, 32, 33, 34, 35, 36, 37, 38, 39, 40, 41, 42] (by decide +kernel) (by decide +kernel)
set_option maxRecDepth 20000 in
theorem gX5_variant_X5_fails : GoodIn wsX5_variant (wsV RX5 79 RX5 yX5_fails wsX5_fails) := goodIn_app (goodIn_of _ (by decide +kernel)) ggX5_variant_X5_fails
theorem dX5_variant_0 : decode cX5_variant 0 = .ok (.aload_n 0, 1) := by decide +kernel
theorem dX5_variant_1 : decode cX5_variant 1 = .ok (.iload_n 1, 1) := by decide +kernel
theorem dX5_variant_2 : decode cX5_variant 2 = .ok (.iconst 0, 1) := by decide +kernel
theorem dX5_variant_3 : decode cX5_variant 3 = .ok (.ldc 83, 2) := by decide +kernel
theorem dX5_variant_5 : decode cX5_variant 5 = .ok (.invokestatic 68, 3) := by decide +kernel
theorem dX5_variant_8 : decode cX5_variant 8 = .ok (.ifCond .eq 15, 3) := by decide +kernel
theorem dX5_variant_11 : decode cX5_variant 11 = .ok (.aload_n 0, 1) := by decide +kernel
theorem dX5_variant_12 : decode cX5_variant 12 = .ok (.iload_n 2, 1) := by decide +kernel
theorem dX5_variant_13 : decode cX5_variant 13 = .ok (.invokevirtual 84, 3) := by decide +kernel
theorem dX5_variant_16 : decode cX5_variant 16 = .ok (.ifCond .eq 7, 3) := by decide +kernel
theorem dX5_variant_19 : decode cX5_variant 19 = .ok (.iconst 1, 1) := by decide +kernel
theorem dX5_variant_20 : decode cX5_variant 20 = .ok (.goto 4, 3) := by decide +kernel
theorem dX5_variant_23 : decode cX5_variant 23 = .ok (.iconst 0, 1) := by decide +kernel
theorem dX5_variant_24 : decode cX5_variant 24 = .ok (.invokevirtual 72, 3) := by decide +kernel
theorem dX5_variant_27 : decode cX5_variant 27 = .ok (.ifCond .ne 5, 3) := by decide +kernel
theorem dX5_variant_30 : decode cX5_variant 30 = .ok (.iconst 0, 1) := by decide +kernel
theorem dX5_variant_31 : decode cX5_variant 31 = .ok (.ireturn, 1) := by decide +kernel
theorem dX5_variant_32 : decode cX5_variant 32 = .ok (.aload_n 0, 1) := by decide +kernel
theorem dX5_variant_33 : decode cX5_variant 33 = .ok (.getfield 62, 3) := by decide +kernel
theorem dX5_variant_36 : decode cX5_variant 36 = .ok (.iconst 4, 1) := by decide +kernel
theorem dX5_variant_37 : decode cX5_variant 37 = .ok (.if_icmp .ne 9, 3) := by decide +kernel
theorem dX5_variant_40 : decode cX5_variant 40 = .ok (.aload_n 0, 1) := by decide +kernel
theorem dX5_variant_41 : decode cX5_variant 41 = .ok (.iconst 2, 1) := by decide +kernel
theorem dX5_variant_42 : decode cX5_variant 42 = .ok (.invokevirtual 79, 3) := by decide +kernel
theorem dX5_variant_45 : decode cX5_variant 45 = .ok (.ireturn, 1) := by decide +kernel
theorem dX5_variant_46 : decode cX5_variant 46 = .ok (.aload_n 0, 1) := by decide +kernel
theorem dX5_variant_47 : decode cX5_variant 47 = .ok (.getfield 22, 3) := by decide +kernel
theorem dX5_variant_50 : decode cX5_variant 50 = .ok (.aload_n 0, 1) := by decide +kernel
theorem dX5_variant_51 : decode cX5_variant 51 = .ok (.getfield 62, 3) := by decide +kernel
theorem dX5_variant_54 : decode cX5_variant 54 = .ok (.iload_n 1, 1) := by decide +kernel
theorem dX5_variant_55 : decode cX5_variant 55 = .ok (.iastore, 1) := by decide +kernel
theorem dX5_variant_56 : decode cX5_variant 56 = .ok (.aload_n 0, 1) := by decide +kernel
theorem dX5_variant_57 : decode cX5_variant 57 = .ok (.getfield 25, 3) := by decide +kernel
theorem dX5_variant_60 : decode cX5_variant 60 = .ok (.aload_n 0, 1) := by decide +kernel
theorem dX5_variant_61 : decode cX5_variant 61 = .ok (.getfield 62, 3) := by decide +kernel
theorem dX5_variant_64 : decode cX5_variant 64 = .ok (.iload_n 2, 1) := by decide +kernel
theorem dX5_variant_65 : decode cX5_variant 65 = .ok (.iastore, 1) := by decide +kernel
theorem dX5_variant_66 : decode cX5_variant 66 = .ok (.aload_n 0, 1) := by decide +kernel
theorem dX5_variant_67 : decode cX5_variant 67 = .ok (.dup, 1) := by decide +kernel
theorem dX5_variant_68 : decode cX5_variant 68 = .ok (.getfield 62, 3) := by decide +kernel
theorem dX5_variant_71 : decode cX5_variant 71 = .ok (.iconst 1, 1) := by decide +kernel
theorem dX5_variant_72 : decode cX5_variant 72 = .ok (.iadd, 1) := by decide +kernel
theorem dX5_variant_73 : decode cX5_variant 73 = .ok (.putfield 62, 3) := by decide +kernel
theorem dX5_variant_76 : decode cX5_variant 76 = .ok (.aload_n 0, 1) := by decide +kernel
theorem dX5_variant_77 : decode cX5_variant 77 = .ok (.getfield 62, 3) := by decide +kernel
theorem dX5_variant_80 : decode cX5_variant 80 = .ok (.iconst 1, 1) := by decide +kernel
theorem dX5_variant_81 : decode cX5_variant 81 = .ok (.isub, 1) := by decide +kernel
theorem dX5_variant_82 : decode cX5_variant 82 = .ok (.ireturn, 1) := by decide +kernel
set_option maxRecDepth 20000 in
theorem ggX5_setCards_X5_isVariant : GoodIn wsX5_setCards wsX5_isVariant := goodIn_r _ [6, 7, 22, 23, 24, 25, 26, 27, 28, 29, 30, 31, 32, 33, 34, 35, 36, 37, 38, 39, 40, 41] (by decide +kernel) (by decide +kernel)
set_option maxRecDepth 20000 in
theorem gX5_setCards_X5_isVariant : GoodIn wsX5_setCards (wsV RX5 88 RX5 yX5_isVariant wsX5_isVariant) := goodIn_app (goodIn_of _ (by decide +kernel)) ggX5_setCards_X5_isVariant
set_option maxRecDepth 20000 in
theorem ggX5_setCards_X5_asks : GoodIn wsX5_setCards wsX5_asks := goodIn_r _ [11, 12, 22, 23, 24, 25, 26, 27, 28, 29, 30, 31, 32, 33, 34, 35, 36, 37, 38, 39, 40, 41] (by decide +kernel) (by decide +kernel)
set_option maxRecDepth 20000 in
theorem gX5_setCards_X5_asks : GoodIn wsX5_setCards (wsV RX5 72 RX5 yX5_asks wsX5_asks) := goodIn_app (goodIn_of _ (by decide +kernel)) ggX5_setCards_X5_asks
set_option maxRecDepth 20000 in
theorem ggX5_setCards_X5_areCards : GoodIn wsX5_setCards wsX5_areCards := goodIn_r _ [16, 17, 22, 23, 24, 25, 26, 27, 28, 29, 30, 31, 32, 33, 34, 35, 36, 37, 38, 39, 40, 41] (by decide +kernel) (by decide +kernel)
set_option maxRecDepth 20000 in
theorem gX5_setCards_X5_areCards : GoodIn wsX5_setCards (wsV RX5 84 RX5 yX5_areCards wsX5_areCards) := goodIn_app (goodIn_of _ (by decide +kernel)) ggX5_setCards_X5_areCards
set_option maxRecDepth 20000 in
theorem ggX5_setCards_X5_fails : GoodIn wsX5_setCards wsX5_fails := goodIn_r _ [21, 12, 22, 23, 24, 25, 26, 27, 28, 29, 30, 31, 32, 33, 34, 35, 36, 37, 38, 39, 40, 41] (by decide +kernel) (by decide +kernel)
set_option maxRecDepth 20000 in
theorem gX5_setCards_X5_fails : GoodIn wsX5_setCards (wsV RX5 79 RX5 yX5_fails wsX5_fails) := goodIn_app (goodIn_of _ (by decide +kernel)) ggX5_setCards_X5_fails
theorem dX5_setCards_0 : decode cX5_setCards 0 = .ok (.aload_n 0, 1) := by decide +kernel
theorem dX5_setCards_1 : decode cX5_setCards 1 = .ok (.aload_n 0, 1) := by decide +kernel
theorem dX5_setCards_2 : decode cX5_setCards 2 = .ok (.iload_n 1, 1) := by decide +kernel
theorem dX5_setCards_3 : decode cX5_setCards 3 = .ok (.invokevirtual 88, 3) := by decide +kernel
theorem dX5_setCards_6 : decode cX5_setCards 6 = .ok (.invokevirtual 72, 3) := by decide +kernel
theorem dX5_setCards_9 : decode cX5_setCards 9 = .ok (.ifCond .ne 5, 3) := by decide +kernel
theorem dX5_setCards_12 : decode cX5_setCards 12 = .ok (.iconst 0, 1) := by decide +kernel
theorem dX5_setCards_13 : decode cX5_setCards 13 = .ok (.ireturn, 1) := by decide +kernel
theorem dX5_setCards_14 : decode cX5_setCards 14 = .ok (.aload_n 0, 1) := by decide +kernel
theorem dX5_setCards_15 : decode cX5_setCards 15 = .ok (.iload_n 2, 1) := by decide +kernel
theorem dX5_setCards_16 : decode cX5_setCards 16 = .ok (.invokevirtual 84, 3) := by decide +kernel
theorem dX5_setCards_19 : decode cX5_setCards 19 = .ok (.ifCond .ne 9, 3) := by decide +kernel
theorem dX5_setCards_22 : decode cX5_setCards 22 = .ok (.aload_n 0, 1) := by decide +kernel
theorem dX5_setCards_23 : decode cX5_setCards 23 = .ok (.iconst 2, 1) := by decide +kernel
theorem dX5_setCards_24 : decode cX5_setCards 24 = .ok (.invokevirtual 79, 3) := by decide +kernel
theorem dX5_setCards_27 : decode cX5_setCards 27 = .ok (.ireturn, 1) := by decide +kernel
theorem dX5_setCards_28 : decode cX5_setCards 28 = .ok (.aload_n 0, 1) := by decide +kernel
theorem dX5_setCards_29 : decode cX5_setCards 29 = .ok (.getfield 25, 3) := by decide +kernel
theorem dX5_setCards_32 : decode cX5_setCards 32 = .ok (.iload_n 1, 1) := by decide +kernel
theorem dX5_setCards_33 : decode cX5_setCards 33 = .ok (.iaload, 1) := by decide +kernel
theorem dX5_setCards_34 : decode cX5_setCards 34 = .ok (.istore_n 3, 1) := by decide +kernel
theorem dX5_setCards_35 : decode cX5_setCards 35 = .ok (.aload_n 0, 1) := by decide +kernel
theorem dX5_setCards_36 : decode cX5_setCards 36 = .ok (.getfield 25, 3) := by decide +kernel
theorem dX5_setCards_39 : decode cX5_setCards 39 = .ok (.iload_n 1, 1) := by decide +kernel
theorem dX5_setCards_40 : decode cX5_setCards 40 = .ok (.iload_n 2, 1) := by decide +kernel
theorem dX5_setCards_41 : decode cX5_setCards 41 = .ok (.iastore, 1) := by decide +kernel
theorem dX5_setCards_42 : decode cX5_setCards 42 = .ok (.iload_n 3, 1) := by decide +kernel
theorem dX5_setCards_43 : decode cX5_setCards 43 = .ok (.ireturn, 1) := by decide +kernel
set_option maxRecDepth 20000 in
theorem ggX5_by_X5_in : GoodIn wsX5_by wsX5_in := goodIn_r _ [8] (by decide +kernel) (by decide +kernel)
set_option maxRecDepth 20000 in
theorem gX5_by_X5_in : GoodIn wsX5_by (va_wsS RX5 68 yX5_in wsX5_in) := goodIn_app (goodIn_of _ (by decide +kernel)) ggX5_by_X5_in
theorem dX5_by_0 : decode cX5_by 0 = .ok (.iconst 0, 1) := by decide +kernel
theorem dX5_by_1 : decode cX5_by 1 = .ok (.istore 7, 2) := by decide +kernel
theorem dX5_by_3 : decode cX5_by 3 = .ok (.iload 6, 2) := by decide +kernel
theorem dX5_by_5 : decode cX5_by 5 = .ok (.iconst 5, 1) := by decide +kernel
theorem dX5_by_6 : decode cX5_by 6 = .ok (.irem, 1) := by decide +kernel
theorem dX5_by_7 : decode cX5_by 7 = .ok (.aload_n 0, 1) := by decide +kernel
theorem dX5_by_8 : decode cX5_by 8 = .ok (.getfield 13, 3) := by decide +kernel
theorem dX5_by_11 : decode cX5_by 11 = .ok (.iload_n 1, 1) := by decide +kernel
theorem dX5_by_12 : decode cX5_by 12 = .ok (.iaload, 1) := by decide +kernel
theorem dX5_by_13 : decode cX5_by 13 = .ok (.iadd, 1) := by decide +kernel
theorem dX5_by_14 : decode cX5_by 14 = .ok (.istore 8, 2) := by decide +kernel
theorem dX5_by_16 : decode cX5_by 16 = .ok (.iload 6, 2) := by decide +kernel
theorem dX5_by_18 : decode cX5_by 18 = .ok (.iconst 5, 1) := by decide +kernel
theorem dX5_by_19 : decode cX5_by 19 = .ok (.idiv, 1) := by decide +kernel
theorem dX5_by_20 : decode cX5_by 20 = .ok (.iload 5, 2) := by decide +kernel
theorem dX5_by_22 : decode cX5_by 22 = .ok (.ifCond .eq 13, 3) := by decide +kernel
theorem dX5_by_25 : decode cX5_by 25 = .ok (.aload_n 0, 1) := by decide +kernel
theorem dX5_by_26 : decode cX5_by 26 = .ok (.getfield 16, 3) := by decide +kernel
theorem dX5_by_29 : decode cX5_by 29 = .ok (.iload_n 1, 1) := by decide +kernel
theorem dX5_by_30 : decode cX5_by 30 = .ok (.iaload, 1) := by decide +kernel
theorem dX5_by_31 : decode cX5_by 31 = .ok (.ineg, 1) := by decide +kernel
theorem dX5_by_32 : decode cX5_by 32 = .ok (.goto 9, 3) := by decide +kernel
theorem dX5_by_35 : decode cX5_by 35 = .ok (.aload_n 0, 1) := by decide +kernel
theorem dX5_by_36 : decode cX5_by 36 = .ok (.getfield 16, 3) := by decide +kernel
theorem dX5_by_39 : decode cX5_by 39 = .ok (.iload_n 1, 1) := by decide +kernel
theorem dX5_by_40 : decode cX5_by 40 = .ok (.iaload, 1) := by decide +kernel
theorem dX5_by_41 : decode cX5_by 41 = .ok (.iadd, 1) := by decide +kernel
theorem dX5_by_42 : decode cX5_by 42 = .ok (.istore 9, 2) := by decide +kernel
theorem dX5_by_44 : decode cX5_by 44 = .ok (.iconst 0, 1) := by decide +kernel
theorem dX5_by_45 : decode cX5_by 45 = .ok (.istore 10, 2) := by decide +kernel
theorem dX5_by_47 : decode cX5_by 47 = .ok (.iconst 0, 1) := by decide +kernel
theorem dX5_by_48 : decode cX5_by 48 = .ok (.istore 11, 2) := by decide +kernel
theorem dX5_by_50 : decode cX5_by 50 = .ok (.iconst 1, 1) := by decide +kernel
theorem dX5_by_51 : decode cX5_by 51 = .ok (.istore 12, 2) := by decide +kernel
theorem dX5_by_53 : decode cX5_by 53 = .ok (.iload 12, 2) := by decide +kernel
theorem dX5_by_55 : decode cX5_by 55 = .ok (.aload_n 0, 1) := by decide +kernel
theorem dX5_by_56 : decode cX5_by 56 = .ok (.getfield 19, 3) := by decide +kernel
theorem dX5_by_59 : decode cX5_by 59 = .ok (.iload_n 1, 1) := by decide +kernel
theorem dX5_by_60 : decode cX5_by 60 = .ok (.iaload, 1) := by decide +kernel
theorem dX5_by_61 : decode cX5_by 61 = .ok (.if_icmp .gt 203, 3) := by decide +kernel
theorem dX5_by_64 : decode cX5_by 64 = .ok (.iload 8, 2) := by decide +kernel
theorem dX5_by_66 : decode cX5_by 66 = .ok (.iconst 0, 1) := by decide +kernel
theorem dX5_by_67 : decode cX5_by 67 = .ok (.iconst 4, 1) := by decide +kernel
theorem dX5_by_68 : decode cX5_by 68 = .ok (.invokestatic 68, 3) := by decide +kernel
theorem dX5_by_71 : decode cX5_by 71 = .ok (.ifCond .eq 193, 3) := by decide +kernel
theorem dX5_by_74 : decode cX5_by 74 = .ok (.iload 9, 2) := by decide +kernel
theorem dX5_by_76 : decode cX5_by 76 = .ok (.iconst 0, 1) := by decide +kernel
theorem dX5_by_77 : decode cX5_by 77 = .ok (.iconst 4, 1) := by decide +kernel
theorem dX5_by_78 : decode cX5_by 78 = .ok (.invokestatic 68, 3) := by decide +kernel
theorem dX5_by_81 : decode cX5_by 81 = .ok (.ifCond .eq 183, 3) := by decide +kernel
theorem dX5_by_84 : decode cX5_by 84 = .ok (.iload_n 2, 1) := by decide +kernel
theorem dX5_by_85 : decode cX5_by 85 = .ok (.iconst 5, 1) := by decide +kernel
theorem dX5_by_86 : decode cX5_by 86 = .ok (.iload 9, 2) := by decide +kernel
theorem dX5_by_88 : decode cX5_by 88 = .ok (.imul, 1) := by decide +kernel
theorem dX5_by_89 : decode cX5_by 89 = .ok (.iload 8, 2) := by decide +kernel
theorem dX5_by_91 : decode cX5_by 91 = .ok (.iadd, 1) := by decide +kernel
theorem dX5_by_92 : decode cX5_by 92 = .ok (.ishr, 1) := by decide +kernel
theorem dX5_by_93 : decode cX5_by 93 = .ok (.iconst 1, 1) := by decide +kernel
theorem dX5_by_94 : decode cX5_by 94 = .ok (.iand, 1) := by decide +kernel
theorem dX5_by_95 : decode cX5_by 95 = .ok (.ifCond .ne 169, 3) := by decide +kernel
theorem dX5_by_98 : decode cX5_by 98 = .ok (.iconst 5, 1) := by decide +kernel
theorem dX5_by_99 : decode cX5_by 99 = .ok (.iload 9, 2) := by decide +kernel
theorem dX5_by_101 : decode cX5_by 101 = .ok (.imul, 1) := by decide +kernel
theorem dX5_by_102 : decode cX5_by 102 = .ok (.iload 8, 2) := by decide +kernel
theorem dX5_by_104 : decode cX5_by 104 = .ok (.iadd, 1) := by decide +kernel
theorem dX5_by_105 : decode cX5_by 105 = .ok (.istore 13, 2) := by decide +kernel
theorem dX5_by_107 : decode cX5_by 107 = .ok (.aload_n 0, 1) := by decide +kernel
theorem dX5_by_108 : decode cX5_by 108 = .ok (.getfield 7, 3) := by decide +kernel
theorem dX5_by_111 : decode cX5_by 111 = .ok (.iload_n 1, 1) := by decide +kernel
theorem dX5_by_112 : decode cX5_by 112 = .ok (.iaload, 1) := by decide +kernel
theorem dX5_by_113 : decode cX5_by 113 = .ok (.ifCond .eq 39, 3) := by decide +kernel
theorem dX5_by_116 : decode cX5_by 116 = .ok (.aload_n 0, 1) := by decide +kernel
theorem dX5_by_117 : decode cX5_by 117 = .ok (.getfield 7, 3) := by decide +kernel
theorem dX5_by_120 : decode cX5_by 120 = .ok (.iload_n 1, 1) := by decide +kernel
theorem dX5_by_121 : decode cX5_by 121 = .ok (.iaload, 1) := by decide +kernel
theorem dX5_by_122 : decode cX5_by 122 = .ok (.iconst 1, 1) := by decide +kernel
theorem dX5_by_123 : decode cX5_by 123 = .ok (.if_icmp .ne 8, 3) := by decide +kernel
theorem dX5_by_126 : decode cX5_by 126 = .ok (.iload 10, 2) := by decide +kernel
theorem dX5_by_128 : decode cX5_by 128 = .ok (.ifCond .eq 24, 3) := by decide +kernel
theorem dX5_by_131 : decode cX5_by 131 = .ok (.aload_n 0, 1) := by decide +kernel
theorem dX5_by_132 : decode cX5_by 132 = .ok (.getfield 7, 3) := by decide +kernel
theorem dX5_by_135 : decode cX5_by 135 = .ok (.iload_n 1, 1) := by decide +kernel
theorem dX5_by_136 : decode cX5_by 136 = .ok (.iaload, 1) := by decide +kernel
theorem dX5_by_137 : decode cX5_by 137 = .ok (.iconst 2, 1) := by decide +kernel
theorem dX5_by_138 : decode cX5_by 138 = .ok (.if_icmp .ne 18, 3) := by decide +kernel
theorem dX5_by_141 : decode cX5_by 141 = .ok (.iload 10, 2) := by decide +kernel
theorem dX5_by_143 : decode cX5_by 143 = .ok (.iconst 1, 1) := by decide +kernel
theorem dX5_by_144 : decode cX5_by 144 = .ok (.if_icmp .ne 12, 3) := by decide +kernel
theorem dX5_by_147 : decode cX5_by 147 = .ok (.iload 11, 2) := by decide +kernel
theorem dX5_by_149 : decode cX5_by 149 = .ok (.ifCond .eq 7, 3) := by decide +kernel
theorem dX5_by_152 : decode cX5_by 152 = .ok (.iconst 1, 1) := by decide +kernel
theorem dX5_by_153 : decode cX5_by 153 = .ok (.goto 4, 3) := by decide +kernel
theorem dX5_by_156 : decode cX5_by 156 = .ok (.iconst 0, 1) := by decide +kernel
theorem dX5_by_157 : decode cX5_by 157 = .ok (.istore 14, 2) := by decide +kernel
theorem dX5_by_159 : decode cX5_by 159 = .ok (.iload 7, 2) := by decide +kernel
theorem dX5_by_161 : decode cX5_by 161 = .ok (.iload 14, 2) := by decide +kernel
theorem dX5_by_163 : decode cX5_by 163 = .ok (.ifCond .eq 19, 3) := by decide +kernel
theorem dX5_by_166 : decode cX5_by 166 = .ok (.iload_n 3, 1) := by decide +kernel
theorem dX5_by_167 : decode cX5_by 167 = .ok (.iload 13, 2) := by decide +kernel
theorem dX5_by_169 : decode cX5_by 169 = .ok (.ishr, 1) := by decide +kernel
theorem dX5_by_170 : decode cX5_by 170 = .ok (.iconst 1, 1) := by decide +kernel
theorem dX5_by_171 : decode cX5_by 171 = .ok (.iand, 1) := by decide +kernel
theorem dX5_by_172 : decode cX5_by 172 = .ok (.ifCond .ne 10, 3) := by decide +kernel
theorem dX5_by_175 : decode cX5_by 175 = .ok (.iconst 1, 1) := by decide +kernel
theorem dX5_by_176 : decode cX5_by 176 = .ok (.iload 13, 2) := by decide +kernel
theorem dX5_by_178 : decode cX5_by 178 = .ok (.ishl, 1) := by decide +kernel
theorem dX5_by_179 : decode cX5_by 179 = .ok (.goto 4, 3) := by decide +kernel
theorem dX5_by_182 : decode cX5_by 182 = .ok (.iconst 0, 1) := by decide +kernel
theorem dX5_by_183 : decode cX5_by 183 = .ok (.ior, 1) := by decide +kernel
theorem dX5_by_184 : decode cX5_by 184 = .ok (.istore 7, 2) := by decide +kernel
theorem dX5_by_186 : decode cX5_by 186 = .ok (.iload_n 3, 1) := by decide +kernel
theorem dX5_by_187 : decode cX5_by 187 = .ok (.iload 4, 2) := by decide +kernel
theorem dX5_by_189 : decode cX5_by 189 = .ok (.ior, 1) := by decide +kernel
theorem dX5_by_190 : decode cX5_by 190 = .ok (.iload 13, 2) := by decide +kernel
theorem dX5_by_192 : decode cX5_by 192 = .ok (.ishr, 1) := by decide +kernel
theorem dX5_by_193 : decode cX5_by 193 = .ok (.iconst 1, 1) := by decide +kernel
theorem dX5_by_194 : decode cX5_by 194 = .ok (.iand, 1) := by decide +kernel
theorem dX5_by_195 : decode cX5_by 195 = .ok (.iconst 1, 1) := by decide +kernel
theorem dX5_by_196 : decode cX5_by 196 = .ok (.if_icmp .ne 7, 3) := by decide +kernel
theorem dX5_by_199 : decode cX5_by 199 = .ok (.iconst 1, 1) := by decide +kernel
theorem dX5_by_200 : decode cX5_by 200 = .ok (.goto 4, 3) := by decide +kernel
theorem dX5_by_203 : decode cX5_by 203 = .ok (.iconst 0, 1) := by decide +kernel
theorem dX5_by_204 : decode cX5_by 204 = .ok (.istore 11, 2) := by decide +kernel
theorem dX5_by_206 : decode cX5_by 206 = .ok (.iload 10, 2) := by decide +kernel
theorem dX5_by_208 : decode cX5_by 208 = .ok (.iload 11, 2) := by decide +kernel
theorem dX5_by_210 : decode cX5_by 210 = .ok (.ifCond .eq 7, 3) := by decide +kernel
theorem dX5_by_213 : decode cX5_by 213 = .ok (.iconst 1, 1) := by decide +kernel
theorem dX5_by_214 : decode cX5_by 214 = .ok (.goto 4, 3) := by decide +kernel
theorem dX5_by_217 : decode cX5_by 217 = .ok (.iconst 0, 1) := by decide +kernel
theorem dX5_by_218 : decode cX5_by 218 = .ok (.iadd, 1) := by decide +kernel
theorem dX5_by_219 : decode cX5_by 219 = .ok (.istore 10, 2) := by decide +kernel
theorem dX5_by_221 : decode cX5_by 221 = .ok (.iload 8, 2) := by decide +kernel
theorem dX5_by_223 : decode cX5_by 223 = .ok (.aload_n 0, 1) := by decide +kernel
theorem dX5_by_224 : decode cX5_by 224 = .ok (.getfield 13, 3) := by decide +kernel
theorem dX5_by_227 : decode cX5_by 227 = .ok (.iload_n 1, 1) := by decide +kernel
theorem dX5_by_228 : decode cX5_by 228 = .ok (.iaload, 1) := by decide +kernel
theorem dX5_by_229 : decode cX5_by 229 = .ok (.iadd, 1) := by decide +kernel
theorem dX5_by_230 : decode cX5_by 230 = .ok (.istore 8, 2) := by decide +kernel
theorem dX5_by_232 : decode cX5_by 232 = .ok (.iload 9, 2) := by decide +kernel
theorem dX5_by_234 : decode cX5_by 234 = .ok (.iload 5, 2) := by decide +kernel
theorem dX5_by_236 : decode cX5_by 236 = .ok (.ifCond .eq 13, 3) := by decide +kernel
theorem dX5_by_239 : decode cX5_by 239 = .ok (.aload_n 0, 1) := by decide +kernel
theorem dX5_by_240 : decode cX5_by 240 = .ok (.getfield 16, 3) := by decide +kernel
theorem dX5_by_243 : decode cX5_by 243 = .ok (.iload_n 1, 1) := by decide +kernel
theorem dX5_by_244 : decode cX5_by 244 = .ok (.iaload, 1) := by decide +kernel
theorem dX5_by_245 : decode cX5_by 245 = .ok (.ineg, 1) := by decide +kernel
theorem dX5_by_246 : decode cX5_by 246 = .ok (.goto 9, 3) := by decide +kernel
theorem dX5_by_249 : decode cX5_by 249 = .ok (.aload_n 0, 1) := by decide +kernel
theorem dX5_by_250 : decode cX5_by 250 = .ok (.getfield 16, 3) := by decide +kernel
theorem dX5_by_253 : decode cX5_by 253 = .ok (.iload_n 1, 1) := by decide +kernel
theorem dX5_by_254 : decode cX5_by 254 = .ok (.iaload, 1) := by decide +kernel
theorem dX5_by_255 : decode cX5_by 255 = .ok (.iadd, 1) := by decide +kernel
theorem dX5_by_256 : decode cX5_by 256 = .ok (.istore 9, 2) := by decide +kernel
theorem dX5_by_258 : decode cX5_by 258 = .ok (.iinc 12 1, 3) := by decide +kernel
theorem dX5_by_261 : decode cX5_by 261 = .ok (.goto (-208), 3) := by decide +kernel
theorem dX5_by_264 : decode cX5_by 264 = .ok (.iload 7, 2) := by decide +kernel
theorem dX5_by_266 : decode cX5_by 266 = .ok (.ireturn, 1) := by decide +kernel
set_option maxRecDepth 20000 in
theorem ggX5_goes_X5_by : GoodIn wsX5_goes wsX5_by := goodIn_r _ [6, 7, 8, 9, 10, 11, 12, 5, 13, 14, 15, 16, 17, 18, 19, 20, 21, 22, 23, 24, 25, 26, 27, 28, 29, 30, 31, 32, 33] (by decide +kernel) (by decide +kernel)
set_option maxRecDepth 20000 in
theorem gX5_goes_X5_by : GoodIn wsX5_goes (wsV RX5 91 RX5 yX5_by wsX5_by) := goodIn_app (goodIn_of _ (by decide +kernel)) ggX5_goes_X5_by
theorem dX5_goes_0 : decode cX5_goes 0 = .ok (.iconst 0, 1) := by decide +kernel
theorem dX5_goes_1 : decode cX5_goes 1 = .ok (.istore 7, 2) := by decide +kernel
theorem dX5_goes_3 : decode cX5_goes 3 = .ok (.iconst 0, 1) := by decide +kernel
theorem dX5_goes_4 : decode cX5_goes 4 = .ok (.istore 8, 2) := by decide +kernel
theorem dX5_goes_6 : decode cX5_goes 6 = .ok (.iload 8, 2) := by decide +kernel
theorem dX5_goes_8 : decode cX5_goes 8 = .ok (.aload_n 0, 1) := by decide +kernel
theorem dX5_goes_9 : decode cX5_goes 9 = .ok (.getfield 76, 3) := by decide +kernel
theorem dX5_goes_12 : decode cX5_goes 12 = .ok (.if_icmp .ge 42, 3) := by decide +kernel
theorem dX5_goes_15 : decode cX5_goes 15 = .ok (.iload 7, 2) := by decide +kernel
theorem dX5_goes_17 : decode cX5_goes 17 = .ok (.iload_n 1, 1) := by decide +kernel
theorem dX5_goes_18 : decode cX5_goes 18 = .ok (.iload 8, 2) := by decide +kernel
theorem dX5_goes_20 : decode cX5_goes 20 = .ok (.ishr, 1) := by decide +kernel
theorem dX5_goes_21 : decode cX5_goes 21 = .ok (.iconst 1, 1) := by decide +kernel
theorem dX5_goes_22 : decode cX5_goes 22 = .ok (.iand, 1) := by decide +kernel
theorem dX5_goes_23 : decode cX5_goes 23 = .ok (.iconst 1, 1) := by decide +kernel
theorem dX5_goes_24 : decode cX5_goes 24 = .ok (.if_icmp .ne 20, 3) := by decide +kernel
theorem dX5_goes_27 : decode cX5_goes 27 = .ok (.aload_n 0, 1) := by decide +kernel
theorem dX5_goes_28 : decode cX5_goes 28 = .ok (.iload 8, 2) := by decide +kernel
theorem dX5_goes_30 : decode cX5_goes 30 = .ok (.iload_n 2, 1) := by decide +kernel
theorem dX5_goes_31 : decode cX5_goes 31 = .ok (.iload_n 3, 1) := by decide +kernel
theorem dX5_goes_32 : decode cX5_goes 32 = .ok (.iload 4, 2) := by decide +kernel
theorem dX5_goes_34 : decode cX5_goes 34 = .ok (.iload 5, 2) := by decide +kernel
theorem dX5_goes_36 : decode cX5_goes 36 = .ok (.iload 6, 2) := by decide +kernel
theorem dX5_goes_38 : decode cX5_goes 38 = .ok (.invokevirtual 91, 3) := by decide +kernel
theorem dX5_goes_41 : decode cX5_goes 41 = .ok (.goto 4, 3) := by decide +kernel
theorem dX5_goes_44 : decode cX5_goes 44 = .ok (.iconst 0, 1) := by decide +kernel
theorem dX5_goes_45 : decode cX5_goes 45 = .ok (.ior, 1) := by decide +kernel
theorem dX5_goes_46 : decode cX5_goes 46 = .ok (.istore 7, 2) := by decide +kernel
theorem dX5_goes_48 : decode cX5_goes 48 = .ok (.iinc 8 1, 3) := by decide +kernel
theorem dX5_goes_51 : decode cX5_goes 51 = .ok (.goto (-45), 3) := by decide +kernel
theorem dX5_goes_54 : decode cX5_goes 54 = .ok (.iload 7, 2) := by decide +kernel
theorem dX5_goes_56 : decode cX5_goes 56 = .ok (.ireturn, 1) := by decide +kernel
set_option maxRecDepth 20000 in
theorem ggX5_moves_X5_goes : GoodIn wsX5_moves wsX5_goes := goodIn_r _ [5, 6, 7, 8, 9, 4, 10, 11, 12, 13, 14, 15, 16, 17, 18, 19, 20, 21, 22, 23, 24, 25, 26, 27, 28, 29, 30, 31, 32, 33, 34, 35, 36, 37] (by decide +kernel) (by decide +kernel)
set_option maxRecDepth 20000 in
theorem gX5_moves_X5_goes : GoodIn wsX5_moves (wsV RX5 95 RX5 yX5_goes wsX5_goes) := goodIn_app (goodIn_of _ (by decide +kernel)) ggX5_moves_X5_goes
theorem dX5_moves_0 : decode cX5_moves 0 = .ok (.iconst 0, 1) := by decide +kernel
theorem dX5_moves_1 : decode cX5_moves 1 = .ok (.istore 6, 2) := by decide +kernel
theorem dX5_moves_3 : decode cX5_moves 3 = .ok (.iconst 0, 1) := by decide +kernel
theorem dX5_moves_4 : decode cX5_moves 4 = .ok (.istore 7, 2) := by decide +kernel
theorem dX5_moves_6 : decode cX5_moves 6 = .ok (.iload 7, 2) := by decide +kernel
theorem dX5_moves_8 : decode cX5_moves 8 = .ok (.bipush 25, 2) := by decide +kernel
theorem dX5_moves_10 : decode cX5_moves 10 = .ok (.if_icmp .ge 47, 3) := by decide +kernel
theorem dX5_moves_13 : decode cX5_moves 13 = .ok (.iload 6, 2) := by decide +kernel
theorem dX5_moves_15 : decode cX5_moves 15 = .ok (.ifCond .ne 42, 3) := by decide +kernel
theorem dX5_moves_18 : decode cX5_moves 18 = .ok (.iload_n 3, 1) := by decide +kernel
theorem dX5_moves_19 : decode cX5_moves 19 = .ok (.iload 7, 2) := by decide +kernel
theorem dX5_moves_21 : decode cX5_moves 21 = .ok (.ishr, 1) := by decide +kernel
theorem dX5_moves_22 : decode cX5_moves 22 = .ok (.iconst 1, 1) := by decide +kernel
theorem dX5_moves_23 : decode cX5_moves 23 = .ok (.iand, 1) := by decide +kernel
theorem dX5_moves_24 : decode cX5_moves 24 = .ok (.iconst 1, 1) := by decide +kernel
theorem dX5_moves_25 : decode cX5_moves 25 = .ok (.if_icmp .ne 23, 3) := by decide +kernel
theorem dX5_moves_28 : decode cX5_moves 28 = .ok (.aload_n 0, 1) := by decide +kernel
theorem dX5_moves_29 : decode cX5_moves 29 = .ok (.iload_n 1, 1) := by decide +kernel
theorem dX5_moves_30 : decode cX5_moves 30 = .ok (.iload_n 2, 1) := by decide +kernel
theorem dX5_moves_31 : decode cX5_moves 31 = .ok (.iload_n 3, 1) := by decide +kernel
theorem dX5_moves_32 : decode cX5_moves 32 = .ok (.iload 4, 2) := by decide +kernel
theorem dX5_moves_34 : decode cX5_moves 34 = .ok (.iload 5, 2) := by decide +kernel
theorem dX5_moves_36 : decode cX5_moves 36 = .ok (.iload 7, 2) := by decide +kernel
theorem dX5_moves_38 : decode cX5_moves 38 = .ok (.invokevirtual 95, 3) := by decide +kernel
theorem dX5_moves_41 : decode cX5_moves 41 = .ok (.ifCond .eq 7, 3) := by decide +kernel
theorem dX5_moves_44 : decode cX5_moves 44 = .ok (.iconst 1, 1) := by decide +kernel
theorem dX5_moves_45 : decode cX5_moves 45 = .ok (.goto 4, 3) := by decide +kernel
theorem dX5_moves_48 : decode cX5_moves 48 = .ok (.iconst 0, 1) := by decide +kernel
theorem dX5_moves_49 : decode cX5_moves 49 = .ok (.istore 6, 2) := by decide +kernel
theorem dX5_moves_51 : decode cX5_moves 51 = .ok (.iinc 7 1, 3) := by decide +kernel
theorem dX5_moves_54 : decode cX5_moves 54 = .ok (.goto (-48), 3) := by decide +kernel
theorem dX5_moves_57 : decode cX5_moves 57 = .ok (.iload 6, 2) := by decide +kernel
theorem dX5_moves_59 : decode cX5_moves 59 = .ok (.ireturn, 1) := by decide +kernel
set_option maxRecDepth 20000 in
theorem ggX5_arePieces_X5_in : GoodIn wsX5_arePieces wsX5_in := goodIn_r _ [5] (by decide +kernel) (by decide +kernel)
set_option maxRecDepth 20000 in
theorem gX5_arePieces_X5_in : GoodIn wsX5_arePieces (va_wsS RX5 68 yX5_in wsX5_in) := goodIn_app (goodIn_of _ (by decide +kernel)) ggX5_arePieces_X5_in
set_option maxRecDepth 20000 in
theorem ggX5_arePieces_X5_size : GoodIn wsX5_arePieces wsX5_size := goodIn_r _ [8] (by decide +kernel) (by decide +kernel)
set_option maxRecDepth 20000 in
theorem gX5_arePieces_X5_size : GoodIn wsX5_arePieces (va_wsS RX5 98 yX5_size wsX5_size) := goodIn_app (goodIn_of _ (by decide +kernel)) ggX5_arePieces_X5_size
theorem dX5_arePieces_0 : decode cX5_arePieces 0 = .ok (.iload_n 1, 1) := by decide +kernel
theorem dX5_arePieces_1 : decode cX5_arePieces 1 = .ok (.iconst 1, 1) := by decide +kernel
theorem dX5_arePieces_2 : decode cX5_arePieces 2 = .ok (.ldc 83, 2) := by decide +kernel
theorem dX5_arePieces_4 : decode cX5_arePieces 4 = .ok (.invokestatic 68, 3) := by decide +kernel
theorem dX5_arePieces_7 : decode cX5_arePieces 7 = .ok (.ifCond .eq 22, 3) := by decide +kernel
theorem dX5_arePieces_10 : decode cX5_arePieces 10 = .ok (.iload_n 1, 1) := by decide +kernel
theorem dX5_arePieces_11 : decode cX5_arePieces 11 = .ok (.invokestatic 98, 3) := by decide +kernel
theorem dX5_arePieces_14 : decode cX5_arePieces 14 = .ok (.bipush 6, 2) := by decide +kernel
theorem dX5_arePieces_16 : decode cX5_arePieces 16 = .ok (.if_icmp .gt 13, 3) := by decide +kernel
theorem dX5_arePieces_19 : decode cX5_arePieces 19 = .ok (.iload_n 1, 1) := by decide +kernel
theorem dX5_arePieces_20 : decode cX5_arePieces 20 = .ok (.iload_n 2, 1) := by decide +kernel
theorem dX5_arePieces_21 : decode cX5_arePieces 21 = .ok (.iand, 1) := by decide +kernel
theorem dX5_arePieces_22 : decode cX5_arePieces 22 = .ok (.ifCond .ne 7, 3) := by decide +kernel
theorem dX5_arePieces_25 : decode cX5_arePieces 25 = .ok (.iconst 1, 1) := by decide +kernel
theorem dX5_arePieces_26 : decode cX5_arePieces 26 = .ok (.goto 4, 3) := by decide +kernel
theorem dX5_arePieces_29 : decode cX5_arePieces 29 = .ok (.iconst 0, 1) := by decide +kernel
theorem dX5_arePieces_30 : decode cX5_arePieces 30 = .ok (.ireturn, 1) := by decide +kernel
theorem dX5_isBannedNow_0 : decode cX5_isBannedNow 0 = .ok (.iconst 0, 1) := by decide +kernel
theorem dX5_isBannedNow_1 : decode cX5_isBannedNow 1 = .ok (.istore_n 2, 1) := by decide +kernel
theorem dX5_isBannedNow_2 : decode cX5_isBannedNow 2 = .ok (.iconst 0, 1) := by decide +kernel
theorem dX5_isBannedNow_3 : decode cX5_isBannedNow 3 = .ok (.istore_n 3, 1) := by decide +kernel
theorem dX5_isBannedNow_4 : decode cX5_isBannedNow 4 = .ok (.iload_n 3, 1) := by decide +kernel
theorem dX5_isBannedNow_5 : decode cX5_isBannedNow 5 = .ok (.iconst 5, 1) := by decide +kernel
theorem dX5_isBannedNow_6 : decode cX5_isBannedNow 6 = .ok (.if_icmp .ge 22, 3) := by decide +kernel
theorem dX5_isBannedNow_9 : decode cX5_isBannedNow 9 = .ok (.iload_n 2, 1) := by decide +kernel
theorem dX5_isBannedNow_10 : decode cX5_isBannedNow 10 = .ok (.aload_n 0, 1) := by decide +kernel
theorem dX5_isBannedNow_11 : decode cX5_isBannedNow 11 = .ok (.getfield 28, 3) := by decide +kernel
theorem dX5_isBannedNow_14 : decode cX5_isBannedNow 14 = .ok (.iload_n 1, 1) := by decide +kernel
theorem dX5_isBannedNow_15 : decode cX5_isBannedNow 15 = .ok (.iaload, 1) := by decide +kernel
theorem dX5_isBannedNow_16 : decode cX5_isBannedNow 16 = .ok (.iload_n 3, 1) := by decide +kernel
theorem dX5_isBannedNow_17 : decode cX5_isBannedNow 17 = .ok (.ishr, 1) := by decide +kernel
theorem dX5_isBannedNow_18 : decode cX5_isBannedNow 18 = .ok (.iconst 1, 1) := by decide +kernel
theorem dX5_isBannedNow_19 : decode cX5_isBannedNow 19 = .ok (.iand, 1) := by decide +kernel
theorem dX5_isBannedNow_20 : decode cX5_isBannedNow 20 = .ok (.iadd, 1) := by decide +kernel
theorem dX5_isBannedNow_21 : decode cX5_isBannedNow 21 = .ok (.istore_n 2, 1) := by decide +kernel
theorem dX5_isBannedNow_22 : decode cX5_isBannedNow 22 = .ok (.iinc 3 1, 3) := by decide +kernel
theorem dX5_isBannedNow_25 : decode cX5_isBannedNow 25 = .ok (.goto (-21), 3) := by decide +kernel
theorem dX5_isBannedNow_28 : decode cX5_isBannedNow 28 = .ok (.iload_n 2, 1) := by decide +kernel
theorem dX5_isBannedNow_29 : decode cX5_isBannedNow 29 = .ok (.iconst 3, 1) := by decide +kernel
theorem dX5_isBannedNow_30 : decode cX5_isBannedNow 30 = .ok (.if_icmp .ge 13, 3) := by decide +kernel
theorem dX5_isBannedNow_33 : decode cX5_isBannedNow 33 = .ok (.aload_n 0, 1) := by decide +kernel
theorem dX5_isBannedNow_34 : decode cX5_isBannedNow 34 = .ok (.getfield 31, 3) := by decide +kernel
theorem dX5_isBannedNow_37 : decode cX5_isBannedNow 37 = .ok (.iload_n 1, 1) := by decide +kernel
theorem dX5_isBannedNow_38 : decode cX5_isBannedNow 38 = .ok (.iaload, 1) := by decide +kernel
theorem dX5_isBannedNow_39 : decode cX5_isBannedNow 39 = .ok (.iconst 2, 1) := by decide +kernel
theorem dX5_isBannedNow_40 : decode cX5_isBannedNow 40 = .ok (.if_icmp .lt 7, 3) := by decide +kernel
theorem dX5_isBannedNow_43 : decode cX5_isBannedNow 43 = .ok (.iconst 1, 1) := by decide +kernel
theorem dX5_isBannedNow_44 : decode cX5_isBannedNow 44 = .ok (.goto 4, 3) := by decide +kernel
theorem dX5_isBannedNow_47 : decode cX5_isBannedNow 47 = .ok (.iconst 0, 1) := by decide +kernel
theorem dX5_isBannedNow_48 : decode cX5_isBannedNow 48 = .ok (.ireturn, 1) := by decide +kernel
set_option maxRecDepth 20000 in
theorem ggX5_begin_X5_isVariant : GoodIn wsX5_begin wsX5_isVariant := goodIn_r _ [16, 17, 64, 65, 66, 67, 68, 69, 70, 71, 72, 73, 74, 75, 76, 77, 78, 79, 80, 81, 82, 83] (by decide +kernel) (by decide +kernel)
set_option maxRecDepth 20000 in
theorem gX5_begin_X5_isVariant : GoodIn wsX5_begin (wsV RX5 88 RX5 yX5_isVariant wsX5_isVariant) := goodIn_app (goodIn_of _ (by decide +kernel)) ggX5_begin_X5_isVariant
set_option maxRecDepth 20000 in
theorem ggX5_begin_X5_isPlayer : GoodIn wsX5_begin wsX5_isPlayer := goodIn_r _ [20] (by decide +kernel) (by decide +kernel)
set_option maxRecDepth 20000 in
theorem gX5_begin_X5_isPlayer : GoodIn wsX5_begin (va_wsS RX5 101 yX5_isPlayer wsX5_isPlayer) := goodIn_app (goodIn_of _ (by decide +kernel)) ggX5_begin_X5_isPlayer
set_option maxRecDepth 20000 in
theorem ggX5_begin_X5_asks : GoodIn wsX5_begin wsX5_asks := goodIn_r _ [24, 25, 64, 65, 66, 67, 68, 69, 70, 71, 72, 73, 74, 75, 76, 77, 78, 79, 80, 81, 82, 83] (by decide +kernel) (by decide +kernel)
set_option maxRecDepth 20000 in
theorem gX5_begin_X5_asks : GoodIn wsX5_begin (wsV RX5 72 RX5 yX5_asks wsX5_asks) := goodIn_app (goodIn_of _ (by decide +kernel)) ggX5_begin_X5_asks
set_option maxRecDepth 20000 in
theorem ggX5_begin_X5_arePieces : GoodIn wsX5_begin wsX5_arePieces := goodIn_r _ [29, 30, 31, 32, 15, 33, 34, 35, 36] (by decide +kernel) (by decide +kernel)
set_option maxRecDepth 20000 in
theorem gX5_begin_X5_arePieces : GoodIn wsX5_begin (wsV RX5 104 RX5 yX5_arePieces wsX5_arePieces) := goodIn_app (goodIn_of _ (by decide +kernel)) ggX5_begin_X5_arePieces
set_option maxRecDepth 20000 in
theorem ggX5_begin_X5_fails : GoodIn wsX5_begin wsX5_fails := goodIn_r _ [40, 25, 64, 65, 66, 67, 68, 69, 70, 71, 72, 73, 74, 75, 76, 77, 78, 79, 80, 81, 82, 83] (by decide +kernel) (by decide +kernel)
set_option maxRecDepth 20000 in
theorem gX5_begin_X5_fails : GoodIn wsX5_begin (wsV RX5 79 RX5 yX5_fails wsX5_fails) := goodIn_app (goodIn_of _ (by decide +kernel)) ggX5_begin_X5_fails
set_option maxRecDepth 20000 in
theorem ggX5_begin_X5_isBannedNow : GoodIn wsX5_begin wsX5_isBannedNow := goodIn_r _ [44, 45, 46, 64, 65, 66, 67, 68, 69, 70, 71, 72, 73, 74, 75, 76, 77, 78, 79, 80, 81, 82, 83] (by decide +kernel) (by decide +kernel)
set_option maxRecDepth 20000 in
theorem gX5_begin_X5_isBannedNow : GoodIn wsX5_begin (wsV RX5 108 RX5 yX5_isBannedNow wsX5_isBannedNow) := goodIn_app (goodIn_of _ (by decide +kernel)) ggX5_begin_X5_isBannedNow
set_option maxRecDepth 20000 in
theorem ggX5_begin_X5_moves : GoodIn wsX5_begin wsX5_moves := goodIn_r _ [50, 51, 52, 53, 15, 54, 55, 56, 57, 58, 59, 60, 61, 62, 63, 31, 32, 33, 64, 65, 66, 67, 68, 69, 70, 71, 72, 73, 74, 75, 76, 77, 78, 79, 80, 81, 82, 83] (by decide +kernel) (by decide +kernel)
set_option maxRecDepth 20000 in
theorem gX5_begin_X5_moves : GoodIn wsX5_begin (wsV RX5 111 RX5 yX5_moves wsX5_moves) := goodIn_app (goodIn_of _ (by decide +kernel)) ggX5_begin_X5_moves
theorem dX5_begin_0 : decode cX5_begin 0 = .ok (.aload_n 0, 1) := by decide +kernel
theorem dX5_begin_1 : decode cX5_begin 1 = .ok (.aload_n 0, 1) := by decide +kernel
theorem dX5_begin_2 : decode cX5_begin 2 = .ok (.iload_n 1, 1) := by decide +kernel
theorem dX5_begin_3 : decode cX5_begin 3 = .ok (.invokevirtual 88, 3) := by decide +kernel
theorem dX5_begin_6 : decode cX5_begin 6 = .ok (.ifCond .eq 21, 3) := by decide +kernel
theorem dX5_begin_9 : decode cX5_begin 9 = .ok (.iload_n 2, 1) := by decide +kernel
theorem dX5_begin_10 : decode cX5_begin 10 = .ok (.invokestatic 101, 3) := by decide +kernel
theorem dX5_begin_13 : decode cX5_begin 13 = .ok (.ifCond .eq 14, 3) := by decide +kernel
theorem dX5_begin_16 : decode cX5_begin 16 = .ok (.iload_n 3, 1) := by decide +kernel
theorem dX5_begin_17 : decode cX5_begin 17 = .ok (.invokestatic 101, 3) := by decide +kernel
theorem dX5_begin_20 : decode cX5_begin 20 = .ok (.ifCond .eq 7, 3) := by decide +kernel
theorem dX5_begin_23 : decode cX5_begin 23 = .ok (.iconst 1, 1) := by decide +kernel
theorem dX5_begin_24 : decode cX5_begin 24 = .ok (.goto 4, 3) := by decide +kernel
theorem dX5_begin_27 : decode cX5_begin 27 = .ok (.iconst 0, 1) := by decide +kernel
theorem dX5_begin_28 : decode cX5_begin 28 = .ok (.invokevirtual 72, 3) := by decide +kernel
theorem dX5_begin_31 : decode cX5_begin 31 = .ok (.ifCond .ne 5, 3) := by decide +kernel
theorem dX5_begin_34 : decode cX5_begin 34 = .ok (.iconst 0, 1) := by decide +kernel
theorem dX5_begin_35 : decode cX5_begin 35 = .ok (.ireturn, 1) := by decide +kernel
theorem dX5_begin_36 : decode cX5_begin 36 = .ok (.aload_n 0, 1) := by decide +kernel
theorem dX5_begin_37 : decode cX5_begin 37 = .ok (.getfield 22, 3) := by decide +kernel
theorem dX5_begin_40 : decode cX5_begin 40 = .ok (.iload_n 1, 1) := by decide +kernel
theorem dX5_begin_41 : decode cX5_begin 41 = .ok (.iaload, 1) := by decide +kernel
theorem dX5_begin_42 : decode cX5_begin 42 = .ok (.istore 6, 2) := by decide +kernel
theorem dX5_begin_44 : decode cX5_begin 44 = .ok (.iload_n 2, 1) := by decide +kernel
theorem dX5_begin_45 : decode cX5_begin 45 = .ok (.iload_n 3, 1) := by decide +kernel
theorem dX5_begin_46 : decode cX5_begin 46 = .ok (.if_icmp .eq 33, 3) := by decide +kernel
theorem dX5_begin_49 : decode cX5_begin 49 = .ok (.aload_n 0, 1) := by decide +kernel
theorem dX5_begin_50 : decode cX5_begin 50 = .ok (.iload 4, 2) := by decide +kernel
theorem dX5_begin_52 : decode cX5_begin 52 = .ok (.iload 6, 2) := by decide +kernel
theorem dX5_begin_54 : decode cX5_begin 54 = .ok (.invokevirtual 104, 3) := by decide +kernel
theorem dX5_begin_57 : decode cX5_begin 57 = .ok (.ifCond .eq 22, 3) := by decide +kernel
theorem dX5_begin_60 : decode cX5_begin 60 = .ok (.aload_n 0, 1) := by decide +kernel
theorem dX5_begin_61 : decode cX5_begin 61 = .ok (.iload 5, 2) := by decide +kernel
theorem dX5_begin_63 : decode cX5_begin 63 = .ok (.iload 6, 2) := by decide +kernel
theorem dX5_begin_65 : decode cX5_begin 65 = .ok (.invokevirtual 104, 3) := by decide +kernel
theorem dX5_begin_68 : decode cX5_begin 68 = .ok (.ifCond .eq 11, 3) := by decide +kernel
theorem dX5_begin_71 : decode cX5_begin 71 = .ok (.iload 4, 2) := by decide +kernel
theorem dX5_begin_73 : decode cX5_begin 73 = .ok (.iload 5, 2) := by decide +kernel
theorem dX5_begin_75 : decode cX5_begin 75 = .ok (.iand, 1) := by decide +kernel
theorem dX5_begin_76 : decode cX5_begin 76 = .ok (.ifCond .eq 9, 3) := by decide +kernel
theorem dX5_begin_79 : decode cX5_begin 79 = .ok (.aload_n 0, 1) := by decide +kernel
theorem dX5_begin_80 : decode cX5_begin 80 = .ok (.iconst 2, 1) := by decide +kernel
theorem dX5_begin_81 : decode cX5_begin 81 = .ok (.invokevirtual 79, 3) := by decide +kernel
theorem dX5_begin_84 : decode cX5_begin 84 = .ok (.ireturn, 1) := by decide +kernel
theorem dX5_begin_85 : decode cX5_begin 85 = .ok (.aload_n 0, 1) := by decide +kernel
theorem dX5_begin_86 : decode cX5_begin 86 = .ok (.iload_n 1, 1) := by decide +kernel
theorem dX5_begin_87 : decode cX5_begin 87 = .ok (.invokevirtual 108, 3) := by decide +kernel
theorem dX5_begin_90 : decode cX5_begin 90 = .ok (.ifCond .ne 32, 3) := by decide +kernel
theorem dX5_begin_93 : decode cX5_begin 93 = .ok (.aload_n 0, 1) := by decide +kernel
theorem dX5_begin_94 : decode cX5_begin 94 = .ok (.getfield 65, 3) := by decide +kernel
theorem dX5_begin_97 : decode cX5_begin 97 = .ok (.bipush 12, 2) := by decide +kernel
theorem dX5_begin_99 : decode cX5_begin 99 = .ok (.if_icmp .eq 23, 3) := by decide +kernel
theorem dX5_begin_102 : decode cX5_begin 102 = .ok (.aload_n 0, 1) := by decide +kernel
theorem dX5_begin_103 : decode cX5_begin 103 = .ok (.aload_n 0, 1) := by decide +kernel
theorem dX5_begin_104 : decode cX5_begin 104 = .ok (.getfield 25, 3) := by decide +kernel
theorem dX5_begin_107 : decode cX5_begin 107 = .ok (.iload_n 1, 1) := by decide +kernel
theorem dX5_begin_108 : decode cX5_begin 108 = .ok (.iaload, 1) := by decide +kernel
theorem dX5_begin_109 : decode cX5_begin 109 = .ok (.iload 6, 2) := by decide +kernel
theorem dX5_begin_111 : decode cX5_begin 111 = .ok (.iload 4, 2) := by decide +kernel
theorem dX5_begin_113 : decode cX5_begin 113 = .ok (.iload 5, 2) := by decide +kernel
theorem dX5_begin_115 : decode cX5_begin 115 = .ok (.iconst 0, 1) := by decide +kernel
theorem dX5_begin_116 : decode cX5_begin 116 = .ok (.invokevirtual 111, 3) := by decide +kernel
theorem dX5_begin_119 : decode cX5_begin 119 = .ok (.ifCond .ne 9, 3) := by decide +kernel
theorem dX5_begin_122 : decode cX5_begin 122 = .ok (.aload_n 0, 1) := by decide +kernel
theorem dX5_begin_123 : decode cX5_begin 123 = .ok (.iconst 3, 1) := by decide +kernel
theorem dX5_begin_124 : decode cX5_begin 124 = .ok (.invokevirtual 79, 3) := by decide +kernel
theorem dX5_begin_127 : decode cX5_begin 127 = .ok (.ireturn, 1) := by decide +kernel
theorem dX5_begin_128 : decode cX5_begin 128 = .ok (.aload_n 0, 1) := by decide +kernel
theorem dX5_begin_129 : decode cX5_begin 129 = .ok (.getfield 34, 3) := by decide +kernel
theorem dX5_begin_132 : decode cX5_begin 132 = .ok (.aload_n 0, 1) := by decide +kernel
theorem dX5_begin_133 : decode cX5_begin 133 = .ok (.getfield 65, 3) := by decide +kernel
theorem dX5_begin_136 : decode cX5_begin 136 = .ok (.iload_n 1, 1) := by decide +kernel
theorem dX5_begin_137 : decode cX5_begin 137 = .ok (.iastore, 1) := by decide +kernel
theorem dX5_begin_138 : decode cX5_begin 138 = .ok (.aload_n 0, 1) := by decide +kernel
theorem dX5_begin_139 : decode cX5_begin 139 = .ok (.getfield 37, 3) := by decide +kernel
theorem dX5_begin_142 : decode cX5_begin 142 = .ok (.aload_n 0, 1) := by decide +kernel
theorem dX5_begin_143 : decode cX5_begin 143 = .ok (.getfield 65, 3) := by decide +kernel
theorem dX5_begin_146 : decode cX5_begin 146 = .ok (.aload_n 0, 1) := by decide +kernel
theorem dX5_begin_147 : decode cX5_begin 147 = .ok (.getfield 25, 3) := by decide +kernel
theorem dX5_begin_150 : decode cX5_begin 150 = .ok (.iload_n 1, 1) := by decide +kernel
theorem dX5_begin_151 : decode cX5_begin 151 = .ok (.iaload, 1) := by decide +kernel
theorem dX5_begin_152 : decode cX5_begin 152 = .ok (.iastore, 1) := by decide +kernel
theorem dX5_begin_153 : decode cX5_begin 153 = .ok (.aload_n 0, 1) := by decide +kernel
theorem dX5_begin_154 : decode cX5_begin 154 = .ok (.getfield 40, 3) := by decide +kernel
theorem dX5_begin_157 : decode cX5_begin 157 = .ok (.aload_n 0, 1) := by decide +kernel
theorem dX5_begin_158 : decode cX5_begin 158 = .ok (.getfield 65, 3) := by decide +kernel
theorem dX5_begin_161 : decode cX5_begin 161 = .ok (.iload_n 2, 1) := by decide +kernel
theorem dX5_begin_162 : decode cX5_begin 162 = .ok (.iastore, 1) := by decide +kernel
theorem dX5_begin_163 : decode cX5_begin 163 = .ok (.aload_n 0, 1) := by decide +kernel
theorem dX5_begin_164 : decode cX5_begin 164 = .ok (.getfield 43, 3) := by decide +kernel
theorem dX5_begin_167 : decode cX5_begin 167 = .ok (.aload_n 0, 1) := by decide +kernel
theorem dX5_begin_168 : decode cX5_begin 168 = .ok (.getfield 65, 3) := by decide +kernel
theorem dX5_begin_171 : decode cX5_begin 171 = .ok (.iload_n 3, 1) := by decide +kernel
theorem dX5_begin_172 : decode cX5_begin 172 = .ok (.iastore, 1) := by decide +kernel
theorem dX5_begin_173 : decode cX5_begin 173 = .ok (.aload_n 0, 1) := by decide +kernel
theorem dX5_begin_174 : decode cX5_begin 174 = .ok (.getfield 46, 3) := by decide +kernel
theorem dX5_begin_177 : decode cX5_begin 177 = .ok (.aload_n 0, 1) := by decide +kernel
theorem dX5_begin_178 : decode cX5_begin 178 = .ok (.getfield 65, 3) := by decide +kernel
theorem dX5_begin_181 : decode cX5_begin 181 = .ok (.iconst 0, 1) := by decide +kernel
theorem dX5_begin_182 : decode cX5_begin 182 = .ok (.iastore, 1) := by decide +kernel
theorem dX5_begin_183 : decode cX5_begin 183 = .ok (.aload_n 0, 1) := by decide +kernel
theorem dX5_begin_184 : decode cX5_begin 184 = .ok (.getfield 49, 3) := by decide +kernel
theorem dX5_begin_187 : decode cX5_begin 187 = .ok (.aload_n 0, 1) := by decide +kernel
theorem dX5_begin_188 : decode cX5_begin 188 = .ok (.getfield 65, 3) := by decide +kernel
theorem dX5_begin_191 : decode cX5_begin 191 = .ok (.iconst 0, 1) := by decide +kernel
theorem dX5_begin_192 : decode cX5_begin 192 = .ok (.iastore, 1) := by decide +kernel
theorem dX5_begin_193 : decode cX5_begin 193 = .ok (.aload_n 0, 1) := by decide +kernel
theorem dX5_begin_194 : decode cX5_begin 194 = .ok (.getfield 52, 3) := by decide +kernel
theorem dX5_begin_197 : decode cX5_begin 197 = .ok (.bipush 61, 2) := by decide +kernel
theorem dX5_begin_199 : decode cX5_begin 199 = .ok (.aload_n 0, 1) := by decide +kernel
theorem dX5_begin_200 : decode cX5_begin 200 = .ok (.getfield 65, 3) := by decide +kernel
theorem dX5_begin_203 : decode cX5_begin 203 = .ok (.imul, 1) := by decide +kernel
theorem dX5_begin_204 : decode cX5_begin 204 = .ok (.iload 4, 2) := by decide +kernel
theorem dX5_begin_206 : decode cX5_begin 206 = .ok (.iastore, 1) := by decide +kernel
theorem dX5_begin_207 : decode cX5_begin 207 = .ok (.aload_n 0, 1) := by decide +kernel
theorem dX5_begin_208 : decode cX5_begin 208 = .ok (.getfield 55, 3) := by decide +kernel
theorem dX5_begin_211 : decode cX5_begin 211 = .ok (.bipush 61, 2) := by decide +kernel
theorem dX5_begin_213 : decode cX5_begin 213 = .ok (.aload_n 0, 1) := by decide +kernel
theorem dX5_begin_214 : decode cX5_begin 214 = .ok (.getfield 65, 3) := by decide +kernel
theorem dX5_begin_217 : decode cX5_begin 217 = .ok (.imul, 1) := by decide +kernel
theorem dX5_begin_218 : decode cX5_begin 218 = .ok (.iload 5, 2) := by decide +kernel
theorem dX5_begin_220 : decode cX5_begin 220 = .ok (.iastore, 1) := by decide +kernel
theorem dX5_begin_221 : decode cX5_begin 221 = .ok (.aload_n 0, 1) := by decide +kernel
theorem dX5_begin_222 : decode cX5_begin 222 = .ok (.dup, 1) := by decide +kernel
theorem dX5_begin_223 : decode cX5_begin 223 = .ok (.getfield 65, 3) := by decide +kernel
theorem dX5_begin_226 : decode cX5_begin 226 = .ok (.iconst 1, 1) := by decide +kernel
theorem dX5_begin_227 : decode cX5_begin 227 = .ok (.iadd, 1) := by decide +kernel
theorem dX5_begin_228 : decode cX5_begin 228 = .ok (.putfield 65, 3) := by decide +kernel
theorem dX5_begin_231 : decode cX5_begin 231 = .ok (.aload_n 0, 1) := by decide +kernel
theorem dX5_begin_232 : decode cX5_begin 232 = .ok (.getfield 65, 3) := by decide +kernel
theorem dX5_begin_235 : decode cX5_begin 235 = .ok (.iconst 1, 1) := by decide +kernel
theorem dX5_begin_236 : decode cX5_begin 236 = .ok (.isub, 1) := by decide +kernel
theorem dX5_begin_237 : decode cX5_begin 237 = .ok (.ireturn, 1) := by decide +kernel
theorem dX5_at_0 : decode cX5_at 0 = .ok (.bipush 61, 2) := by decide +kernel
theorem dX5_at_2 : decode cX5_at 2 = .ok (.iload_n 1, 1) := by decide +kernel
theorem dX5_at_3 : decode cX5_at 3 = .ok (.imul, 1) := by decide +kernel
theorem dX5_at_4 : decode cX5_at 4 = .ok (.aload_n 0, 1) := by decide +kernel
theorem dX5_at_5 : decode cX5_at 5 = .ok (.getfield 49, 3) := by decide +kernel
theorem dX5_at_8 : decode cX5_at 8 = .ok (.iload_n 1, 1) := by decide +kernel
theorem dX5_at_9 : decode cX5_at 9 = .ok (.iaload, 1) := by decide +kernel
theorem dX5_at_10 : decode cX5_at 10 = .ok (.iadd, 1) := by decide +kernel
theorem dX5_at_11 : decode cX5_at 11 = .ok (.ireturn, 1) := by decide +kernel
theorem dX5_isSecondsTurn_0 : decode cX5_isSecondsTurn 0 = .ok (.aload_n 0, 1) := by decide +kernel
theorem dX5_isSecondsTurn_1 : decode cX5_isSecondsTurn 1 = .ok (.getfield 49, 3) := by decide +kernel
theorem dX5_isSecondsTurn_4 : decode cX5_isSecondsTurn 4 = .ok (.iload_n 1, 1) := by decide +kernel
theorem dX5_isSecondsTurn_5 : decode cX5_isSecondsTurn 5 = .ok (.iaload, 1) := by decide +kernel
theorem dX5_isSecondsTurn_6 : decode cX5_isSecondsTurn 6 = .ok (.iconst 2, 1) := by decide +kernel
theorem dX5_isSecondsTurn_7 : decode cX5_isSecondsTurn 7 = .ok (.irem, 1) := by decide +kernel
theorem dX5_isSecondsTurn_8 : decode cX5_isSecondsTurn 8 = .ok (.iconst 1, 1) := by decide +kernel
theorem dX5_isSecondsTurn_9 : decode cX5_isSecondsTurn 9 = .ok (.if_icmp .ne 7, 3) := by decide +kernel
theorem dX5_isSecondsTurn_12 : decode cX5_isSecondsTurn 12 = .ok (.iconst 1, 1) := by decide +kernel
theorem dX5_isSecondsTurn_13 : decode cX5_isSecondsTurn 13 = .ok (.goto 4, 3) := by decide +kernel
theorem dX5_isSecondsTurn_16 : decode cX5_isSecondsTurn 16 = .ok (.iconst 0, 1) := by decide +kernel
theorem dX5_isSecondsTurn_17 : decode cX5_isSecondsTurn 17 = .ok (.ireturn, 1) := by decide +kernel
set_option maxRecDepth 20000 in
theorem ggX5_piecesOf_X5_isSecondsTurn : GoodIn wsX5_piecesOf wsX5_isSecondsTurn := goodIn_r _ [7, 8, 13, 14, 15, 16, 17, 18, 19, 20, 21, 22, 23, 24, 25, 26, 27, 28, 29, 30, 31, 32] (by decide +kernel) (by decide +kernel)
set_option maxRecDepth 20000 in
theorem gX5_piecesOf_X5_isSecondsTurn : GoodIn wsX5_piecesOf (wsV RX5 115 RX5 yX5_isSecondsTurn wsX5_isSecondsTurn) := goodIn_app (goodIn_of _ (by decide +kernel)) ggX5_piecesOf_X5_isSecondsTurn
set_option maxRecDepth 20000 in
theorem ggX5_piecesOf_X5_at : GoodIn wsX5_piecesOf wsX5_at := goodIn_r _ [12, 8, 13, 14, 15, 16, 17, 18, 19, 20, 21, 22, 23, 24, 25, 26, 27, 28, 29, 30, 31, 32] (by decide +kernel) (by decide +kernel)
set_option maxRecDepth 20000 in
theorem gX5_piecesOf_X5_at : GoodIn wsX5_piecesOf (wsV RX5 118 RX5 yX5_at wsX5_at) := goodIn_app (goodIn_of _ (by decide +kernel)) ggX5_piecesOf_X5_at
theorem dX5_piecesOf_0 : decode cX5_piecesOf 0 = .ok (.iload_n 2, 1) := by decide +kernel
theorem dX5_piecesOf_1 : decode cX5_piecesOf 1 = .ok (.aload_n 0, 1) := by decide +kernel
theorem dX5_piecesOf_2 : decode cX5_piecesOf 2 = .ok (.iload_n 1, 1) := by decide +kernel
theorem dX5_piecesOf_3 : decode cX5_piecesOf 3 = .ok (.invokevirtual 115, 3) := by decide +kernel
theorem dX5_piecesOf_6 : decode cX5_piecesOf 6 = .ok (.if_icmp .ne 16, 3) := by decide +kernel
theorem dX5_piecesOf_9 : decode cX5_piecesOf 9 = .ok (.aload_n 0, 1) := by decide +kernel
theorem dX5_piecesOf_10 : decode cX5_piecesOf 10 = .ok (.getfield 55, 3) := by decide +kernel
theorem dX5_piecesOf_13 : decode cX5_piecesOf 13 = .ok (.aload_n 0, 1) := by decide +kernel
theorem dX5_piecesOf_14 : decode cX5_piecesOf 14 = .ok (.iload_n 1, 1) := by decide +kernel
theorem dX5_piecesOf_15 : decode cX5_piecesOf 15 = .ok (.invokevirtual 118, 3) := by decide +kernel
theorem dX5_piecesOf_18 : decode cX5_piecesOf 18 = .ok (.iaload, 1) := by decide +kernel
theorem dX5_piecesOf_19 : decode cX5_piecesOf 19 = .ok (.goto 13, 3) := by decide +kernel
theorem dX5_piecesOf_22 : decode cX5_piecesOf 22 = .ok (.aload_n 0, 1) := by decide +kernel
theorem dX5_piecesOf_23 : decode cX5_piecesOf 23 = .ok (.getfield 52, 3) := by decide +kernel
theorem dX5_piecesOf_26 : decode cX5_piecesOf 26 = .ok (.aload_n 0, 1) := by decide +kernel
theorem dX5_piecesOf_27 : decode cX5_piecesOf 27 = .ok (.iload_n 1, 1) := by decide +kernel
theorem dX5_piecesOf_28 : decode cX5_piecesOf 28 = .ok (.invokevirtual 118, 3) := by decide +kernel
theorem dX5_piecesOf_31 : decode cX5_piecesOf 31 = .ok (.iaload, 1) := by decide +kernel
theorem dX5_piecesOf_32 : decode cX5_piecesOf 32 = .ok (.ireturn, 1) := by decide +kernel
set_option maxRecDepth 20000 in
theorem ggX5_canNow_X5_piecesOf : GoodIn wsX5_canNow wsX5_piecesOf := goodIn_r _ [9, 10, 11, 12, 13, 14, 8, 15, 16, 17, 18, 19, 20, 37, 38, 39, 40, 41, 42, 43, 44, 45, 46, 47, 48, 49, 50, 51, 52, 53, 54, 55, 56] (by decide +kernel) (by decide +kernel)
set_option maxRecDepth 20000 in
theorem gX5_canNow_X5_piecesOf : GoodIn wsX5_canNow (wsV RX5 121 RX5 yX5_piecesOf wsX5_piecesOf) := goodIn_app (goodIn_of _ (by decide +kernel)) ggX5_canNow_X5_piecesOf
set_option maxRecDepth 20000 in
theorem ggX5_canNow_X5_isSecondsTurn : GoodIn wsX5_canNow wsX5_isSecondsTurn := goodIn_r _ [15, 16, 37, 38, 39, 40, 41, 42, 43, 44, 45, 46, 47, 48, 49, 50, 51, 52, 53, 54, 55, 56] (by decide +kernel) (by decide +kernel)
set_option maxRecDepth 20000 in
theorem gX5_canNow_X5_isSecondsTurn : GoodIn wsX5_canNow (wsV RX5 115 RX5 yX5_isSecondsTurn wsX5_isSecondsTurn) := goodIn_app (goodIn_of _ (by decide +kernel)) ggX5_canNow_X5_isSecondsTurn
set_option maxRecDepth 20000 in
theorem ggX5_canNow_X5_goes : GoodIn wsX5_canNow wsX5_goes := goodIn_r _ [24, 25, 26, 27, 28, 8, 29, 30, 31, 32, 33, 34, 35, 36, 37, 38, 39, 40, 41, 42, 43, 44, 45, 46, 47, 48, 49, 50, 51, 52, 53, 54, 55, 56] (by decide +kernel) (by decide +kernel)
set_option maxRecDepth 20000 in
theorem gX5_canNow_X5_goes : GoodIn wsX5_canNow (wsV RX5 95 RX5 yX5_goes wsX5_goes) := goodIn_app (goodIn_of _ (by decide +kernel)) ggX5_canNow_X5_goes
theorem dX5_canNow_0 : decode cX5_canNow 0 = .ok (.aload_n 0, 1) := by decide +kernel
theorem dX5_canNow_1 : decode cX5_canNow 1 = .ok (.iload_n 1, 1) := by decide +kernel
theorem dX5_canNow_2 : decode cX5_canNow 2 = .ok (.iconst 1, 1) := by decide +kernel
theorem dX5_canNow_3 : decode cX5_canNow 3 = .ok (.invokevirtual 121, 3) := by decide +kernel
theorem dX5_canNow_6 : decode cX5_canNow 6 = .ok (.istore 4, 2) := by decide +kernel
theorem dX5_canNow_8 : decode cX5_canNow 8 = .ok (.aload_n 0, 1) := by decide +kernel
theorem dX5_canNow_9 : decode cX5_canNow 9 = .ok (.getfield 46, 3) := by decide +kernel
theorem dX5_canNow_12 : decode cX5_canNow 12 = .ok (.iload_n 1, 1) := by decide +kernel
theorem dX5_canNow_13 : decode cX5_canNow 13 = .ok (.iaload, 1) := by decide +kernel
theorem dX5_canNow_14 : decode cX5_canNow 14 = .ok (.ifCond .ne 60, 3) := by decide +kernel
theorem dX5_canNow_17 : decode cX5_canNow 17 = .ok (.iload 4, 2) := by decide +kernel
theorem dX5_canNow_19 : decode cX5_canNow 19 = .ok (.iload_n 2, 1) := by decide +kernel
theorem dX5_canNow_20 : decode cX5_canNow 20 = .ok (.ishr, 1) := by decide +kernel
theorem dX5_canNow_21 : decode cX5_canNow 21 = .ok (.iconst 1, 1) := by decide +kernel
theorem dX5_canNow_22 : decode cX5_canNow 22 = .ok (.iand, 1) := by decide +kernel
theorem dX5_canNow_23 : decode cX5_canNow 23 = .ok (.iconst 1, 1) := by decide +kernel
theorem dX5_canNow_24 : decode cX5_canNow 24 = .ok (.if_icmp .ne 50, 3) := by decide +kernel
theorem dX5_canNow_27 : decode cX5_canNow 27 = .ok (.aload_n 0, 1) := by decide +kernel
theorem dX5_canNow_28 : decode cX5_canNow 28 = .ok (.aload_n 0, 1) := by decide +kernel
theorem dX5_canNow_29 : decode cX5_canNow 29 = .ok (.getfield 37, 3) := by decide +kernel
theorem dX5_canNow_32 : decode cX5_canNow 32 = .ok (.iload_n 1, 1) := by decide +kernel
theorem dX5_canNow_33 : decode cX5_canNow 33 = .ok (.iaload, 1) := by decide +kernel
theorem dX5_canNow_34 : decode cX5_canNow 34 = .ok (.aload_n 0, 1) := by decide +kernel
theorem dX5_canNow_35 : decode cX5_canNow 35 = .ok (.getfield 22, 3) := by decide +kernel
theorem dX5_canNow_38 : decode cX5_canNow 38 = .ok (.aload_n 0, 1) := by decide +kernel
theorem dX5_canNow_39 : decode cX5_canNow 39 = .ok (.getfield 34, 3) := by decide +kernel
theorem dX5_canNow_42 : decode cX5_canNow 42 = .ok (.iload_n 1, 1) := by decide +kernel
theorem dX5_canNow_43 : decode cX5_canNow 43 = .ok (.iaload, 1) := by decide +kernel
theorem dX5_canNow_44 : decode cX5_canNow 44 = .ok (.iaload, 1) := by decide +kernel
theorem dX5_canNow_45 : decode cX5_canNow 45 = .ok (.iload 4, 2) := by decide +kernel
theorem dX5_canNow_47 : decode cX5_canNow 47 = .ok (.aload_n 0, 1) := by decide +kernel
theorem dX5_canNow_48 : decode cX5_canNow 48 = .ok (.iload_n 1, 1) := by decide +kernel
theorem dX5_canNow_49 : decode cX5_canNow 49 = .ok (.iconst 0, 1) := by decide +kernel
theorem dX5_canNow_50 : decode cX5_canNow 50 = .ok (.invokevirtual 121, 3) := by decide +kernel
theorem dX5_canNow_53 : decode cX5_canNow 53 = .ok (.aload_n 0, 1) := by decide +kernel
theorem dX5_canNow_54 : decode cX5_canNow 54 = .ok (.iload_n 1, 1) := by decide +kernel
theorem dX5_canNow_55 : decode cX5_canNow 55 = .ok (.invokevirtual 115, 3) := by decide +kernel
theorem dX5_canNow_58 : decode cX5_canNow 58 = .ok (.iload_n 2, 1) := by decide +kernel
theorem dX5_canNow_59 : decode cX5_canNow 59 = .ok (.invokevirtual 95, 3) := by decide +kernel
theorem dX5_canNow_62 : decode cX5_canNow 62 = .ok (.iload_n 3, 1) := by decide +kernel
theorem dX5_canNow_63 : decode cX5_canNow 63 = .ok (.ishr, 1) := by decide +kernel
theorem dX5_canNow_64 : decode cX5_canNow 64 = .ok (.iconst 1, 1) := by decide +kernel
theorem dX5_canNow_65 : decode cX5_canNow 65 = .ok (.iand, 1) := by decide +kernel
theorem dX5_canNow_66 : decode cX5_canNow 66 = .ok (.iconst 1, 1) := by decide +kernel
theorem dX5_canNow_67 : decode cX5_canNow 67 = .ok (.if_icmp .ne 7, 3) := by decide +kernel
theorem dX5_canNow_70 : decode cX5_canNow 70 = .ok (.iconst 1, 1) := by decide +kernel
theorem dX5_canNow_71 : decode cX5_canNow 71 = .ok (.goto 4, 3) := by decide +kernel
theorem dX5_canNow_74 : decode cX5_canNow 74 = .ok (.iconst 0, 1) := by decide +kernel
theorem dX5_canNow_75 : decode cX5_canNow 75 = .ok (.ireturn, 1) := by decide +kernel
set_option maxRecDepth 20000 in
theorem ggX5_can_X5_isGame : GoodIn wsX5_can wsX5_isGame := goodIn_r _ [5, 6, 54, 55, 56, 57, 58, 59, 60, 61, 62, 63, 64, 65, 66, 67, 68, 69, 70, 71, 72, 73] (by decide +kernel) (by decide +kernel)
set_option maxRecDepth 20000 in
theorem gX5_can_X5_isGame : GoodIn wsX5_can (wsV RX5 125 RX5 yX5_isGame wsX5_isGame) := goodIn_app (goodIn_of _ (by decide +kernel)) ggX5_can_X5_isGame
set_option maxRecDepth 20000 in
theorem ggX5_can_X5_isCell : GoodIn wsX5_can wsX5_isCell := goodIn_r _ [9] (by decide +kernel) (by decide +kernel)
set_option maxRecDepth 20000 in
theorem gX5_can_X5_isCell : GoodIn wsX5_can (va_wsS RX5 128 yX5_isCell wsX5_isCell) := goodIn_app (goodIn_of _ (by decide +kernel)) ggX5_can_X5_isCell
set_option maxRecDepth 20000 in
theorem ggX5_can_X5_asks : GoodIn wsX5_can wsX5_asks := goodIn_r _ [13, 14, 54, 55, 56, 57, 58, 59, 60, 61, 62, 63, 64, 65, 66, 67, 68, 69, 70, 71, 72, 73] (by decide +kernel) (by decide +kernel)
set_option maxRecDepth 20000 in
theorem gX5_can_X5_asks : GoodIn wsX5_can (wsV RX5 72 RX5 yX5_asks wsX5_asks) := goodIn_app (goodIn_of _ (by decide +kernel)) ggX5_can_X5_asks
set_option maxRecDepth 20000 in
theorem ggX5_can_X5_canNow : GoodIn wsX5_can wsX5_canNow := goodIn_r _ [18, 19, 20, 21, 22, 23, 24, 25, 4, 26, 27, 28, 29, 30, 31, 32, 33, 34, 35, 36, 37, 38, 39, 40, 41, 42, 43, 44, 45, 46, 47, 48, 49, 50, 51, 52, 53, 54, 55, 56, 57, 58, 59, 60, 61, 62, 63, 64, 65, 66, 67, 68, 69, 70, 71, 72, 73] (by decide +kernel) (by decide +kernel)
set_option maxRecDepth 20000 in
theorem gX5_can_X5_canNow : GoodIn wsX5_can (wsV RX5 131 RX5 yX5_canNow wsX5_canNow) := goodIn_app (goodIn_of _ (by decide +kernel)) ggX5_can_X5_canNow
theorem dX5_can_0 : decode cX5_can 0 = .ok (.aload_n 0, 1) := by decide +kernel
theorem dX5_can_1 : decode cX5_can 1 = .ok (.aload_n 0, 1) := by decide +kernel
theorem dX5_can_2 : decode cX5_can 2 = .ok (.iload_n 1, 1) := by decide +kernel
theorem dX5_can_3 : decode cX5_can 3 = .ok (.invokevirtual 125, 3) := by decide +kernel
theorem dX5_can_6 : decode cX5_can 6 = .ok (.ifCond .eq 21, 3) := by decide +kernel
theorem dX5_can_9 : decode cX5_can 9 = .ok (.iload_n 2, 1) := by decide +kernel
theorem dX5_can_10 : decode cX5_can 10 = .ok (.invokestatic 128, 3) := by decide +kernel
theorem dX5_can_13 : decode cX5_can 13 = .ok (.ifCond .eq 14, 3) := by decide +kernel
theorem dX5_can_16 : decode cX5_can 16 = .ok (.iload_n 3, 1) := by decide +kernel
theorem dX5_can_17 : decode cX5_can 17 = .ok (.invokestatic 128, 3) := by decide +kernel
theorem dX5_can_20 : decode cX5_can 20 = .ok (.ifCond .eq 7, 3) := by decide +kernel
theorem dX5_can_23 : decode cX5_can 23 = .ok (.iconst 1, 1) := by decide +kernel
theorem dX5_can_24 : decode cX5_can 24 = .ok (.goto 4, 3) := by decide +kernel
theorem dX5_can_27 : decode cX5_can 27 = .ok (.iconst 0, 1) := by decide +kernel
theorem dX5_can_28 : decode cX5_can 28 = .ok (.invokevirtual 72, 3) := by decide +kernel
theorem dX5_can_31 : decode cX5_can 31 = .ok (.ifCond .eq 17, 3) := by decide +kernel
theorem dX5_can_34 : decode cX5_can 34 = .ok (.aload_n 0, 1) := by decide +kernel
theorem dX5_can_35 : decode cX5_can 35 = .ok (.iload_n 1, 1) := by decide +kernel
theorem dX5_can_36 : decode cX5_can 36 = .ok (.iload_n 2, 1) := by decide +kernel
theorem dX5_can_37 : decode cX5_can 37 = .ok (.iload_n 3, 1) := by decide +kernel
theorem dX5_can_38 : decode cX5_can 38 = .ok (.invokevirtual 131, 3) := by decide +kernel
theorem dX5_can_41 : decode cX5_can 41 = .ok (.ifCond .eq 7, 3) := by decide +kernel
theorem dX5_can_44 : decode cX5_can 44 = .ok (.iconst 1, 1) := by decide +kernel
theorem dX5_can_45 : decode cX5_can 45 = .ok (.goto 4, 3) := by decide +kernel
theorem dX5_can_48 : decode cX5_can 48 = .ok (.iconst 0, 1) := by decide +kernel
theorem dX5_can_49 : decode cX5_can 49 = .ok (.ireturn, 1) := by decide +kernel
set_option maxRecDepth 20000 in
theorem ggX5_canByAll_X5_isGame : GoodIn wsX5_canByAll wsX5_isGame := goodIn_r _ [5, 6, 54, 55, 56, 57, 58, 59, 60, 61, 62, 63, 64, 65, 66, 67, 68, 69, 70, 71, 72, 73] (by decide +kernel) (by decide +kernel)
set_option maxRecDepth 20000 in
theorem gX5_canByAll_X5_isGame : GoodIn wsX5_canByAll (wsV RX5 125 RX5 yX5_isGame wsX5_isGame) := goodIn_app (goodIn_of _ (by decide +kernel)) ggX5_canByAll_X5_isGame
set_option maxRecDepth 20000 in
theorem ggX5_canByAll_X5_isCell : GoodIn wsX5_canByAll wsX5_isCell := goodIn_r _ [9] (by decide +kernel) (by decide +kernel)
set_option maxRecDepth 20000 in
theorem gX5_canByAll_X5_isCell : GoodIn wsX5_canByAll (va_wsS RX5 128 yX5_isCell wsX5_isCell) := goodIn_app (goodIn_of _ (by decide +kernel)) ggX5_canByAll_X5_isCell
set_option maxRecDepth 20000 in
theorem ggX5_canByAll_X5_asks : GoodIn wsX5_canByAll wsX5_asks := goodIn_r _ [13, 14, 54, 55, 56, 57, 58, 59, 60, 61, 62, 63, 64, 65, 66, 67, 68, 69, 70, 71, 72, 73] (by decide +kernel) (by decide +kernel)
set_option maxRecDepth 20000 in
theorem gX5_canByAll_X5_asks : GoodIn wsX5_canByAll (wsV RX5 72 RX5 yX5_asks wsX5_asks) := goodIn_app (goodIn_of _ (by decide +kernel)) ggX5_canByAll_X5_asks
set_option maxRecDepth 20000 in
theorem ggX5_canByAll_X5_canNow : GoodIn wsX5_canByAll wsX5_canNow := goodIn_r _ [18, 19, 20, 21, 22, 23, 24, 25, 4, 26, 27, 28, 29, 30, 31, 32, 33, 34, 35, 36, 37, 38, 39, 40, 41, 42, 43, 44, 45, 46, 47, 48, 49, 50, 51, 52, 53, 54, 55, 56, 57, 58, 59, 60, 61, 62, 63, 64, 65, 66, 67, 68, 69, 70, 71, 72, 73] (by decide +kernel) (by decide +kernel)
set_option maxRecDepth 20000 in
theorem gX5_canByAll_X5_canNow : GoodIn wsX5_canByAll (wsV RX5 131 RX5 yX5_canNow wsX5_canNow) := goodIn_app (goodIn_of _ (by decide +kernel)) ggX5_canByAll_X5_canNow
theorem dX5_canByAll_0 : decode cX5_canByAll 0 = .ok (.aload_n 0, 1) := by decide +kernel
theorem dX5_canByAll_1 : decode cX5_canByAll 1 = .ok (.aload_n 0, 1) := by decide +kernel
theorem dX5_canByAll_2 : decode cX5_canByAll 2 = .ok (.iload_n 1, 1) := by decide +kernel
theorem dX5_canByAll_3 : decode cX5_canByAll 3 = .ok (.invokevirtual 125, 3) := by decide +kernel
theorem dX5_canByAll_6 : decode cX5_canByAll 6 = .ok (.ifCond .eq 21, 3) := by decide +kernel
theorem dX5_canByAll_9 : decode cX5_canByAll 9 = .ok (.iload_n 2, 1) := by decide +kernel
theorem dX5_canByAll_10 : decode cX5_canByAll 10 = .ok (.invokestatic 128, 3) := by decide +kernel
theorem dX5_canByAll_13 : decode cX5_canByAll 13 = .ok (.ifCond .eq 14, 3) := by decide +kernel
theorem dX5_canByAll_16 : decode cX5_canByAll 16 = .ok (.iload_n 3, 1) := by decide +kernel
theorem dX5_canByAll_17 : decode cX5_canByAll 17 = .ok (.invokestatic 128, 3) := by decide +kernel
theorem dX5_canByAll_20 : decode cX5_canByAll 20 = .ok (.ifCond .eq 7, 3) := by decide +kernel
theorem dX5_canByAll_23 : decode cX5_canByAll 23 = .ok (.iconst 1, 1) := by decide +kernel
theorem dX5_canByAll_24 : decode cX5_canByAll 24 = .ok (.goto 4, 3) := by decide +kernel
theorem dX5_canByAll_27 : decode cX5_canByAll 27 = .ok (.iconst 0, 1) := by decide +kernel
theorem dX5_canByAll_28 : decode cX5_canByAll 28 = .ok (.invokevirtual 72, 3) := by decide +kernel
theorem dX5_canByAll_31 : decode cX5_canByAll 31 = .ok (.ifCond .eq 17, 3) := by decide +kernel
theorem dX5_canByAll_34 : decode cX5_canByAll 34 = .ok (.aload_n 0, 1) := by decide +kernel
theorem dX5_canByAll_35 : decode cX5_canByAll 35 = .ok (.iload_n 1, 1) := by decide +kernel
theorem dX5_canByAll_36 : decode cX5_canByAll 36 = .ok (.iload_n 2, 1) := by decide +kernel
theorem dX5_canByAll_37 : decode cX5_canByAll 37 = .ok (.iload_n 3, 1) := by decide +kernel
theorem dX5_canByAll_38 : decode cX5_canByAll 38 = .ok (.invokevirtual 131, 3) := by decide +kernel
theorem dX5_canByAll_41 : decode cX5_canByAll 41 = .ok (.ifCond .eq 7, 3) := by decide +kernel
theorem dX5_canByAll_44 : decode cX5_canByAll 44 = .ok (.iconst 1, 1) := by decide +kernel
theorem dX5_canByAll_45 : decode cX5_canByAll 45 = .ok (.goto 4, 3) := by decide +kernel
theorem dX5_canByAll_48 : decode cX5_canByAll 48 = .ok (.iconst 0, 1) := by decide +kernel
theorem dX5_canByAll_49 : decode cX5_canByAll 49 = .ok (.ireturn, 1) := by decide +kernel
set_option maxRecDepth 20000 in
theorem ggX5_times_X5_at : GoodIn wsX5_times wsX5_at := goodIn_r _ [8, 1, 9, 10, 11, 12, 13, 14, 15, 16, 17, 18, 19, 20, 21, 22, 23, 24, 25, 26, 27, 28] (by decide +kernel) (by decide +kernel)
set_option maxRecDepth 20000 in
theorem gX5_times_X5_at : GoodIn wsX5_times (wsV RX5 118 RX5 yX5_at wsX5_at) := goodIn_app (goodIn_of _ (by decide +kernel)) ggX5_times_X5_at
theorem dX5_times_0 : decode cX5_times 0 = .ok (.iconst 0, 1) := by decide +kernel
theorem dX5_times_1 : decode cX5_times 1 = .ok (.istore_n 2, 1) := by decide +kernel
theorem dX5_times_2 : decode cX5_times 2 = .ok (.aload_n 0, 1) := by decide +kernel
theorem dX5_times_3 : decode cX5_times 3 = .ok (.getfield 49, 3) := by decide +kernel
theorem dX5_times_6 : decode cX5_times 6 = .ok (.iload_n 1, 1) := by decide +kernel
theorem dX5_times_7 : decode cX5_times 7 = .ok (.iaload, 1) := by decide +kernel
theorem dX5_times_8 : decode cX5_times 8 = .ok (.istore_n 3, 1) := by decide +kernel
theorem dX5_times_9 : decode cX5_times 9 = .ok (.iload_n 3, 1) := by decide +kernel
theorem dX5_times_10 : decode cX5_times 10 = .ok (.ifCond .lt 65, 3) := by decide +kernel
theorem dX5_times_13 : decode cX5_times 13 = .ok (.iload_n 2, 1) := by decide +kernel
theorem dX5_times_14 : decode cX5_times 14 = .ok (.aload_n 0, 1) := by decide +kernel
theorem dX5_times_15 : decode cX5_times 15 = .ok (.getfield 52, 3) := by decide +kernel
theorem dX5_times_18 : decode cX5_times 18 = .ok (.bipush 61, 2) := by decide +kernel
theorem dX5_times_20 : decode cX5_times 20 = .ok (.iload_n 1, 1) := by decide +kernel
theorem dX5_times_21 : decode cX5_times 21 = .ok (.imul, 1) := by decide +kernel
theorem dX5_times_22 : decode cX5_times 22 = .ok (.iload_n 3, 1) := by decide +kernel
theorem dX5_times_23 : decode cX5_times 23 = .ok (.iadd, 1) := by decide +kernel
theorem dX5_times_24 : decode cX5_times 24 = .ok (.iaload, 1) := by decide +kernel
theorem dX5_times_25 : decode cX5_times 25 = .ok (.aload_n 0, 1) := by decide +kernel
theorem dX5_times_26 : decode cX5_times 26 = .ok (.getfield 52, 3) := by decide +kernel
theorem dX5_times_29 : decode cX5_times 29 = .ok (.aload_n 0, 1) := by decide +kernel
theorem dX5_times_30 : decode cX5_times 30 = .ok (.iload_n 1, 1) := by decide +kernel
theorem dX5_times_31 : decode cX5_times 31 = .ok (.invokevirtual 118, 3) := by decide +kernel
theorem dX5_times_34 : decode cX5_times 34 = .ok (.iaload, 1) := by decide +kernel
theorem dX5_times_35 : decode cX5_times 35 = .ok (.if_icmp .ne 31, 3) := by decide +kernel
theorem dX5_times_38 : decode cX5_times 38 = .ok (.aload_n 0, 1) := by decide +kernel
theorem dX5_times_39 : decode cX5_times 39 = .ok (.getfield 55, 3) := by decide +kernel
theorem dX5_times_42 : decode cX5_times 42 = .ok (.bipush 61, 2) := by decide +kernel
theorem dX5_times_44 : decode cX5_times 44 = .ok (.iload_n 1, 1) := by decide +kernel
theorem dX5_times_45 : decode cX5_times 45 = .ok (.imul, 1) := by decide +kernel
theorem dX5_times_46 : decode cX5_times 46 = .ok (.iload_n 3, 1) := by decide +kernel
theorem dX5_times_47 : decode cX5_times 47 = .ok (.iadd, 1) := by decide +kernel
theorem dX5_times_48 : decode cX5_times 48 = .ok (.iaload, 1) := by decide +kernel
theorem dX5_times_49 : decode cX5_times 49 = .ok (.aload_n 0, 1) := by decide +kernel
theorem dX5_times_50 : decode cX5_times 50 = .ok (.getfield 55, 3) := by decide +kernel
theorem dX5_times_53 : decode cX5_times 53 = .ok (.aload_n 0, 1) := by decide +kernel
theorem dX5_times_54 : decode cX5_times 54 = .ok (.iload_n 1, 1) := by decide +kernel
theorem dX5_times_55 : decode cX5_times 55 = .ok (.invokevirtual 118, 3) := by decide +kernel
theorem dX5_times_58 : decode cX5_times 58 = .ok (.iaload, 1) := by decide +kernel
theorem dX5_times_59 : decode cX5_times 59 = .ok (.if_icmp .ne 7, 3) := by decide +kernel
theorem dX5_times_62 : decode cX5_times 62 = .ok (.iconst 1, 1) := by decide +kernel
theorem dX5_times_63 : decode cX5_times 63 = .ok (.goto 4, 3) := by decide +kernel
theorem dX5_times_66 : decode cX5_times 66 = .ok (.iconst 0, 1) := by decide +kernel
theorem dX5_times_67 : decode cX5_times 67 = .ok (.iadd, 1) := by decide +kernel
theorem dX5_times_68 : decode cX5_times 68 = .ok (.istore_n 2, 1) := by decide +kernel
theorem dX5_times_69 : decode cX5_times 69 = .ok (.iinc 3 (-2), 3) := by decide +kernel
theorem dX5_times_72 : decode cX5_times 72 = .ok (.goto (-63), 3) := by decide +kernel
theorem dX5_times_75 : decode cX5_times 75 = .ok (.iload_n 2, 1) := by decide +kernel
theorem dX5_times_76 : decode cX5_times 76 = .ok (.ireturn, 1) := by decide +kernel
set_option maxRecDepth 20000 in
theorem ggX5_move_X5_isGame : GoodIn wsX5_move wsX5_isGame := goodIn_r _ [13, 14, 72, 73, 74, 75, 76, 77, 78, 79, 80, 81, 82, 83, 84, 85, 86, 87, 88, 89, 90, 91] (by decide +kernel) (by decide +kernel)
set_option maxRecDepth 20000 in
theorem gX5_move_X5_isGame : GoodIn wsX5_move (wsV RX5 125 RX5 yX5_isGame wsX5_isGame) := goodIn_app (goodIn_of _ (by decide +kernel)) ggX5_move_X5_isGame
set_option maxRecDepth 20000 in
theorem ggX5_move_X5_isCell : GoodIn wsX5_move wsX5_isCell := goodIn_r _ [17] (by decide +kernel) (by decide +kernel)
set_option maxRecDepth 20000 in
theorem gX5_move_X5_isCell : GoodIn wsX5_move (va_wsS RX5 128 yX5_isCell wsX5_isCell) := goodIn_app (goodIn_of _ (by decide +kernel)) ggX5_move_X5_isCell
set_option maxRecDepth 20000 in
theorem ggX5_move_X5_asks : GoodIn wsX5_move wsX5_asks := goodIn_r _ [21, 22, 72, 73, 74, 75, 76, 77, 78, 79, 80, 81, 82, 83, 84, 85, 86, 87, 88, 89, 90, 91] (by decide +kernel) (by decide +kernel)
set_option maxRecDepth 20000 in
theorem gX5_move_X5_asks : GoodIn wsX5_move (wsV RX5 72 RX5 yX5_asks wsX5_asks) := goodIn_app (goodIn_of _ (by decide +kernel)) ggX5_move_X5_asks
set_option maxRecDepth 20000 in
theorem ggX5_move_X5_isBannedNow : GoodIn wsX5_move wsX5_isBannedNow := goodIn_r _ [26, 27, 8, 72, 73, 74, 75, 76, 77, 78, 79, 80, 81, 82, 83, 84, 85, 86, 87, 88, 89, 90, 91] (by decide +kernel) (by decide +kernel)
set_option maxRecDepth 20000 in
theorem gX5_move_X5_isBannedNow : GoodIn wsX5_move (wsV RX5 108 RX5 yX5_isBannedNow wsX5_isBannedNow) := goodIn_app (goodIn_of _ (by decide +kernel)) ggX5_move_X5_isBannedNow
set_option maxRecDepth 20000 in
theorem ggX5_move_X5_canNow : GoodIn wsX5_move wsX5_canNow := goodIn_r _ [31, 7, 5, 6, 1, 32, 33, 34, 12, 35, 4, 3, 36, 37, 38, 39, 2, 40, 41, 42, 43, 44, 45, 46, 47, 48, 49, 50, 51, 52, 53, 54, 55, 56, 57, 58, 59, 72, 73, 74, 75, 76, 77, 78, 79, 80, 81, 82, 83, 84, 85, 86, 87, 88, 89, 90, 91] (by decide +kernel) (by decide +kernel)
set_option maxRecDepth 20000 in
theorem gX5_move_X5_canNow : GoodIn wsX5_move (wsV RX5 131 RX5 yX5_canNow wsX5_canNow) := goodIn_app (goodIn_of _ (by decide +kernel)) ggX5_move_X5_canNow
set_option maxRecDepth 20000 in
theorem ggX5_move_X5_fails : GoodIn wsX5_move wsX5_fails := goodIn_r _ [63, 22, 72, 73, 74, 75, 76, 77, 78, 79, 80, 81, 82, 83, 84, 85, 86, 87, 88, 89, 90, 91] (by decide +kernel) (by decide +kernel)
set_option maxRecDepth 20000 in
theorem gX5_move_X5_fails : GoodIn wsX5_move (wsV RX5 79 RX5 yX5_fails wsX5_fails) := goodIn_app (goodIn_of _ (by decide +kernel)) ggX5_move_X5_fails
set_option maxRecDepth 20000 in
theorem ggX5_move_X5_piecesOf : GoodIn wsX5_move wsX5_piecesOf := goodIn_r _ [35, 4, 3, 36, 37, 38, 12, 39, 2, 40, 41, 42, 43, 72, 73, 74, 75, 76, 77, 78, 79, 80, 81, 82, 83, 84, 85, 86, 87, 88, 89, 90, 91] (by decide +kernel) (by decide +kernel)
set_option maxRecDepth 20000 in
theorem gX5_move_X5_piecesOf : GoodIn wsX5_move (wsV RX5 121 RX5 yX5_piecesOf wsX5_piecesOf) := goodIn_app (goodIn_of _ (by decide +kernel)) ggX5_move_X5_piecesOf
set_option maxRecDepth 20000 in
theorem ggX5_move_X5_isSecondsTurn : GoodIn wsX5_move wsX5_isSecondsTurn := goodIn_r _ [39, 2, 72, 73, 74, 75, 76, 77, 78, 79, 80, 81, 82, 83, 84, 85, 86, 87, 88, 89, 90, 91] (by decide +kernel) (by decide +kernel)
set_option maxRecDepth 20000 in
theorem gX5_move_X5_isSecondsTurn : GoodIn wsX5_move (wsV RX5 115 RX5 yX5_isSecondsTurn wsX5_isSecondsTurn) := goodIn_app (goodIn_of _ (by decide +kernel)) ggX5_move_X5_isSecondsTurn
set_option maxRecDepth 20000 in
theorem ggX5_move_X5_at : GoodIn wsX5_move wsX5_at := goodIn_r _ [43, 2, 72, 73, 74, 75, 76, 77, 78, 79, 80, 81, 82, 83, 84, 85, 86, 87, 88, 89, 90, 91] (by decide +kernel) (by decide +kernel)
set_option maxRecDepth 20000 in
theorem gX5_move_X5_at : GoodIn wsX5_move (wsV RX5 118 RX5 yX5_at wsX5_at) := goodIn_app (goodIn_of _ (by decide +kernel)) ggX5_move_X5_at
set_option maxRecDepth 20000 in
theorem ggX5_move_X5_moves : GoodIn wsX5_move wsX5_moves := goodIn_r _ [67, 44, 45, 46, 12, 47, 48, 49, 50, 51, 52, 53, 54, 55, 56, 57, 58, 59, 72, 73, 74, 75, 76, 77, 78, 79, 80, 81, 82, 83, 84, 85, 86, 87, 88, 89, 90, 91] (by decide +kernel) (by decide +kernel)
set_option maxRecDepth 20000 in
theorem gX5_move_X5_moves : GoodIn wsX5_move (wsV RX5 111 RX5 yX5_moves wsX5_moves) := goodIn_app (goodIn_of _ (by decide +kernel)) ggX5_move_X5_moves
set_option maxRecDepth 20000 in
theorem ggX5_move_X5_times : GoodIn wsX5_move wsX5_times := goodIn_r _ [71, 2, 3, 4, 40, 41, 42, 12, 43, 72, 73, 74, 75, 76, 77, 78, 79, 80, 81, 82, 83, 84, 85, 86, 87, 88, 89, 90, 91] (by decide +kernel) (by decide +kernel)
set_option maxRecDepth 20000 in
theorem gX5_move_X5_times : GoodIn wsX5_move (wsV RX5 134 RX5 yX5_times wsX5_times) := goodIn_app (goodIn_of _ (by decide +kernel)) ggX5_move_X5_times
theorem dX5_move_0 : decode cX5_move 0 = .ok (.aload_n 0, 1) := by decide +kernel
theorem dX5_move_1 : decode cX5_move 1 = .ok (.aload_n 0, 1) := by decide +kernel
theorem dX5_move_2 : decode cX5_move 2 = .ok (.iload_n 1, 1) := by decide +kernel
theorem dX5_move_3 : decode cX5_move 3 = .ok (.invokevirtual 125, 3) := by decide +kernel
theorem dX5_move_6 : decode cX5_move 6 = .ok (.ifCond .eq 21, 3) := by decide +kernel
theorem dX5_move_9 : decode cX5_move 9 = .ok (.iload_n 2, 1) := by decide +kernel
theorem dX5_move_10 : decode cX5_move 10 = .ok (.invokestatic 128, 3) := by decide +kernel
theorem dX5_move_13 : decode cX5_move 13 = .ok (.ifCond .eq 14, 3) := by decide +kernel
theorem dX5_move_16 : decode cX5_move 16 = .ok (.iload_n 3, 1) := by decide +kernel
theorem dX5_move_17 : decode cX5_move 17 = .ok (.invokestatic 128, 3) := by decide +kernel
theorem dX5_move_20 : decode cX5_move 20 = .ok (.ifCond .eq 7, 3) := by decide +kernel
theorem dX5_move_23 : decode cX5_move 23 = .ok (.iconst 1, 1) := by decide +kernel
theorem dX5_move_24 : decode cX5_move 24 = .ok (.goto 4, 3) := by decide +kernel
theorem dX5_move_27 : decode cX5_move 27 = .ok (.iconst 0, 1) := by decide +kernel
theorem dX5_move_28 : decode cX5_move 28 = .ok (.invokevirtual 72, 3) := by decide +kernel
theorem dX5_move_31 : decode cX5_move 31 = .ok (.ifCond .ne 5, 3) := by decide +kernel
theorem dX5_move_34 : decode cX5_move 34 = .ok (.iconst 0, 1) := by decide +kernel
theorem dX5_move_35 : decode cX5_move 35 = .ok (.ireturn, 1) := by decide +kernel
theorem dX5_move_36 : decode cX5_move 36 = .ok (.aload_n 0, 1) := by decide +kernel
theorem dX5_move_37 : decode cX5_move 37 = .ok (.aload_n 0, 1) := by decide +kernel
theorem dX5_move_38 : decode cX5_move 38 = .ok (.getfield 34, 3) := by decide +kernel
theorem dX5_move_41 : decode cX5_move 41 = .ok (.iload_n 1, 1) := by decide +kernel
theorem dX5_move_42 : decode cX5_move 42 = .ok (.iaload, 1) := by decide +kernel
theorem dX5_move_43 : decode cX5_move 43 = .ok (.invokevirtual 108, 3) := by decide +kernel
theorem dX5_move_46 : decode cX5_move 46 = .ok (.ifCond .ne 13, 3) := by decide +kernel
theorem dX5_move_49 : decode cX5_move 49 = .ok (.aload_n 0, 1) := by decide +kernel
theorem dX5_move_50 : decode cX5_move 50 = .ok (.iload_n 1, 1) := by decide +kernel
theorem dX5_move_51 : decode cX5_move 51 = .ok (.iload_n 2, 1) := by decide +kernel
theorem dX5_move_52 : decode cX5_move 52 = .ok (.iload_n 3, 1) := by decide +kernel
theorem dX5_move_53 : decode cX5_move 53 = .ok (.invokevirtual 131, 3) := by decide +kernel
theorem dX5_move_56 : decode cX5_move 56 = .ok (.ifCond .ne 9, 3) := by decide +kernel
theorem dX5_move_59 : decode cX5_move 59 = .ok (.aload_n 0, 1) := by decide +kernel
theorem dX5_move_60 : decode cX5_move 60 = .ok (.iconst 2, 1) := by decide +kernel
theorem dX5_move_61 : decode cX5_move 61 = .ok (.invokevirtual 79, 3) := by decide +kernel
theorem dX5_move_64 : decode cX5_move 64 = .ok (.ireturn, 1) := by decide +kernel
theorem dX5_move_65 : decode cX5_move 65 = .ok (.aload_n 0, 1) := by decide +kernel
theorem dX5_move_66 : decode cX5_move 66 = .ok (.iload_n 1, 1) := by decide +kernel
theorem dX5_move_67 : decode cX5_move 67 = .ok (.iconst 1, 1) := by decide +kernel
theorem dX5_move_68 : decode cX5_move 68 = .ok (.invokevirtual 121, 3) := by decide +kernel
theorem dX5_move_71 : decode cX5_move 71 = .ok (.iconst 1, 1) := by decide +kernel
theorem dX5_move_72 : decode cX5_move 72 = .ok (.iload_n 2, 1) := by decide +kernel
theorem dX5_move_73 : decode cX5_move 73 = .ok (.ishl, 1) := by decide +kernel
theorem dX5_move_74 : decode cX5_move 74 = .ok (.iconst (-1), 1) := by decide +kernel
theorem dX5_move_75 : decode cX5_move 75 = .ok (.ixor, 1) := by decide +kernel
theorem dX5_move_76 : decode cX5_move 76 = .ok (.iand, 1) := by decide +kernel
theorem dX5_move_77 : decode cX5_move 77 = .ok (.iconst 1, 1) := by decide +kernel
theorem dX5_move_78 : decode cX5_move 78 = .ok (.iload_n 3, 1) := by decide +kernel
theorem dX5_move_79 : decode cX5_move 79 = .ok (.ishl, 1) := by decide +kernel
theorem dX5_move_80 : decode cX5_move 80 = .ok (.ior, 1) := by decide +kernel
theorem dX5_move_81 : decode cX5_move 81 = .ok (.istore 4, 2) := by decide +kernel
theorem dX5_move_83 : decode cX5_move 83 = .ok (.aload_n 0, 1) := by decide +kernel
theorem dX5_move_84 : decode cX5_move 84 = .ok (.iload_n 1, 1) := by decide +kernel
theorem dX5_move_85 : decode cX5_move 85 = .ok (.iconst 0, 1) := by decide +kernel
theorem dX5_move_86 : decode cX5_move 86 = .ok (.invokevirtual 121, 3) := by decide +kernel
theorem dX5_move_89 : decode cX5_move 89 = .ok (.iconst 1, 1) := by decide +kernel
theorem dX5_move_90 : decode cX5_move 90 = .ok (.iload_n 3, 1) := by decide +kernel
theorem dX5_move_91 : decode cX5_move 91 = .ok (.ishl, 1) := by decide +kernel
theorem dX5_move_92 : decode cX5_move 92 = .ok (.iconst (-1), 1) := by decide +kernel
theorem dX5_move_93 : decode cX5_move 93 = .ok (.ixor, 1) := by decide +kernel
theorem dX5_move_94 : decode cX5_move 94 = .ok (.iand, 1) := by decide +kernel
theorem dX5_move_95 : decode cX5_move 95 = .ok (.istore 5, 2) := by decide +kernel
theorem dX5_move_97 : decode cX5_move 97 = .ok (.aload_n 0, 1) := by decide +kernel
theorem dX5_move_98 : decode cX5_move 98 = .ok (.iload_n 1, 1) := by decide +kernel
theorem dX5_move_99 : decode cX5_move 99 = .ok (.invokevirtual 115, 3) := by decide +kernel
theorem dX5_move_102 : decode cX5_move 102 = .ok (.istore 6, 2) := by decide +kernel
theorem dX5_move_104 : decode cX5_move 104 = .ok (.aload_n 0, 1) := by decide +kernel
theorem dX5_move_105 : decode cX5_move 105 = .ok (.getfield 49, 3) := by decide +kernel
theorem dX5_move_108 : decode cX5_move 108 = .ok (.iload_n 1, 1) := by decide +kernel
theorem dX5_move_109 : decode cX5_move 109 = .ok (.dup2, 1) := by decide +kernel
theorem dX5_move_110 : decode cX5_move 110 = .ok (.iaload, 1) := by decide +kernel
theorem dX5_move_111 : decode cX5_move 111 = .ok (.iconst 1, 1) := by decide +kernel
theorem dX5_move_112 : decode cX5_move 112 = .ok (.iadd, 1) := by decide +kernel
theorem dX5_move_113 : decode cX5_move 113 = .ok (.iastore, 1) := by decide +kernel
theorem dX5_move_114 : decode cX5_move 114 = .ok (.aload_n 0, 1) := by decide +kernel
theorem dX5_move_115 : decode cX5_move 115 = .ok (.getfield 52, 3) := by decide +kernel
theorem dX5_move_118 : decode cX5_move 118 = .ok (.aload_n 0, 1) := by decide +kernel
theorem dX5_move_119 : decode cX5_move 119 = .ok (.iload_n 1, 1) := by decide +kernel
theorem dX5_move_120 : decode cX5_move 120 = .ok (.invokevirtual 118, 3) := by decide +kernel
theorem dX5_move_123 : decode cX5_move 123 = .ok (.iload 6, 2) := by decide +kernel
theorem dX5_move_125 : decode cX5_move 125 = .ok (.ifCond .eq 8, 3) := by decide +kernel
theorem dX5_move_128 : decode cX5_move 128 = .ok (.iload 5, 2) := by decide +kernel
theorem dX5_move_130 : decode cX5_move 130 = .ok (.goto 5, 3) := by decide +kernel
theorem dX5_move_133 : decode cX5_move 133 = .ok (.iload 4, 2) := by decide +kernel
theorem dX5_move_135 : decode cX5_move 135 = .ok (.iastore, 1) := by decide +kernel
theorem dX5_move_136 : decode cX5_move 136 = .ok (.aload_n 0, 1) := by decide +kernel
theorem dX5_move_137 : decode cX5_move 137 = .ok (.getfield 55, 3) := by decide +kernel
theorem dX5_move_140 : decode cX5_move 140 = .ok (.aload_n 0, 1) := by decide +kernel
theorem dX5_move_141 : decode cX5_move 141 = .ok (.iload_n 1, 1) := by decide +kernel
theorem dX5_move_142 : decode cX5_move 142 = .ok (.invokevirtual 118, 3) := by decide +kernel
theorem dX5_move_145 : decode cX5_move 145 = .ok (.iload 6, 2) := by decide +kernel
theorem dX5_move_147 : decode cX5_move 147 = .ok (.ifCond .eq 8, 3) := by decide +kernel
theorem dX5_move_150 : decode cX5_move 150 = .ok (.iload 4, 2) := by decide +kernel
theorem dX5_move_152 : decode cX5_move 152 = .ok (.goto 5, 3) := by decide +kernel
theorem dX5_move_155 : decode cX5_move 155 = .ok (.iload 5, 2) := by decide +kernel
theorem dX5_move_157 : decode cX5_move 157 = .ok (.iastore, 1) := by decide +kernel
theorem dX5_move_158 : decode cX5_move 158 = .ok (.aload_n 0, 1) := by decide +kernel
theorem dX5_move_159 : decode cX5_move 159 = .ok (.aload_n 0, 1) := by decide +kernel
theorem dX5_move_160 : decode cX5_move 160 = .ok (.getfield 37, 3) := by decide +kernel
theorem dX5_move_163 : decode cX5_move 163 = .ok (.iload_n 1, 1) := by decide +kernel
theorem dX5_move_164 : decode cX5_move 164 = .ok (.iaload, 1) := by decide +kernel
theorem dX5_move_165 : decode cX5_move 165 = .ok (.aload_n 0, 1) := by decide +kernel
theorem dX5_move_166 : decode cX5_move 166 = .ok (.getfield 22, 3) := by decide +kernel
theorem dX5_move_169 : decode cX5_move 169 = .ok (.aload_n 0, 1) := by decide +kernel
theorem dX5_move_170 : decode cX5_move 170 = .ok (.getfield 34, 3) := by decide +kernel
theorem dX5_move_173 : decode cX5_move 173 = .ok (.iload_n 1, 1) := by decide +kernel
theorem dX5_move_174 : decode cX5_move 174 = .ok (.iaload, 1) := by decide +kernel
theorem dX5_move_175 : decode cX5_move 175 = .ok (.iaload, 1) := by decide +kernel
theorem dX5_move_176 : decode cX5_move 176 = .ok (.iload 5, 2) := by decide +kernel
theorem dX5_move_178 : decode cX5_move 178 = .ok (.iload 4, 2) := by decide +kernel
theorem dX5_move_180 : decode cX5_move 180 = .ok (.iload 6, 2) := by decide +kernel
theorem dX5_move_182 : decode cX5_move 182 = .ok (.ifCond .ne 7, 3) := by decide +kernel
theorem dX5_move_185 : decode cX5_move 185 = .ok (.iconst 1, 1) := by decide +kernel
theorem dX5_move_186 : decode cX5_move 186 = .ok (.goto 4, 3) := by decide +kernel
theorem dX5_move_189 : decode cX5_move 189 = .ok (.iconst 0, 1) := by decide +kernel
theorem dX5_move_190 : decode cX5_move 190 = .ok (.invokevirtual 111, 3) := by decide +kernel
theorem dX5_move_193 : decode cX5_move 193 = .ok (.ifCond .ne 22, 3) := by decide +kernel
theorem dX5_move_196 : decode cX5_move 196 = .ok (.aload_n 0, 1) := by decide +kernel
theorem dX5_move_197 : decode cX5_move 197 = .ok (.getfield 46, 3) := by decide +kernel
theorem dX5_move_200 : decode cX5_move 200 = .ok (.iload_n 1, 1) := by decide +kernel
theorem dX5_move_201 : decode cX5_move 201 = .ok (.iload 6, 2) := by decide +kernel
theorem dX5_move_203 : decode cX5_move 203 = .ok (.ifCond .eq 7, 3) := by decide +kernel
theorem dX5_move_206 : decode cX5_move 206 = .ok (.iconst 2, 1) := by decide +kernel
theorem dX5_move_207 : decode cX5_move 207 = .ok (.goto 4, 3) := by decide +kernel
theorem dX5_move_210 : decode cX5_move 210 = .ok (.iconst 1, 1) := by decide +kernel
theorem dX5_move_211 : decode cX5_move 211 = .ok (.iastore, 1) := by decide +kernel
theorem dX5_move_212 : decode cX5_move 212 = .ok (.goto 55, 3) := by decide +kernel
theorem dX5_move_215 : decode cX5_move 215 = .ok (.aload_n 0, 1) := by decide +kernel
theorem dX5_move_216 : decode cX5_move 216 = .ok (.iload_n 1, 1) := by decide +kernel
theorem dX5_move_217 : decode cX5_move 217 = .ok (.invokevirtual 134, 3) := by decide +kernel
theorem dX5_move_220 : decode cX5_move 220 = .ok (.iconst 3, 1) := by decide +kernel
theorem dX5_move_221 : decode cX5_move 221 = .ok (.if_icmp .lt 28, 3) := by decide +kernel
theorem dX5_move_224 : decode cX5_move 224 = .ok (.aload_n 0, 1) := by decide +kernel
theorem dX5_move_225 : decode cX5_move 225 = .ok (.getfield 46, 3) := by decide +kernel
theorem dX5_move_228 : decode cX5_move 228 = .ok (.iload_n 1, 1) := by decide +kernel
theorem dX5_move_229 : decode cX5_move 229 = .ok (.iconst 3, 1) := by decide +kernel
theorem dX5_move_230 : decode cX5_move 230 = .ok (.iastore, 1) := by decide +kernel
theorem dX5_move_231 : decode cX5_move 231 = .ok (.aload_n 0, 1) := by decide +kernel
theorem dX5_move_232 : decode cX5_move 232 = .ok (.getfield 31, 3) := by decide +kernel
theorem dX5_move_235 : decode cX5_move 235 = .ok (.aload_n 0, 1) := by decide +kernel
theorem dX5_move_236 : decode cX5_move 236 = .ok (.getfield 34, 3) := by decide +kernel
theorem dX5_move_239 : decode cX5_move 239 = .ok (.iload_n 1, 1) := by decide +kernel
theorem dX5_move_240 : decode cX5_move 240 = .ok (.iaload, 1) := by decide +kernel
theorem dX5_move_241 : decode cX5_move 241 = .ok (.dup2, 1) := by decide +kernel
theorem dX5_move_242 : decode cX5_move 242 = .ok (.iaload, 1) := by decide +kernel
theorem dX5_move_243 : decode cX5_move 243 = .ok (.iconst 1, 1) := by decide +kernel
theorem dX5_move_244 : decode cX5_move 244 = .ok (.iadd, 1) := by decide +kernel
theorem dX5_move_245 : decode cX5_move 245 = .ok (.iastore, 1) := by decide +kernel
theorem dX5_move_246 : decode cX5_move 246 = .ok (.goto 21, 3) := by decide +kernel
theorem dX5_move_249 : decode cX5_move 249 = .ok (.aload_n 0, 1) := by decide +kernel
theorem dX5_move_250 : decode cX5_move 250 = .ok (.getfield 49, 3) := by decide +kernel
theorem dX5_move_253 : decode cX5_move 253 = .ok (.iload_n 1, 1) := by decide +kernel
theorem dX5_move_254 : decode cX5_move 254 = .ok (.iaload, 1) := by decide +kernel
theorem dX5_move_255 : decode cX5_move 255 = .ok (.bipush 60, 2) := by decide +kernel
theorem dX5_move_257 : decode cX5_move 257 = .ok (.if_icmp .ne 10, 3) := by decide +kernel
theorem dX5_move_260 : decode cX5_move 260 = .ok (.aload_n 0, 1) := by decide +kernel
theorem dX5_move_261 : decode cX5_move 261 = .ok (.getfield 46, 3) := by decide +kernel
theorem dX5_move_264 : decode cX5_move 264 = .ok (.iload_n 1, 1) := by decide +kernel
theorem dX5_move_265 : decode cX5_move 265 = .ok (.iconst 3, 1) := by decide +kernel
theorem dX5_move_266 : decode cX5_move 266 = .ok (.iastore, 1) := by decide +kernel
theorem dX5_move_267 : decode cX5_move 267 = .ok (.aload_n 0, 1) := by decide +kernel
theorem dX5_move_268 : decode cX5_move 268 = .ok (.getfield 46, 3) := by decide +kernel
theorem dX5_move_271 : decode cX5_move 271 = .ok (.iload_n 1, 1) := by decide +kernel
theorem dX5_move_272 : decode cX5_move 272 = .ok (.iaload, 1) := by decide +kernel
theorem dX5_move_273 : decode cX5_move 273 = .ok (.ireturn, 1) := by decide +kernel
set_option maxRecDepth 20000 in
theorem ggX5_state_X5_isGame : GoodIn wsX5_state wsX5_isGame := goodIn_r _ [6, 7, 13, 14, 15, 16, 17, 18, 19, 20, 21, 22, 23, 24, 25, 26, 27, 28, 29, 30, 31, 32] (by decide +kernel) (by decide +kernel)
set_option maxRecDepth 20000 in
theorem gX5_state_X5_isGame : GoodIn wsX5_state (wsV RX5 125 RX5 yX5_isGame wsX5_isGame) := goodIn_app (goodIn_of _ (by decide +kernel)) ggX5_state_X5_isGame
set_option maxRecDepth 20000 in
theorem ggX5_state_X5_asks : GoodIn wsX5_state wsX5_asks := goodIn_r _ [11, 12, 13, 14, 15, 16, 17, 18, 19, 20, 21, 22, 23, 24, 25, 26, 27, 28, 29, 30, 31, 32] (by decide +kernel) (by decide +kernel)
set_option maxRecDepth 20000 in
theorem gX5_state_X5_asks : GoodIn wsX5_state (wsV RX5 72 RX5 yX5_asks wsX5_asks) := goodIn_app (goodIn_of _ (by decide +kernel)) ggX5_state_X5_asks
theorem dX5_state_0 : decode cX5_state 0 = .ok (.aload_n 0, 1) := by decide +kernel
theorem dX5_state_1 : decode cX5_state 1 = .ok (.aload_n 0, 1) := by decide +kernel
theorem dX5_state_2 : decode cX5_state 2 = .ok (.iload_n 1, 1) := by decide +kernel
theorem dX5_state_3 : decode cX5_state 3 = .ok (.invokevirtual 125, 3) := by decide +kernel
theorem dX5_state_6 : decode cX5_state 6 = .ok (.invokevirtual 72, 3) := by decide +kernel
theorem dX5_state_9 : decode cX5_state 9 = .ok (.ifCond .eq 12, 3) := by decide +kernel
theorem dX5_state_12 : decode cX5_state 12 = .ok (.aload_n 0, 1) := by decide +kernel
theorem dX5_state_13 : decode cX5_state 13 = .ok (.getfield 46, 3) := by decide +kernel
theorem dX5_state_16 : decode cX5_state 16 = .ok (.iload_n 1, 1) := by decide +kernel
theorem dX5_state_17 : decode cX5_state 17 = .ok (.iaload, 1) := by decide +kernel
theorem dX5_state_18 : decode cX5_state 18 = .ok (.goto 4, 3) := by decide +kernel
theorem dX5_state_21 : decode cX5_state 21 = .ok (.iconst 0, 1) := by decide +kernel
theorem dX5_state_22 : decode cX5_state 22 = .ok (.ireturn, 1) := by decide +kernel
set_option maxRecDepth 20000 in
theorem ggX5_pieces_X5_isGame : GoodIn wsX5_pieces wsX5_isGame := goodIn_r _ [7, 8, 19, 20, 21, 22, 23, 24, 25, 26, 27, 28, 29, 30, 31, 32, 33, 34, 35, 36, 37, 38] (by decide +kernel) (by decide +kernel)
set_option maxRecDepth 20000 in
theorem gX5_pieces_X5_isGame : GoodIn wsX5_pieces (wsV RX5 125 RX5 yX5_isGame wsX5_isGame) := goodIn_app (goodIn_of _ (by decide +kernel)) ggX5_pieces_X5_isGame
set_option maxRecDepth 20000 in
theorem ggX5_pieces_X5_asks : GoodIn wsX5_pieces wsX5_asks := goodIn_r _ [12, 13, 19, 20, 21, 22, 23, 24, 25, 26, 27, 28, 29, 30, 31, 32, 33, 34, 35, 36, 37, 38] (by decide +kernel) (by decide +kernel)
set_option maxRecDepth 20000 in
theorem gX5_pieces_X5_asks : GoodIn wsX5_pieces (wsV RX5 72 RX5 yX5_asks wsX5_asks) := goodIn_app (goodIn_of _ (by decide +kernel)) ggX5_pieces_X5_asks
set_option maxRecDepth 20000 in
theorem ggX5_pieces_X5_at : GoodIn wsX5_pieces wsX5_at := goodIn_r _ [17, 18, 19, 20, 21, 22, 23, 24, 25, 26, 27, 28, 29, 30, 31, 32, 33, 34, 35, 36, 37, 38] (by decide +kernel) (by decide +kernel)
set_option maxRecDepth 20000 in
theorem gX5_pieces_X5_at : GoodIn wsX5_pieces (wsV RX5 118 RX5 yX5_at wsX5_at) := goodIn_app (goodIn_of _ (by decide +kernel)) ggX5_pieces_X5_at
theorem dX5_pieces_0 : decode cX5_pieces 0 = .ok (.aload_n 0, 1) := by decide +kernel
theorem dX5_pieces_1 : decode cX5_pieces 1 = .ok (.aload_n 0, 1) := by decide +kernel
theorem dX5_pieces_2 : decode cX5_pieces 2 = .ok (.iload_n 1, 1) := by decide +kernel
theorem dX5_pieces_3 : decode cX5_pieces 3 = .ok (.invokevirtual 125, 3) := by decide +kernel
theorem dX5_pieces_6 : decode cX5_pieces 6 = .ok (.invokevirtual 72, 3) := by decide +kernel
theorem dX5_pieces_9 : decode cX5_pieces 9 = .ok (.ifCond .ne 5, 3) := by decide +kernel
theorem dX5_pieces_12 : decode cX5_pieces 12 = .ok (.iconst 0, 1) := by decide +kernel
theorem dX5_pieces_13 : decode cX5_pieces 13 = .ok (.ireturn, 1) := by decide +kernel
theorem dX5_pieces_14 : decode cX5_pieces 14 = .ok (.iload_n 2, 1) := by decide +kernel
theorem dX5_pieces_15 : decode cX5_pieces 15 = .ok (.ifCond .eq 16, 3) := by decide +kernel
theorem dX5_pieces_18 : decode cX5_pieces 18 = .ok (.aload_n 0, 1) := by decide +kernel
theorem dX5_pieces_19 : decode cX5_pieces 19 = .ok (.getfield 55, 3) := by decide +kernel
theorem dX5_pieces_22 : decode cX5_pieces 22 = .ok (.aload_n 0, 1) := by decide +kernel
theorem dX5_pieces_23 : decode cX5_pieces 23 = .ok (.iload_n 1, 1) := by decide +kernel
theorem dX5_pieces_24 : decode cX5_pieces 24 = .ok (.invokevirtual 118, 3) := by decide +kernel
theorem dX5_pieces_27 : decode cX5_pieces 27 = .ok (.iaload, 1) := by decide +kernel
theorem dX5_pieces_28 : decode cX5_pieces 28 = .ok (.goto 13, 3) := by decide +kernel
theorem dX5_pieces_31 : decode cX5_pieces 31 = .ok (.aload_n 0, 1) := by decide +kernel
theorem dX5_pieces_32 : decode cX5_pieces 32 = .ok (.getfield 52, 3) := by decide +kernel
theorem dX5_pieces_35 : decode cX5_pieces 35 = .ok (.aload_n 0, 1) := by decide +kernel
theorem dX5_pieces_36 : decode cX5_pieces 36 = .ok (.iload_n 1, 1) := by decide +kernel
theorem dX5_pieces_37 : decode cX5_pieces 37 = .ok (.invokevirtual 118, 3) := by decide +kernel
theorem dX5_pieces_40 : decode cX5_pieces 40 = .ok (.iaload, 1) := by decide +kernel
theorem dX5_pieces_41 : decode cX5_pieces 41 = .ok (.ireturn, 1) := by decide +kernel
set_option maxRecDepth 20000 in
theorem ggX5_made_X5_isGame : GoodIn wsX5_made wsX5_isGame := goodIn_r _ [6, 7, 13, 14, 15, 16, 17, 18, 19, 20, 21, 22, 23, 24, 25, 26, 27, 28, 29, 30, 31, 32] (by decide +kernel) (by decide +kernel)
set_option maxRecDepth 20000 in
theorem gX5_made_X5_isGame : GoodIn wsX5_made (wsV RX5 125 RX5 yX5_isGame wsX5_isGame) := goodIn_app (goodIn_of _ (by decide +kernel)) ggX5_made_X5_isGame
set_option maxRecDepth 20000 in
theorem ggX5_made_X5_asks : GoodIn wsX5_made wsX5_asks := goodIn_r _ [11, 12, 13, 14, 15, 16, 17, 18, 19, 20, 21, 22, 23, 24, 25, 26, 27, 28, 29, 30, 31, 32] (by decide +kernel) (by decide +kernel)
set_option maxRecDepth 20000 in
theorem gX5_made_X5_asks : GoodIn wsX5_made (wsV RX5 72 RX5 yX5_asks wsX5_asks) := goodIn_app (goodIn_of _ (by decide +kernel)) ggX5_made_X5_asks
theorem dX5_made_0 : decode cX5_made 0 = .ok (.aload_n 0, 1) := by decide +kernel
theorem dX5_made_1 : decode cX5_made 1 = .ok (.aload_n 0, 1) := by decide +kernel
theorem dX5_made_2 : decode cX5_made 2 = .ok (.iload_n 1, 1) := by decide +kernel
theorem dX5_made_3 : decode cX5_made 3 = .ok (.invokevirtual 125, 3) := by decide +kernel
theorem dX5_made_6 : decode cX5_made 6 = .ok (.invokevirtual 72, 3) := by decide +kernel
theorem dX5_made_9 : decode cX5_made 9 = .ok (.ifCond .eq 12, 3) := by decide +kernel
theorem dX5_made_12 : decode cX5_made 12 = .ok (.aload_n 0, 1) := by decide +kernel
theorem dX5_made_13 : decode cX5_made 13 = .ok (.getfield 49, 3) := by decide +kernel
theorem dX5_made_16 : decode cX5_made 16 = .ok (.iload_n 1, 1) := by decide +kernel
theorem dX5_made_17 : decode cX5_made 17 = .ok (.iaload, 1) := by decide +kernel
theorem dX5_made_18 : decode cX5_made 18 = .ok (.goto 4, 3) := by decide +kernel
theorem dX5_made_21 : decode cX5_made 21 = .ok (.iconst 0, 1) := by decide +kernel
theorem dX5_made_22 : decode cX5_made 22 = .ok (.ireturn, 1) := by decide +kernel
set_option maxRecDepth 20000 in
theorem ggX5_standing_X5_moves : GoodIn wsX5_standing wsX5_moves := goodIn_r _ [8, 9, 10, 11, 7, 12, 13, 14, 15, 16, 17, 18, 19, 20, 21, 22, 23, 24, 28, 29, 30, 31, 32, 33, 34, 35, 36, 37, 38, 39, 40, 41, 42, 43, 44, 45, 46, 47] (by decide +kernel) (by decide +kernel)
set_option maxRecDepth 20000 in
theorem gX5_standing_X5_moves : GoodIn wsX5_standing (wsV RX5 111 RX5 yX5_moves wsX5_moves) := goodIn_app (goodIn_of _ (by decide +kernel)) ggX5_standing_X5_moves
set_option maxRecDepth 20000 in
theorem ggX5_standing_X5_size : GoodIn wsX5_standing wsX5_size := goodIn_r _ [27] (by decide +kernel) (by decide +kernel)
set_option maxRecDepth 20000 in
theorem gX5_standing_X5_size : GoodIn wsX5_standing (va_wsS RX5 98 yX5_size wsX5_size) := goodIn_app (goodIn_of _ (by decide +kernel)) ggX5_standing_X5_size
theorem dX5_standing_0 : decode cX5_standing 0 = .ok (.aload_n 0, 1) := by decide +kernel
theorem dX5_standing_1 : decode cX5_standing 1 = .ok (.aload_n 0, 1) := by decide +kernel
theorem dX5_standing_2 : decode cX5_standing 2 = .ok (.getfield 37, 3) := by decide +kernel
theorem dX5_standing_5 : decode cX5_standing 5 = .ok (.iload_n 1, 1) := by decide +kernel
theorem dX5_standing_6 : decode cX5_standing 6 = .ok (.iaload, 1) := by decide +kernel
theorem dX5_standing_7 : decode cX5_standing 7 = .ok (.aload_n 0, 1) := by decide +kernel
theorem dX5_standing_8 : decode cX5_standing 8 = .ok (.getfield 22, 3) := by decide +kernel
theorem dX5_standing_11 : decode cX5_standing 11 = .ok (.aload_n 0, 1) := by decide +kernel
theorem dX5_standing_12 : decode cX5_standing 12 = .ok (.getfield 34, 3) := by decide +kernel
theorem dX5_standing_15 : decode cX5_standing 15 = .ok (.iload_n 1, 1) := by decide +kernel
theorem dX5_standing_16 : decode cX5_standing 16 = .ok (.iaload, 1) := by decide +kernel
theorem dX5_standing_17 : decode cX5_standing 17 = .ok (.iaload, 1) := by decide +kernel
theorem dX5_standing_18 : decode cX5_standing 18 = .ok (.iload_n 2, 1) := by decide +kernel
theorem dX5_standing_19 : decode cX5_standing 19 = .ok (.iload_n 3, 1) := by decide +kernel
theorem dX5_standing_20 : decode cX5_standing 20 = .ok (.iload 4, 2) := by decide +kernel
theorem dX5_standing_22 : decode cX5_standing 22 = .ok (.invokevirtual 111, 3) := by decide +kernel
theorem dX5_standing_25 : decode cX5_standing 25 = .ok (.ifCond .eq 15, 3) := by decide +kernel
theorem dX5_standing_28 : decode cX5_standing 28 = .ok (.iload_n 2, 1) := by decide +kernel
theorem dX5_standing_29 : decode cX5_standing 29 = .ok (.invokestatic 98, 3) := by decide +kernel
theorem dX5_standing_32 : decode cX5_standing 32 = .ok (.iload_n 3, 1) := by decide +kernel
theorem dX5_standing_33 : decode cX5_standing 33 = .ok (.invokestatic 98, 3) := by decide +kernel
theorem dX5_standing_36 : decode cX5_standing 36 = .ok (.isub, 1) := by decide +kernel
theorem dX5_standing_37 : decode cX5_standing 37 = .ok (.goto 5, 3) := by decide +kernel
theorem dX5_standing_40 : decode cX5_standing 40 = .ok (.bipush (-100), 2) := by decide +kernel
theorem dX5_standing_42 : decode cX5_standing 42 = .ok (.ireturn, 1) := by decide +kernel
set_option maxRecDepth 20000 in
theorem ggX5_onward_X5_goes : GoodIn wsX5_onward wsX5_goes := goodIn_r _ [8, 9, 10, 11, 12, 7, 13, 14, 15, 16, 17, 18, 19, 20, 32, 33, 34, 35, 36, 37, 38, 39, 40, 41, 42, 43, 44, 45, 46, 47, 48, 49, 50, 51] (by decide +kernel) (by decide +kernel)
set_option maxRecDepth 20000 in
theorem gX5_onward_X5_goes : GoodIn wsX5_onward (wsV RX5 95 RX5 yX5_goes wsX5_goes) := goodIn_app (goodIn_of _ (by decide +kernel)) ggX5_onward_X5_goes
set_option maxRecDepth 20000 in
theorem ggX5_onward_X5_standing : GoodIn wsX5_onward wsX5_standing := goodIn_r _ [24, 1, 2, 3, 25, 26, 27, 7, 28, 4, 5, 6, 8, 9, 10, 11, 12, 13, 14, 15, 16, 17, 18, 19, 20, 29, 30, 31, 32, 33, 34, 35, 36, 37, 38, 39, 40, 41, 42, 43, 44, 45, 46, 47, 48, 49, 50, 51] (by decide +kernel) (by decide +kernel)
set_option maxRecDepth 20000 in
theorem gX5_onward_X5_standing : GoodIn wsX5_onward (wsV RX5 137 RX5 yX5_standing wsX5_standing) := goodIn_app (goodIn_of _ (by decide +kernel)) ggX5_onward_X5_standing
theorem dX5_onward_0 : decode cX5_onward 0 = .ok (.bipush (-100), 2) := by decide +kernel
theorem dX5_onward_2 : decode cX5_onward 2 = .ok (.istore 5, 2) := by decide +kernel
theorem dX5_onward_4 : decode cX5_onward 4 = .ok (.iconst 0, 1) := by decide +kernel
theorem dX5_onward_5 : decode cX5_onward 5 = .ok (.istore 6, 2) := by decide +kernel
theorem dX5_onward_7 : decode cX5_onward 7 = .ok (.iload 6, 2) := by decide +kernel
theorem dX5_onward_9 : decode cX5_onward 9 = .ok (.bipush 25, 2) := by decide +kernel
theorem dX5_onward_11 : decode cX5_onward 11 = .ok (.if_icmp .ge 134, 3) := by decide +kernel
theorem dX5_onward_14 : decode cX5_onward 14 = .ok (.iload_n 2, 1) := by decide +kernel
theorem dX5_onward_15 : decode cX5_onward 15 = .ok (.iload 6, 2) := by decide +kernel
theorem dX5_onward_17 : decode cX5_onward 17 = .ok (.ishr, 1) := by decide +kernel
theorem dX5_onward_18 : decode cX5_onward 18 = .ok (.iconst 1, 1) := by decide +kernel
theorem dX5_onward_19 : decode cX5_onward 19 = .ok (.iand, 1) := by decide +kernel
theorem dX5_onward_20 : decode cX5_onward 20 = .ok (.iconst 1, 1) := by decide +kernel
theorem dX5_onward_21 : decode cX5_onward 21 = .ok (.if_icmp .ne 33, 3) := by decide +kernel
theorem dX5_onward_24 : decode cX5_onward 24 = .ok (.aload_n 0, 1) := by decide +kernel
theorem dX5_onward_25 : decode cX5_onward 25 = .ok (.aload_n 0, 1) := by decide +kernel
theorem dX5_onward_26 : decode cX5_onward 26 = .ok (.getfield 37, 3) := by decide +kernel
theorem dX5_onward_29 : decode cX5_onward 29 = .ok (.iload_n 1, 1) := by decide +kernel
theorem dX5_onward_30 : decode cX5_onward 30 = .ok (.iaload, 1) := by decide +kernel
theorem dX5_onward_31 : decode cX5_onward 31 = .ok (.aload_n 0, 1) := by decide +kernel
theorem dX5_onward_32 : decode cX5_onward 32 = .ok (.getfield 22, 3) := by decide +kernel
theorem dX5_onward_35 : decode cX5_onward 35 = .ok (.aload_n 0, 1) := by decide +kernel
theorem dX5_onward_36 : decode cX5_onward 36 = .ok (.getfield 34, 3) := by decide +kernel
theorem dX5_onward_39 : decode cX5_onward 39 = .ok (.iload_n 1, 1) := by decide +kernel
theorem dX5_onward_40 : decode cX5_onward 40 = .ok (.iaload, 1) := by decide +kernel
theorem dX5_onward_41 : decode cX5_onward 41 = .ok (.iaload, 1) := by decide +kernel
theorem dX5_onward_42 : decode cX5_onward 42 = .ok (.iload_n 2, 1) := by decide +kernel
theorem dX5_onward_43 : decode cX5_onward 43 = .ok (.iload_n 3, 1) := by decide +kernel
theorem dX5_onward_44 : decode cX5_onward 44 = .ok (.iload 4, 2) := by decide +kernel
theorem dX5_onward_46 : decode cX5_onward 46 = .ok (.iload 6, 2) := by decide +kernel
theorem dX5_onward_48 : decode cX5_onward 48 = .ok (.invokevirtual 95, 3) := by decide +kernel
theorem dX5_onward_51 : decode cX5_onward 51 = .ok (.goto 4, 3) := by decide +kernel
theorem dX5_onward_54 : decode cX5_onward 54 = .ok (.iconst 0, 1) := by decide +kernel
theorem dX5_onward_55 : decode cX5_onward 55 = .ok (.istore 7, 2) := by decide +kernel
theorem dX5_onward_57 : decode cX5_onward 57 = .ok (.iconst 0, 1) := by decide +kernel
theorem dX5_onward_58 : decode cX5_onward 58 = .ok (.istore 8, 2) := by decide +kernel
theorem dX5_onward_60 : decode cX5_onward 60 = .ok (.iload 8, 2) := by decide +kernel
theorem dX5_onward_62 : decode cX5_onward 62 = .ok (.bipush 25, 2) := by decide +kernel
theorem dX5_onward_64 : decode cX5_onward 64 = .ok (.if_icmp .ge 75, 3) := by decide +kernel
theorem dX5_onward_67 : decode cX5_onward 67 = .ok (.iload 7, 2) := by decide +kernel
theorem dX5_onward_69 : decode cX5_onward 69 = .ok (.iload 8, 2) := by decide +kernel
theorem dX5_onward_71 : decode cX5_onward 71 = .ok (.ishr, 1) := by decide +kernel
theorem dX5_onward_72 : decode cX5_onward 72 = .ok (.iconst 1, 1) := by decide +kernel
theorem dX5_onward_73 : decode cX5_onward 73 = .ok (.iand, 1) := by decide +kernel
theorem dX5_onward_74 : decode cX5_onward 74 = .ok (.iconst 1, 1) := by decide +kernel
theorem dX5_onward_75 : decode cX5_onward 75 = .ok (.if_icmp .ne 58, 3) := by decide +kernel
theorem dX5_onward_78 : decode cX5_onward 78 = .ok (.aload_n 0, 1) := by decide +kernel
theorem dX5_onward_79 : decode cX5_onward 79 = .ok (.iload_n 1, 1) := by decide +kernel
theorem dX5_onward_80 : decode cX5_onward 80 = .ok (.iload_n 3, 1) := by decide +kernel
theorem dX5_onward_81 : decode cX5_onward 81 = .ok (.iconst 1, 1) := by decide +kernel
theorem dX5_onward_82 : decode cX5_onward 82 = .ok (.iload 8, 2) := by decide +kernel
theorem dX5_onward_84 : decode cX5_onward 84 = .ok (.ishl, 1) := by decide +kernel
theorem dX5_onward_85 : decode cX5_onward 85 = .ok (.iconst (-1), 1) := by decide +kernel
theorem dX5_onward_86 : decode cX5_onward 86 = .ok (.ixor, 1) := by decide +kernel
theorem dX5_onward_87 : decode cX5_onward 87 = .ok (.iand, 1) := by decide +kernel
theorem dX5_onward_88 : decode cX5_onward 88 = .ok (.iload_n 2, 1) := by decide +kernel
theorem dX5_onward_89 : decode cX5_onward 89 = .ok (.iconst 1, 1) := by decide +kernel
theorem dX5_onward_90 : decode cX5_onward 90 = .ok (.iload 6, 2) := by decide +kernel
theorem dX5_onward_92 : decode cX5_onward 92 = .ok (.ishl, 1) := by decide +kernel
theorem dX5_onward_93 : decode cX5_onward 93 = .ok (.iconst (-1), 1) := by decide +kernel
theorem dX5_onward_94 : decode cX5_onward 94 = .ok (.ixor, 1) := by decide +kernel
theorem dX5_onward_95 : decode cX5_onward 95 = .ok (.iand, 1) := by decide +kernel
theorem dX5_onward_96 : decode cX5_onward 96 = .ok (.iconst 1, 1) := by decide +kernel
theorem dX5_onward_97 : decode cX5_onward 97 = .ok (.iload 8, 2) := by decide +kernel
theorem dX5_onward_99 : decode cX5_onward 99 = .ok (.ishl, 1) := by decide +kernel
theorem dX5_onward_100 : decode cX5_onward 100 = .ok (.ior, 1) := by decide +kernel
theorem dX5_onward_101 : decode cX5_onward 101 = .ok (.iload 4, 2) := by decide +kernel
theorem dX5_onward_103 : decode cX5_onward 103 = .ok (.ifCond .ne 7, 3) := by decide +kernel
theorem dX5_onward_106 : decode cX5_onward 106 = .ok (.iconst 1, 1) := by decide +kernel
theorem dX5_onward_107 : decode cX5_onward 107 = .ok (.goto 4, 3) := by decide +kernel
theorem dX5_onward_110 : decode cX5_onward 110 = .ok (.iconst 0, 1) := by decide +kernel
theorem dX5_onward_111 : decode cX5_onward 111 = .ok (.invokevirtual 137, 3) := by decide +kernel
theorem dX5_onward_114 : decode cX5_onward 114 = .ok (.ineg, 1) := by decide +kernel
theorem dX5_onward_115 : decode cX5_onward 115 = .ok (.istore 9, 2) := by decide +kernel
theorem dX5_onward_117 : decode cX5_onward 117 = .ok (.iload 9, 2) := by decide +kernel
theorem dX5_onward_119 : decode cX5_onward 119 = .ok (.iload 5, 2) := by decide +kernel
theorem dX5_onward_121 : decode cX5_onward 121 = .ok (.if_icmp .le 8, 3) := by decide +kernel
theorem dX5_onward_124 : decode cX5_onward 124 = .ok (.iload 9, 2) := by decide +kernel
theorem dX5_onward_126 : decode cX5_onward 126 = .ok (.goto 5, 3) := by decide +kernel
theorem dX5_onward_129 : decode cX5_onward 129 = .ok (.iload 5, 2) := by decide +kernel
theorem dX5_onward_131 : decode cX5_onward 131 = .ok (.istore 5, 2) := by decide +kernel
theorem dX5_onward_133 : decode cX5_onward 133 = .ok (.iinc 8 1, 3) := by decide +kernel
theorem dX5_onward_136 : decode cX5_onward 136 = .ok (.goto (-76), 3) := by decide +kernel
theorem dX5_onward_139 : decode cX5_onward 139 = .ok (.iinc 6 1, 3) := by decide +kernel
theorem dX5_onward_142 : decode cX5_onward 142 = .ok (.goto (-135), 3) := by decide +kernel
theorem dX5_onward_145 : decode cX5_onward 145 = .ok (.iload 5, 2) := by decide +kernel
theorem dX5_onward_147 : decode cX5_onward 147 = .ok (.ireturn, 1) := by decide +kernel
set_option maxRecDepth 20000 in
theorem ggX5_farther_X5_goes : GoodIn wsX5_farther wsX5_goes := goodIn_r _ [8, 9, 10, 11, 12, 7, 13, 14, 15, 16, 17, 18, 19, 20, 36, 37, 38, 39, 40, 41, 42, 43, 44, 45, 46, 47, 48, 49, 50, 51, 52, 53, 54, 55] (by decide +kernel) (by decide +kernel)
set_option maxRecDepth 20000 in
theorem gX5_farther_X5_goes : GoodIn wsX5_farther (wsV RX5 95 RX5 yX5_goes wsX5_goes) := goodIn_app (goodIn_of _ (by decide +kernel)) ggX5_farther_X5_goes
set_option maxRecDepth 20000 in
theorem ggX5_farther_X5_onward : GoodIn wsX5_farther wsX5_onward := goodIn_r _ [24, 1, 2, 3, 4, 5, 6, 7, 8, 9, 10, 11, 12, 13, 14, 15, 16, 17, 18, 19, 20, 25, 26, 27, 28, 29, 30, 31, 32, 33, 34, 35, 36, 37, 38, 39, 40, 41, 42, 43, 44, 45, 46, 47, 48, 49, 50, 51, 52, 53, 54, 55] (by decide +kernel) (by decide +kernel)
set_option maxRecDepth 20000 in
theorem gX5_farther_X5_onward : GoodIn wsX5_farther (wsV RX5 141 RX5 yX5_onward wsX5_onward) := goodIn_app (goodIn_of _ (by decide +kernel)) ggX5_farther_X5_onward
theorem dX5_farther_0 : decode cX5_farther 0 = .ok (.bipush (-100), 2) := by decide +kernel
theorem dX5_farther_2 : decode cX5_farther 2 = .ok (.istore 5, 2) := by decide +kernel
theorem dX5_farther_4 : decode cX5_farther 4 = .ok (.iconst 0, 1) := by decide +kernel
theorem dX5_farther_5 : decode cX5_farther 5 = .ok (.istore 6, 2) := by decide +kernel
theorem dX5_farther_7 : decode cX5_farther 7 = .ok (.iload 6, 2) := by decide +kernel
theorem dX5_farther_9 : decode cX5_farther 9 = .ok (.bipush 25, 2) := by decide +kernel
theorem dX5_farther_11 : decode cX5_farther 11 = .ok (.if_icmp .ge 134, 3) := by decide +kernel
theorem dX5_farther_14 : decode cX5_farther 14 = .ok (.iload_n 2, 1) := by decide +kernel
theorem dX5_farther_15 : decode cX5_farther 15 = .ok (.iload 6, 2) := by decide +kernel
theorem dX5_farther_17 : decode cX5_farther 17 = .ok (.ishr, 1) := by decide +kernel
theorem dX5_farther_18 : decode cX5_farther 18 = .ok (.iconst 1, 1) := by decide +kernel
theorem dX5_farther_19 : decode cX5_farther 19 = .ok (.iand, 1) := by decide +kernel
theorem dX5_farther_20 : decode cX5_farther 20 = .ok (.iconst 1, 1) := by decide +kernel
theorem dX5_farther_21 : decode cX5_farther 21 = .ok (.if_icmp .ne 33, 3) := by decide +kernel
theorem dX5_farther_24 : decode cX5_farther 24 = .ok (.aload_n 0, 1) := by decide +kernel
theorem dX5_farther_25 : decode cX5_farther 25 = .ok (.aload_n 0, 1) := by decide +kernel
theorem dX5_farther_26 : decode cX5_farther 26 = .ok (.getfield 37, 3) := by decide +kernel
theorem dX5_farther_29 : decode cX5_farther 29 = .ok (.iload_n 1, 1) := by decide +kernel
theorem dX5_farther_30 : decode cX5_farther 30 = .ok (.iaload, 1) := by decide +kernel
theorem dX5_farther_31 : decode cX5_farther 31 = .ok (.aload_n 0, 1) := by decide +kernel
theorem dX5_farther_32 : decode cX5_farther 32 = .ok (.getfield 22, 3) := by decide +kernel
theorem dX5_farther_35 : decode cX5_farther 35 = .ok (.aload_n 0, 1) := by decide +kernel
theorem dX5_farther_36 : decode cX5_farther 36 = .ok (.getfield 34, 3) := by decide +kernel
theorem dX5_farther_39 : decode cX5_farther 39 = .ok (.iload_n 1, 1) := by decide +kernel
theorem dX5_farther_40 : decode cX5_farther 40 = .ok (.iaload, 1) := by decide +kernel
theorem dX5_farther_41 : decode cX5_farther 41 = .ok (.iaload, 1) := by decide +kernel
theorem dX5_farther_42 : decode cX5_farther 42 = .ok (.iload_n 2, 1) := by decide +kernel
theorem dX5_farther_43 : decode cX5_farther 43 = .ok (.iload_n 3, 1) := by decide +kernel
theorem dX5_farther_44 : decode cX5_farther 44 = .ok (.iload 4, 2) := by decide +kernel
theorem dX5_farther_46 : decode cX5_farther 46 = .ok (.iload 6, 2) := by decide +kernel
theorem dX5_farther_48 : decode cX5_farther 48 = .ok (.invokevirtual 95, 3) := by decide +kernel
theorem dX5_farther_51 : decode cX5_farther 51 = .ok (.goto 4, 3) := by decide +kernel
theorem dX5_farther_54 : decode cX5_farther 54 = .ok (.iconst 0, 1) := by decide +kernel
theorem dX5_farther_55 : decode cX5_farther 55 = .ok (.istore 7, 2) := by decide +kernel
theorem dX5_farther_57 : decode cX5_farther 57 = .ok (.iconst 0, 1) := by decide +kernel
theorem dX5_farther_58 : decode cX5_farther 58 = .ok (.istore 8, 2) := by decide +kernel
theorem dX5_farther_60 : decode cX5_farther 60 = .ok (.iload 8, 2) := by decide +kernel
theorem dX5_farther_62 : decode cX5_farther 62 = .ok (.bipush 25, 2) := by decide +kernel
theorem dX5_farther_64 : decode cX5_farther 64 = .ok (.if_icmp .ge 75, 3) := by decide +kernel
theorem dX5_farther_67 : decode cX5_farther 67 = .ok (.iload 7, 2) := by decide +kernel
theorem dX5_farther_69 : decode cX5_farther 69 = .ok (.iload 8, 2) := by decide +kernel
theorem dX5_farther_71 : decode cX5_farther 71 = .ok (.ishr, 1) := by decide +kernel
theorem dX5_farther_72 : decode cX5_farther 72 = .ok (.iconst 1, 1) := by decide +kernel
theorem dX5_farther_73 : decode cX5_farther 73 = .ok (.iand, 1) := by decide +kernel
theorem dX5_farther_74 : decode cX5_farther 74 = .ok (.iconst 1, 1) := by decide +kernel
theorem dX5_farther_75 : decode cX5_farther 75 = .ok (.if_icmp .ne 58, 3) := by decide +kernel
theorem dX5_farther_78 : decode cX5_farther 78 = .ok (.aload_n 0, 1) := by decide +kernel
theorem dX5_farther_79 : decode cX5_farther 79 = .ok (.iload_n 1, 1) := by decide +kernel
theorem dX5_farther_80 : decode cX5_farther 80 = .ok (.iload_n 3, 1) := by decide +kernel
theorem dX5_farther_81 : decode cX5_farther 81 = .ok (.iconst 1, 1) := by decide +kernel
theorem dX5_farther_82 : decode cX5_farther 82 = .ok (.iload 8, 2) := by decide +kernel
theorem dX5_farther_84 : decode cX5_farther 84 = .ok (.ishl, 1) := by decide +kernel
theorem dX5_farther_85 : decode cX5_farther 85 = .ok (.iconst (-1), 1) := by decide +kernel
theorem dX5_farther_86 : decode cX5_farther 86 = .ok (.ixor, 1) := by decide +kernel
theorem dX5_farther_87 : decode cX5_farther 87 = .ok (.iand, 1) := by decide +kernel
theorem dX5_farther_88 : decode cX5_farther 88 = .ok (.iload_n 2, 1) := by decide +kernel
theorem dX5_farther_89 : decode cX5_farther 89 = .ok (.iconst 1, 1) := by decide +kernel
theorem dX5_farther_90 : decode cX5_farther 90 = .ok (.iload 6, 2) := by decide +kernel
theorem dX5_farther_92 : decode cX5_farther 92 = .ok (.ishl, 1) := by decide +kernel
theorem dX5_farther_93 : decode cX5_farther 93 = .ok (.iconst (-1), 1) := by decide +kernel
theorem dX5_farther_94 : decode cX5_farther 94 = .ok (.ixor, 1) := by decide +kernel
theorem dX5_farther_95 : decode cX5_farther 95 = .ok (.iand, 1) := by decide +kernel
theorem dX5_farther_96 : decode cX5_farther 96 = .ok (.iconst 1, 1) := by decide +kernel
theorem dX5_farther_97 : decode cX5_farther 97 = .ok (.iload 8, 2) := by decide +kernel
theorem dX5_farther_99 : decode cX5_farther 99 = .ok (.ishl, 1) := by decide +kernel
theorem dX5_farther_100 : decode cX5_farther 100 = .ok (.ior, 1) := by decide +kernel
theorem dX5_farther_101 : decode cX5_farther 101 = .ok (.iload 4, 2) := by decide +kernel
theorem dX5_farther_103 : decode cX5_farther 103 = .ok (.ifCond .ne 7, 3) := by decide +kernel
theorem dX5_farther_106 : decode cX5_farther 106 = .ok (.iconst 1, 1) := by decide +kernel
theorem dX5_farther_107 : decode cX5_farther 107 = .ok (.goto 4, 3) := by decide +kernel
theorem dX5_farther_110 : decode cX5_farther 110 = .ok (.iconst 0, 1) := by decide +kernel
theorem dX5_farther_111 : decode cX5_farther 111 = .ok (.invokevirtual 141, 3) := by decide +kernel
theorem dX5_farther_114 : decode cX5_farther 114 = .ok (.ineg, 1) := by decide +kernel
theorem dX5_farther_115 : decode cX5_farther 115 = .ok (.istore 9, 2) := by decide +kernel
theorem dX5_farther_117 : decode cX5_farther 117 = .ok (.iload 9, 2) := by decide +kernel
theorem dX5_farther_119 : decode cX5_farther 119 = .ok (.iload 5, 2) := by decide +kernel
theorem dX5_farther_121 : decode cX5_farther 121 = .ok (.if_icmp .le 8, 3) := by decide +kernel
theorem dX5_farther_124 : decode cX5_farther 124 = .ok (.iload 9, 2) := by decide +kernel
theorem dX5_farther_126 : decode cX5_farther 126 = .ok (.goto 5, 3) := by decide +kernel
theorem dX5_farther_129 : decode cX5_farther 129 = .ok (.iload 5, 2) := by decide +kernel
theorem dX5_farther_131 : decode cX5_farther 131 = .ok (.istore 5, 2) := by decide +kernel
theorem dX5_farther_133 : decode cX5_farther 133 = .ok (.iinc 8 1, 3) := by decide +kernel
theorem dX5_farther_136 : decode cX5_farther 136 = .ok (.goto (-76), 3) := by decide +kernel
theorem dX5_farther_139 : decode cX5_farther 139 = .ok (.iinc 6 1, 3) := by decide +kernel
theorem dX5_farther_142 : decode cX5_farther 142 = .ok (.goto (-135), 3) := by decide +kernel
theorem dX5_farther_145 : decode cX5_farther 145 = .ok (.iload 5, 2) := by decide +kernel
theorem dX5_farther_147 : decode cX5_farther 147 = .ok (.ireturn, 1) := by decide +kernel
set_option maxRecDepth 20000 in
theorem ggX5_valueAt_X5_piecesOf : GoodIn wsX5_valueAt wsX5_piecesOf := goodIn_r _ [5, 6, 7, 8, 9, 10, 4, 11, 12, 13, 14, 15, 16, 55, 56, 57, 58, 59, 60, 61, 62, 63, 64, 65, 66, 67, 68, 69, 70, 71, 72, 73, 74] (by decide +kernel) (by decide +kernel)
set_option maxRecDepth 20000 in
theorem gX5_valueAt_X5_piecesOf : GoodIn wsX5_valueAt (wsV RX5 121 RX5 yX5_piecesOf wsX5_piecesOf) := goodIn_app (goodIn_of _ (by decide +kernel)) ggX5_valueAt_X5_piecesOf
set_option maxRecDepth 20000 in
theorem ggX5_valueAt_X5_isSecondsTurn : GoodIn wsX5_valueAt wsX5_isSecondsTurn := goodIn_r _ [11, 12, 55, 56, 57, 58, 59, 60, 61, 62, 63, 64, 65, 66, 67, 68, 69, 70, 71, 72, 73, 74] (by decide +kernel) (by decide +kernel)
set_option maxRecDepth 20000 in
theorem gX5_valueAt_X5_isSecondsTurn : GoodIn wsX5_valueAt (wsV RX5 115 RX5 yX5_isSecondsTurn wsX5_isSecondsTurn) := goodIn_app (goodIn_of _ (by decide +kernel)) ggX5_valueAt_X5_isSecondsTurn
set_option maxRecDepth 20000 in
theorem ggX5_valueAt_X5_standing : GoodIn wsX5_valueAt wsX5_standing := goodIn_r _ [20, 21, 22, 23, 24, 25, 26, 4, 27, 28, 29, 30, 31, 32, 33, 34, 35, 36, 37, 38, 39, 40, 41, 42, 43, 44, 45, 46, 55, 56, 57, 58, 59, 60, 61, 62, 63, 64, 65, 66, 67, 68, 69, 70, 71, 72, 73, 74] (by decide +kernel) (by decide +kernel)
set_option maxRecDepth 20000 in
theorem gX5_valueAt_X5_standing : GoodIn wsX5_valueAt (wsV RX5 137 RX5 yX5_standing wsX5_standing) := goodIn_app (goodIn_of _ (by decide +kernel)) ggX5_valueAt_X5_standing
set_option maxRecDepth 20000 in
theorem ggX5_valueAt_X5_onward : GoodIn wsX5_valueAt wsX5_onward := goodIn_r _ [50, 21, 22, 23, 28, 29, 30, 4, 31, 32, 33, 34, 35, 36, 37, 38, 39, 40, 41, 42, 43, 17, 18, 19, 20, 24, 25, 26, 27, 44, 45, 46, 55, 56, 57, 58, 59, 60, 61, 62, 63, 64, 65, 66, 67, 68, 69, 70, 71, 72, 73, 74] (by decide +kernel) (by decide +kernel)
set_option maxRecDepth 20000 in
theorem gX5_valueAt_X5_onward : GoodIn wsX5_valueAt (wsV RX5 141 RX5 yX5_onward wsX5_onward) := goodIn_app (goodIn_of _ (by decide +kernel)) ggX5_valueAt_X5_onward
set_option maxRecDepth 20000 in
theorem ggX5_valueAt_X5_farther : GoodIn wsX5_valueAt wsX5_farther := goodIn_r _ [54, 21, 22, 23, 28, 29, 30, 4, 31, 32, 33, 34, 35, 36, 37, 38, 39, 40, 41, 42, 43, 47, 48, 49, 50, 17, 18, 19, 20, 24, 25, 26, 27, 44, 45, 46, 55, 56, 57, 58, 59, 60, 61, 62, 63, 64, 65, 66, 67, 68, 69, 70, 71, 72, 73, 74] (by decide +kernel) (by decide +kernel)
set_option maxRecDepth 20000 in
theorem gX5_valueAt_X5_farther : GoodIn wsX5_valueAt (wsV RX5 144 RX5 yX5_farther wsX5_farther) := goodIn_app (goodIn_of _ (by decide +kernel)) ggX5_valueAt_X5_farther
theorem dX5_valueAt_0 : decode cX5_valueAt 0 = .ok (.aload_n 0, 1) := by decide +kernel
theorem dX5_valueAt_1 : decode cX5_valueAt 1 = .ok (.iload_n 1, 1) := by decide +kernel
theorem dX5_valueAt_2 : decode cX5_valueAt 2 = .ok (.iconst 1, 1) := by decide +kernel
theorem dX5_valueAt_3 : decode cX5_valueAt 3 = .ok (.invokevirtual 121, 3) := by decide +kernel
theorem dX5_valueAt_6 : decode cX5_valueAt 6 = .ok (.istore_n 3, 1) := by decide +kernel
theorem dX5_valueAt_7 : decode cX5_valueAt 7 = .ok (.aload_n 0, 1) := by decide +kernel
theorem dX5_valueAt_8 : decode cX5_valueAt 8 = .ok (.iload_n 1, 1) := by decide +kernel
theorem dX5_valueAt_9 : decode cX5_valueAt 9 = .ok (.iconst 0, 1) := by decide +kernel
theorem dX5_valueAt_10 : decode cX5_valueAt 10 = .ok (.invokevirtual 121, 3) := by decide +kernel
theorem dX5_valueAt_13 : decode cX5_valueAt 13 = .ok (.istore 4, 2) := by decide +kernel
theorem dX5_valueAt_15 : decode cX5_valueAt 15 = .ok (.aload_n 0, 1) := by decide +kernel
theorem dX5_valueAt_16 : decode cX5_valueAt 16 = .ok (.iload_n 1, 1) := by decide +kernel
theorem dX5_valueAt_17 : decode cX5_valueAt 17 = .ok (.invokevirtual 115, 3) := by decide +kernel
theorem dX5_valueAt_20 : decode cX5_valueAt 20 = .ok (.istore 5, 2) := by decide +kernel
theorem dX5_valueAt_22 : decode cX5_valueAt 22 = .ok (.iload_n 2, 1) := by decide +kernel
theorem dX5_valueAt_23 : decode cX5_valueAt 23 = .ok (.ifCond .ne 16, 3) := by decide +kernel
theorem dX5_valueAt_26 : decode cX5_valueAt 26 = .ok (.aload_n 0, 1) := by decide +kernel
theorem dX5_valueAt_27 : decode cX5_valueAt 27 = .ok (.iload_n 1, 1) := by decide +kernel
theorem dX5_valueAt_28 : decode cX5_valueAt 28 = .ok (.iload_n 3, 1) := by decide +kernel
theorem dX5_valueAt_29 : decode cX5_valueAt 29 = .ok (.iload 4, 2) := by decide +kernel
theorem dX5_valueAt_31 : decode cX5_valueAt 31 = .ok (.iload 5, 2) := by decide +kernel
theorem dX5_valueAt_33 : decode cX5_valueAt 33 = .ok (.invokevirtual 137, 3) := by decide +kernel
theorem dX5_valueAt_36 : decode cX5_valueAt 36 = .ok (.goto 31, 3) := by decide +kernel
theorem dX5_valueAt_39 : decode cX5_valueAt 39 = .ok (.iload_n 2, 1) := by decide +kernel
theorem dX5_valueAt_40 : decode cX5_valueAt 40 = .ok (.iconst 1, 1) := by decide +kernel
theorem dX5_valueAt_41 : decode cX5_valueAt 41 = .ok (.if_icmp .ne 16, 3) := by decide +kernel
theorem dX5_valueAt_44 : decode cX5_valueAt 44 = .ok (.aload_n 0, 1) := by decide +kernel
theorem dX5_valueAt_45 : decode cX5_valueAt 45 = .ok (.iload_n 1, 1) := by decide +kernel
theorem dX5_valueAt_46 : decode cX5_valueAt 46 = .ok (.iload_n 3, 1) := by decide +kernel
theorem dX5_valueAt_47 : decode cX5_valueAt 47 = .ok (.iload 4, 2) := by decide +kernel
theorem dX5_valueAt_49 : decode cX5_valueAt 49 = .ok (.iload 5, 2) := by decide +kernel
theorem dX5_valueAt_51 : decode cX5_valueAt 51 = .ok (.invokevirtual 141, 3) := by decide +kernel
theorem dX5_valueAt_54 : decode cX5_valueAt 54 = .ok (.goto 13, 3) := by decide +kernel
theorem dX5_valueAt_57 : decode cX5_valueAt 57 = .ok (.aload_n 0, 1) := by decide +kernel
theorem dX5_valueAt_58 : decode cX5_valueAt 58 = .ok (.iload_n 1, 1) := by decide +kernel
theorem dX5_valueAt_59 : decode cX5_valueAt 59 = .ok (.iload_n 3, 1) := by decide +kernel
theorem dX5_valueAt_60 : decode cX5_valueAt 60 = .ok (.iload 4, 2) := by decide +kernel
theorem dX5_valueAt_62 : decode cX5_valueAt 62 = .ok (.iload 5, 2) := by decide +kernel
theorem dX5_valueAt_64 : decode cX5_valueAt 64 = .ok (.invokevirtual 144, 3) := by decide +kernel
theorem dX5_valueAt_67 : decode cX5_valueAt 67 = .ok (.ireturn, 1) := by decide +kernel
set_option maxRecDepth 20000 in
theorem ggX5_asksValue_X5_isGame : GoodIn wsX5_asksValue wsX5_isGame := goodIn_r _ [5, 6, 73, 74, 75, 76, 77, 78, 79, 80, 81, 82, 83, 84, 85, 86, 87, 88, 89, 90, 91, 92] (by decide +kernel) (by decide +kernel)
set_option maxRecDepth 20000 in
theorem gX5_asksValue_X5_isGame : GoodIn wsX5_asksValue (wsV RX5 125 RX5 yX5_isGame wsX5_isGame) := goodIn_app (goodIn_of _ (by decide +kernel)) ggX5_asksValue_X5_isGame
set_option maxRecDepth 20000 in
theorem ggX5_asksValue_X5_asks : GoodIn wsX5_asksValue wsX5_asks := goodIn_r _ [10, 11, 73, 74, 75, 76, 77, 78, 79, 80, 81, 82, 83, 84, 85, 86, 87, 88, 89, 90, 91, 92] (by decide +kernel) (by decide +kernel)
set_option maxRecDepth 20000 in
theorem gX5_asksValue_X5_asks : GoodIn wsX5_asksValue (wsV RX5 72 RX5 yX5_asks wsX5_asks) := goodIn_app (goodIn_of _ (by decide +kernel)) ggX5_asksValue_X5_asks
set_option maxRecDepth 20000 in
theorem ggX5_asksValue_X5_in : GoodIn wsX5_asksValue wsX5_in := goodIn_r _ [14] (by decide +kernel) (by decide +kernel)
set_option maxRecDepth 20000 in
theorem gX5_asksValue_X5_in : GoodIn wsX5_asksValue (va_wsS RX5 68 yX5_in wsX5_in) := goodIn_app (goodIn_of _ (by decide +kernel)) ggX5_asksValue_X5_in
set_option maxRecDepth 20000 in
theorem ggX5_asksValue_X5_valueAt : GoodIn wsX5_asksValue wsX5_valueAt := goodIn_r _ [18, 19, 20, 21, 4, 22, 23, 24, 25, 26, 27, 28, 29, 30, 31, 32, 33, 34, 35, 36, 37, 38, 39, 40, 41, 42, 43, 44, 45, 46, 47, 48, 49, 50, 51, 52, 53, 54, 55, 56, 57, 12, 13, 14, 58, 59, 60, 61, 62, 63, 64, 65, 66, 67, 68, 73, 74, 75, 76, 77, 78, 79, 80, 81, 82, 83, 84, 85, 86, 87, 88, 89, 90, 91, 92] (by decide +kernel) (by decide +kernel)
set_option maxRecDepth 20000 in
theorem gX5_asksValue_X5_valueAt : GoodIn wsX5_asksValue (wsV RX5 147 RX5 yX5_valueAt wsX5_valueAt) := goodIn_app (goodIn_of _ (by decide +kernel)) ggX5_asksValue_X5_valueAt
set_option maxRecDepth 20000 in
theorem ggX5_asksValue_X5_fails : GoodIn wsX5_asksValue wsX5_fails := goodIn_r _ [72, 11, 73, 74, 75, 76, 77, 78, 79, 80, 81, 82, 83, 84, 85, 86, 87, 88, 89, 90, 91, 92] (by decide +kernel) (by decide +kernel)
set_option maxRecDepth 20000 in
theorem gX5_asksValue_X5_fails : GoodIn wsX5_asksValue (wsV RX5 79 RX5 yX5_fails wsX5_fails) := goodIn_app (goodIn_of _ (by decide +kernel)) ggX5_asksValue_X5_fails
theorem dX5_asksValue_0 : decode cX5_asksValue 0 = .ok (.aload_n 0, 1) := by decide +kernel
theorem dX5_asksValue_1 : decode cX5_asksValue 1 = .ok (.aload_n 0, 1) := by decide +kernel
theorem dX5_asksValue_2 : decode cX5_asksValue 2 = .ok (.iload_n 1, 1) := by decide +kernel
theorem dX5_asksValue_3 : decode cX5_asksValue 3 = .ok (.invokevirtual 125, 3) := by decide +kernel
theorem dX5_asksValue_6 : decode cX5_asksValue 6 = .ok (.invokevirtual 72, 3) := by decide +kernel
theorem dX5_asksValue_9 : decode cX5_asksValue 9 = .ok (.ifCond .ne 5, 3) := by decide +kernel
theorem dX5_asksValue_12 : decode cX5_asksValue 12 = .ok (.iconst 0, 1) := by decide +kernel
theorem dX5_asksValue_13 : decode cX5_asksValue 13 = .ok (.ireturn, 1) := by decide +kernel
theorem dX5_asksValue_14 : decode cX5_asksValue 14 = .ok (.iload_n 2, 1) := by decide +kernel
theorem dX5_asksValue_15 : decode cX5_asksValue 15 = .ok (.iconst 0, 1) := by decide +kernel
theorem dX5_asksValue_16 : decode cX5_asksValue 16 = .ok (.iconst 2, 1) := by decide +kernel
theorem dX5_asksValue_17 : decode cX5_asksValue 17 = .ok (.invokestatic 68, 3) := by decide +kernel
theorem dX5_asksValue_20 : decode cX5_asksValue 20 = .ok (.ifCond .eq 12, 3) := by decide +kernel
theorem dX5_asksValue_23 : decode cX5_asksValue 23 = .ok (.aload_n 0, 1) := by decide +kernel
theorem dX5_asksValue_24 : decode cX5_asksValue 24 = .ok (.iload_n 1, 1) := by decide +kernel
theorem dX5_asksValue_25 : decode cX5_asksValue 25 = .ok (.iload_n 2, 1) := by decide +kernel
theorem dX5_asksValue_26 : decode cX5_asksValue 26 = .ok (.invokevirtual 147, 3) := by decide +kernel
theorem dX5_asksValue_29 : decode cX5_asksValue 29 = .ok (.goto 8, 3) := by decide +kernel
theorem dX5_asksValue_32 : decode cX5_asksValue 32 = .ok (.aload_n 0, 1) := by decide +kernel
theorem dX5_asksValue_33 : decode cX5_asksValue 33 = .ok (.iconst 2, 1) := by decide +kernel
theorem dX5_asksValue_34 : decode cX5_asksValue 34 = .ok (.invokevirtual 79, 3) := by decide +kernel
theorem dX5_asksValue_37 : decode cX5_asksValue 37 = .ok (.ireturn, 1) := by decide +kernel
set_option maxRecDepth 20000 in
theorem ggX5_value_X5_asksValue : GoodIn wsX5_value wsX5_asksValue := goodIn_r _ [5, 6, 7, 8, 4, 9, 10, 11, 12, 13, 14, 15, 16, 17, 18, 19, 20, 21, 22, 23, 24, 25, 26, 27, 28, 29, 30, 31, 32, 33, 34, 35, 36, 37, 38, 39, 40, 41, 42, 43, 44, 45, 46, 47, 48, 49, 50, 51, 52, 53, 54, 55, 56, 57, 58, 59, 60, 61, 62, 63, 64, 65, 66, 67, 68, 69, 70, 71, 72, 73, 74, 75, 76, 77, 78, 79, 80, 81, 82, 83, 84, 85, 86, 87, 88, 89, 90, 91, 92, 93, 94, 95, 96] (by decide +kernel) (by decide +kernel)
set_option maxRecDepth 20000 in
theorem gX5_value_X5_asksValue : GoodIn wsX5_value (wsV RX5 151 RX5 yX5_asksValue wsX5_asksValue) := goodIn_app (goodIn_of _ (by decide +kernel)) ggX5_value_X5_asksValue
theorem dX5_value_0 : decode cX5_value 0 = .ok (.aload_n 0, 1) := by decide +kernel
theorem dX5_value_1 : decode cX5_value 1 = .ok (.iload_n 1, 1) := by decide +kernel
theorem dX5_value_2 : decode cX5_value 2 = .ok (.iload_n 2, 1) := by decide +kernel
theorem dX5_value_3 : decode cX5_value 3 = .ok (.invokevirtual 151, 3) := by decide +kernel
theorem dX5_value_6 : decode cX5_value 6 = .ok (.ireturn, 1) := by decide +kernel
set_option maxRecDepth 20000 in
theorem ggX5_valueByAll_X5_asksValue : GoodIn wsX5_valueByAll wsX5_asksValue := goodIn_r _ [5, 6, 7, 8, 4, 9, 10, 11, 12, 13, 14, 15, 16, 17, 18, 19, 20, 21, 22, 23, 24, 25, 26, 27, 28, 29, 30, 31, 32, 33, 34, 35, 36, 37, 38, 39, 40, 41, 42, 43, 44, 45, 46, 47, 48, 49, 50, 51, 52, 53, 54, 55, 56, 57, 58, 59, 60, 61, 62, 63, 64, 65, 66, 67, 68, 69, 70, 71, 72, 73, 74, 75, 76, 77, 78, 79, 80, 81, 82, 83, 84, 85, 86, 87, 88, 89, 90, 91, 92, 93, 94, 95, 96] (by decide +kernel) (by decide +kernel)
set_option maxRecDepth 20000 in
theorem gX5_valueByAll_X5_asksValue : GoodIn wsX5_valueByAll (wsV RX5 151 RX5 yX5_asksValue wsX5_asksValue) := goodIn_app (goodIn_of _ (by decide +kernel)) ggX5_valueByAll_X5_asksValue
theorem dX5_valueByAll_0 : decode cX5_valueByAll 0 = .ok (.aload_n 0, 1) := by decide +kernel
theorem dX5_valueByAll_1 : decode cX5_valueByAll 1 = .ok (.iload_n 1, 1) := by decide +kernel
theorem dX5_valueByAll_2 : decode cX5_valueByAll 2 = .ok (.iload_n 2, 1) := by decide +kernel
theorem dX5_valueByAll_3 : decode cX5_valueByAll 3 = .ok (.invokevirtual 151, 3) := by decide +kernel
theorem dX5_valueByAll_6 : decode cX5_valueByAll 6 = .ok (.ireturn, 1) := by decide +kernel
set_option maxRecDepth 20000 in
theorem ggX5_vote_X5_isPlayer : GoodIn wsX5_vote wsX5_isPlayer := goodIn_r _ [5] (by decide +kernel) (by decide +kernel)
set_option maxRecDepth 20000 in
theorem gX5_vote_X5_isPlayer : GoodIn wsX5_vote (va_wsS RX5 101 yX5_isPlayer wsX5_isPlayer) := goodIn_app (goodIn_of _ (by decide +kernel)) ggX5_vote_X5_isPlayer
set_option maxRecDepth 20000 in
theorem ggX5_vote_X5_isVariant : GoodIn wsX5_vote wsX5_isVariant := goodIn_r _ [9, 10, 19, 20, 21, 22, 23, 24, 25, 26, 27, 28, 29, 30, 31, 32, 33, 34, 35, 36, 37, 38] (by decide +kernel) (by decide +kernel)
set_option maxRecDepth 20000 in
theorem gX5_vote_X5_isVariant : GoodIn wsX5_vote (wsV RX5 88 RX5 yX5_isVariant wsX5_isVariant) := goodIn_app (goodIn_of _ (by decide +kernel)) ggX5_vote_X5_isVariant
set_option maxRecDepth 20000 in
theorem ggX5_vote_X5_asks : GoodIn wsX5_vote wsX5_asks := goodIn_r _ [14, 15, 19, 20, 21, 22, 23, 24, 25, 26, 27, 28, 29, 30, 31, 32, 33, 34, 35, 36, 37, 38] (by decide +kernel) (by decide +kernel)
set_option maxRecDepth 20000 in
theorem gX5_vote_X5_asks : GoodIn wsX5_vote (wsV RX5 72 RX5 yX5_asks wsX5_asks) := goodIn_app (goodIn_of _ (by decide +kernel)) ggX5_vote_X5_asks
set_option maxRecDepth 20000 in
theorem ggX5_vote_X5_size : GoodIn wsX5_vote wsX5_size := goodIn_r _ [18] (by decide +kernel) (by decide +kernel)
set_option maxRecDepth 20000 in
theorem gX5_vote_X5_size : GoodIn wsX5_vote (va_wsS RX5 98 yX5_size wsX5_size) := goodIn_app (goodIn_of _ (by decide +kernel)) ggX5_vote_X5_size
theorem dX5_vote_0 : decode cX5_vote 0 = .ok (.aload_n 0, 1) := by decide +kernel
theorem dX5_vote_1 : decode cX5_vote 1 = .ok (.iload_n 1, 1) := by decide +kernel
theorem dX5_vote_2 : decode cX5_vote 2 = .ok (.invokestatic 101, 3) := by decide +kernel
theorem dX5_vote_5 : decode cX5_vote 5 = .ok (.ifCond .eq 15, 3) := by decide +kernel
theorem dX5_vote_8 : decode cX5_vote 8 = .ok (.aload_n 0, 1) := by decide +kernel
theorem dX5_vote_9 : decode cX5_vote 9 = .ok (.iload_n 2, 1) := by decide +kernel
theorem dX5_vote_10 : decode cX5_vote 10 = .ok (.invokevirtual 88, 3) := by decide +kernel
theorem dX5_vote_13 : decode cX5_vote 13 = .ok (.ifCond .eq 7, 3) := by decide +kernel
theorem dX5_vote_16 : decode cX5_vote 16 = .ok (.iconst 1, 1) := by decide +kernel
theorem dX5_vote_17 : decode cX5_vote 17 = .ok (.goto 4, 3) := by decide +kernel
theorem dX5_vote_20 : decode cX5_vote 20 = .ok (.iconst 0, 1) := by decide +kernel
theorem dX5_vote_21 : decode cX5_vote 21 = .ok (.invokevirtual 72, 3) := by decide +kernel
theorem dX5_vote_24 : decode cX5_vote 24 = .ok (.ifCond .ne 5, 3) := by decide +kernel
theorem dX5_vote_27 : decode cX5_vote 27 = .ok (.iconst 0, 1) := by decide +kernel
theorem dX5_vote_28 : decode cX5_vote 28 = .ok (.ireturn, 1) := by decide +kernel
theorem dX5_vote_29 : decode cX5_vote 29 = .ok (.aload_n 0, 1) := by decide +kernel
theorem dX5_vote_30 : decode cX5_vote 30 = .ok (.getfield 28, 3) := by decide +kernel
theorem dX5_vote_33 : decode cX5_vote 33 = .ok (.iload_n 2, 1) := by decide +kernel
theorem dX5_vote_34 : decode cX5_vote 34 = .ok (.dup2, 1) := by decide +kernel
theorem dX5_vote_35 : decode cX5_vote 35 = .ok (.iaload, 1) := by decide +kernel
theorem dX5_vote_36 : decode cX5_vote 36 = .ok (.iconst 1, 1) := by decide +kernel
theorem dX5_vote_37 : decode cX5_vote 37 = .ok (.iload_n 1, 1) := by decide +kernel
theorem dX5_vote_38 : decode cX5_vote 38 = .ok (.ishl, 1) := by decide +kernel
theorem dX5_vote_39 : decode cX5_vote 39 = .ok (.ixor, 1) := by decide +kernel
theorem dX5_vote_40 : decode cX5_vote 40 = .ok (.iastore, 1) := by decide +kernel
theorem dX5_vote_41 : decode cX5_vote 41 = .ok (.aload_n 0, 1) := by decide +kernel
theorem dX5_vote_42 : decode cX5_vote 42 = .ok (.getfield 28, 3) := by decide +kernel
theorem dX5_vote_45 : decode cX5_vote 45 = .ok (.iload_n 2, 1) := by decide +kernel
theorem dX5_vote_46 : decode cX5_vote 46 = .ok (.iaload, 1) := by decide +kernel
theorem dX5_vote_47 : decode cX5_vote 47 = .ok (.invokestatic 98, 3) := by decide +kernel
theorem dX5_vote_50 : decode cX5_vote 50 = .ok (.ireturn, 1) := by decide +kernel
set_option maxRecDepth 20000 in
theorem ggX5_isBanned_X5_isVariant : GoodIn wsX5_isBanned wsX5_isVariant := goodIn_r _ [5, 6, 18, 19, 20, 21, 22, 23, 24, 25, 26, 27, 28, 29, 30, 31, 32, 33, 34, 35, 36, 37] (by decide +kernel) (by decide +kernel)
set_option maxRecDepth 20000 in
theorem gX5_isBanned_X5_isVariant : GoodIn wsX5_isBanned (wsV RX5 88 RX5 yX5_isVariant wsX5_isVariant) := goodIn_app (goodIn_of _ (by decide +kernel)) ggX5_isBanned_X5_isVariant
set_option maxRecDepth 20000 in
theorem ggX5_isBanned_X5_asks : GoodIn wsX5_isBanned wsX5_asks := goodIn_r _ [10, 11, 18, 19, 20, 21, 22, 23, 24, 25, 26, 27, 28, 29, 30, 31, 32, 33, 34, 35, 36, 37] (by decide +kernel) (by decide +kernel)
set_option maxRecDepth 20000 in
theorem gX5_isBanned_X5_asks : GoodIn wsX5_isBanned (wsV RX5 72 RX5 yX5_asks wsX5_asks) := goodIn_app (goodIn_of _ (by decide +kernel)) ggX5_isBanned_X5_asks
set_option maxRecDepth 20000 in
theorem ggX5_isBanned_X5_isBannedNow : GoodIn wsX5_isBanned wsX5_isBannedNow := goodIn_r _ [15, 16, 17, 18, 19, 20, 21, 22, 23, 24, 25, 26, 27, 28, 29, 30, 31, 32, 33, 34, 35, 36, 37] (by decide +kernel) (by decide +kernel)
set_option maxRecDepth 20000 in
theorem gX5_isBanned_X5_isBannedNow : GoodIn wsX5_isBanned (wsV RX5 108 RX5 yX5_isBannedNow wsX5_isBannedNow) := goodIn_app (goodIn_of _ (by decide +kernel)) ggX5_isBanned_X5_isBannedNow
theorem dX5_isBanned_0 : decode cX5_isBanned 0 = .ok (.aload_n 0, 1) := by decide +kernel
theorem dX5_isBanned_1 : decode cX5_isBanned 1 = .ok (.aload_n 0, 1) := by decide +kernel
theorem dX5_isBanned_2 : decode cX5_isBanned 2 = .ok (.iload_n 1, 1) := by decide +kernel
theorem dX5_isBanned_3 : decode cX5_isBanned 3 = .ok (.invokevirtual 88, 3) := by decide +kernel
theorem dX5_isBanned_6 : decode cX5_isBanned 6 = .ok (.invokevirtual 72, 3) := by decide +kernel
theorem dX5_isBanned_9 : decode cX5_isBanned 9 = .ok (.ifCond .eq 15, 3) := by decide +kernel
theorem dX5_isBanned_12 : decode cX5_isBanned 12 = .ok (.aload_n 0, 1) := by decide +kernel
theorem dX5_isBanned_13 : decode cX5_isBanned 13 = .ok (.iload_n 1, 1) := by decide +kernel
theorem dX5_isBanned_14 : decode cX5_isBanned 14 = .ok (.invokevirtual 108, 3) := by decide +kernel
theorem dX5_isBanned_17 : decode cX5_isBanned 17 = .ok (.ifCond .eq 7, 3) := by decide +kernel
theorem dX5_isBanned_20 : decode cX5_isBanned 20 = .ok (.iconst 1, 1) := by decide +kernel
theorem dX5_isBanned_21 : decode cX5_isBanned 21 = .ok (.goto 4, 3) := by decide +kernel
theorem dX5_isBanned_24 : decode cX5_isBanned 24 = .ok (.iconst 0, 1) := by decide +kernel
theorem dX5_isBanned_25 : decode cX5_isBanned 25 = .ok (.ireturn, 1) := by decide +kernel
set_option maxRecDepth 20000 in
theorem ggX5_endless_X5_isVariant : GoodIn wsX5_endless wsX5_isVariant := goodIn_r _ [6, 7, 13, 14, 15, 16, 17, 18, 19, 20, 21, 22, 23, 24, 25, 26, 27, 28, 29, 30, 31, 32] (by decide +kernel) (by decide +kernel)
set_option maxRecDepth 20000 in
theorem gX5_endless_X5_isVariant : GoodIn wsX5_endless (wsV RX5 88 RX5 yX5_isVariant wsX5_isVariant) := goodIn_app (goodIn_of _ (by decide +kernel)) ggX5_endless_X5_isVariant
set_option maxRecDepth 20000 in
theorem ggX5_endless_X5_asks : GoodIn wsX5_endless wsX5_asks := goodIn_r _ [11, 12, 13, 14, 15, 16, 17, 18, 19, 20, 21, 22, 23, 24, 25, 26, 27, 28, 29, 30, 31, 32] (by decide +kernel) (by decide +kernel)
set_option maxRecDepth 20000 in
theorem gX5_endless_X5_asks : GoodIn wsX5_endless (wsV RX5 72 RX5 yX5_asks wsX5_asks) := goodIn_app (goodIn_of _ (by decide +kernel)) ggX5_endless_X5_asks
theorem dX5_endless_0 : decode cX5_endless 0 = .ok (.aload_n 0, 1) := by decide +kernel
theorem dX5_endless_1 : decode cX5_endless 1 = .ok (.aload_n 0, 1) := by decide +kernel
theorem dX5_endless_2 : decode cX5_endless 2 = .ok (.iload_n 1, 1) := by decide +kernel
theorem dX5_endless_3 : decode cX5_endless 3 = .ok (.invokevirtual 88, 3) := by decide +kernel
theorem dX5_endless_6 : decode cX5_endless 6 = .ok (.invokevirtual 72, 3) := by decide +kernel
theorem dX5_endless_9 : decode cX5_endless 9 = .ok (.ifCond .eq 12, 3) := by decide +kernel
theorem dX5_endless_12 : decode cX5_endless 12 = .ok (.aload_n 0, 1) := by decide +kernel
theorem dX5_endless_13 : decode cX5_endless 13 = .ok (.getfield 31, 3) := by decide +kernel
theorem dX5_endless_16 : decode cX5_endless 16 = .ok (.iload_n 1, 1) := by decide +kernel
theorem dX5_endless_17 : decode cX5_endless 17 = .ok (.iaload, 1) := by decide +kernel
theorem dX5_endless_18 : decode cX5_endless 18 = .ok (.goto 4, 3) := by decide +kernel
theorem dX5_endless_21 : decode cX5_endless 21 = .ok (.iconst 0, 1) := by decide +kernel
theorem dX5_endless_22 : decode cX5_endless 22 = .ok (.ireturn, 1) := by decide +kernel
set_option maxRecDepth 20000 in
theorem ggX5_points_X5_isPlayer : GoodIn wsX5_points wsX5_isPlayer := goodIn_r _ [9] (by decide +kernel) (by decide +kernel)
set_option maxRecDepth 20000 in
theorem gX5_points_X5_isPlayer : GoodIn wsX5_points (va_wsS RX5 101 yX5_isPlayer wsX5_isPlayer) := goodIn_app (goodIn_of _ (by decide +kernel)) ggX5_points_X5_isPlayer
set_option maxRecDepth 20000 in
theorem ggX5_points_X5_isVariant : GoodIn wsX5_points wsX5_isVariant := goodIn_r _ [13, 14, 26, 27, 28, 29, 30, 31, 32, 33, 34, 35, 36, 37, 38, 39, 40, 41, 42, 43, 44, 45] (by decide +kernel) (by decide +kernel)
set_option maxRecDepth 20000 in
theorem gX5_points_X5_isVariant : GoodIn wsX5_points (wsV RX5 88 RX5 yX5_isVariant wsX5_isVariant) := goodIn_app (goodIn_of _ (by decide +kernel)) ggX5_points_X5_isVariant
set_option maxRecDepth 20000 in
theorem ggX5_points_X5_asks : GoodIn wsX5_points wsX5_asks := goodIn_r _ [18, 19, 26, 27, 28, 29, 30, 31, 32, 33, 34, 35, 36, 37, 38, 39, 40, 41, 42, 43, 44, 45] (by decide +kernel) (by decide +kernel)
set_option maxRecDepth 20000 in
theorem gX5_points_X5_asks : GoodIn wsX5_points (wsV RX5 72 RX5 yX5_asks wsX5_asks) := goodIn_app (goodIn_of _ (by decide +kernel)) ggX5_points_X5_asks
set_option maxRecDepth 20000 in
theorem ggX5_points_X5_isBannedNow : GoodIn wsX5_points wsX5_isBannedNow := goodIn_r _ [23, 24, 25, 26, 27, 28, 29, 30, 31, 32, 33, 34, 35, 36, 37, 38, 39, 40, 41, 42, 43, 44, 45] (by decide +kernel) (by decide +kernel)
set_option maxRecDepth 20000 in
theorem gX5_points_X5_isBannedNow : GoodIn wsX5_points (wsV RX5 108 RX5 yX5_isBannedNow wsX5_isBannedNow) := goodIn_app (goodIn_of _ (by decide +kernel)) ggX5_points_X5_isBannedNow
theorem dX5_points_0 : decode cX5_points 0 = .ok (.aload_n 0, 1) := by decide +kernel
theorem dX5_points_1 : decode cX5_points 1 = .ok (.iload_n 1, 1) := by decide +kernel
theorem dX5_points_2 : decode cX5_points 2 = .ok (.invokestatic 101, 3) := by decide +kernel
theorem dX5_points_5 : decode cX5_points 5 = .ok (.ifCond .eq 15, 3) := by decide +kernel
theorem dX5_points_8 : decode cX5_points 8 = .ok (.aload_n 0, 1) := by decide +kernel
theorem dX5_points_9 : decode cX5_points 9 = .ok (.iload_n 2, 1) := by decide +kernel
theorem dX5_points_10 : decode cX5_points 10 = .ok (.invokevirtual 88, 3) := by decide +kernel
theorem dX5_points_13 : decode cX5_points 13 = .ok (.ifCond .eq 7, 3) := by decide +kernel
theorem dX5_points_16 : decode cX5_points 16 = .ok (.iconst 1, 1) := by decide +kernel
theorem dX5_points_17 : decode cX5_points 17 = .ok (.goto 4, 3) := by decide +kernel
theorem dX5_points_20 : decode cX5_points 20 = .ok (.iconst 0, 1) := by decide +kernel
theorem dX5_points_21 : decode cX5_points 21 = .ok (.invokevirtual 72, 3) := by decide +kernel
theorem dX5_points_24 : decode cX5_points 24 = .ok (.ifCond .ne 5, 3) := by decide +kernel
theorem dX5_points_27 : decode cX5_points 27 = .ok (.iconst 0, 1) := by decide +kernel
theorem dX5_points_28 : decode cX5_points 28 = .ok (.ireturn, 1) := by decide +kernel
theorem dX5_points_29 : decode cX5_points 29 = .ok (.iconst 0, 1) := by decide +kernel
theorem dX5_points_30 : decode cX5_points 30 = .ok (.istore_n 3, 1) := by decide +kernel
theorem dX5_points_31 : decode cX5_points 31 = .ok (.iconst 0, 1) := by decide +kernel
theorem dX5_points_32 : decode cX5_points 32 = .ok (.istore 4, 2) := by decide +kernel
theorem dX5_points_34 : decode cX5_points 34 = .ok (.iload 4, 2) := by decide +kernel
theorem dX5_points_36 : decode cX5_points 36 = .ok (.aload_n 0, 1) := by decide +kernel
theorem dX5_points_37 : decode cX5_points 37 = .ok (.getfield 65, 3) := by decide +kernel
theorem dX5_points_40 : decode cX5_points 40 = .ok (.if_icmp .ge 137, 3) := by decide +kernel
theorem dX5_points_43 : decode cX5_points 43 = .ok (.aload_n 0, 1) := by decide +kernel
theorem dX5_points_44 : decode cX5_points 44 = .ok (.getfield 46, 3) := by decide +kernel
theorem dX5_points_47 : decode cX5_points 47 = .ok (.iload 4, 2) := by decide +kernel
theorem dX5_points_49 : decode cX5_points 49 = .ok (.iaload, 1) := by decide +kernel
theorem dX5_points_50 : decode cX5_points 50 = .ok (.iconst 1, 1) := by decide +kernel
theorem dX5_points_51 : decode cX5_points 51 = .ok (.if_icmp .ne 14, 3) := by decide +kernel
theorem dX5_points_54 : decode cX5_points 54 = .ok (.aload_n 0, 1) := by decide +kernel
theorem dX5_points_55 : decode cX5_points 55 = .ok (.getfield 40, 3) := by decide +kernel
theorem dX5_points_58 : decode cX5_points 58 = .ok (.iload 4, 2) := by decide +kernel
theorem dX5_points_60 : decode cX5_points 60 = .ok (.iaload, 1) := by decide +kernel
theorem dX5_points_61 : decode cX5_points 61 = .ok (.iload_n 1, 1) := by decide +kernel
theorem dX5_points_62 : decode cX5_points 62 = .ok (.if_icmp .eq 25, 3) := by decide +kernel
theorem dX5_points_65 : decode cX5_points 65 = .ok (.aload_n 0, 1) := by decide +kernel
theorem dX5_points_66 : decode cX5_points 66 = .ok (.getfield 46, 3) := by decide +kernel
theorem dX5_points_69 : decode cX5_points 69 = .ok (.iload 4, 2) := by decide +kernel
theorem dX5_points_71 : decode cX5_points 71 = .ok (.iaload, 1) := by decide +kernel
theorem dX5_points_72 : decode cX5_points 72 = .ok (.iconst 2, 1) := by decide +kernel
theorem dX5_points_73 : decode cX5_points 73 = .ok (.if_icmp .ne 18, 3) := by decide +kernel
theorem dX5_points_76 : decode cX5_points 76 = .ok (.aload_n 0, 1) := by decide +kernel
theorem dX5_points_77 : decode cX5_points 77 = .ok (.getfield 43, 3) := by decide +kernel
theorem dX5_points_80 : decode cX5_points 80 = .ok (.iload 4, 2) := by decide +kernel
theorem dX5_points_82 : decode cX5_points 82 = .ok (.iaload, 1) := by decide +kernel
theorem dX5_points_83 : decode cX5_points 83 = .ok (.iload_n 1, 1) := by decide +kernel
theorem dX5_points_84 : decode cX5_points 84 = .ok (.if_icmp .ne 7, 3) := by decide +kernel
theorem dX5_points_87 : decode cX5_points 87 = .ok (.iconst 1, 1) := by decide +kernel
theorem dX5_points_88 : decode cX5_points 88 = .ok (.goto 4, 3) := by decide +kernel
theorem dX5_points_91 : decode cX5_points 91 = .ok (.iconst 0, 1) := by decide +kernel
theorem dX5_points_92 : decode cX5_points 92 = .ok (.istore 5, 2) := by decide +kernel
theorem dX5_points_94 : decode cX5_points 94 = .ok (.aload_n 0, 1) := by decide +kernel
theorem dX5_points_95 : decode cX5_points 95 = .ok (.getfield 46, 3) := by decide +kernel
theorem dX5_points_98 : decode cX5_points 98 = .ok (.iload 4, 2) := by decide +kernel
theorem dX5_points_100 : decode cX5_points 100 = .ok (.iaload, 1) := by decide +kernel
theorem dX5_points_101 : decode cX5_points 101 = .ok (.iconst 3, 1) := by decide +kernel
theorem dX5_points_102 : decode cX5_points 102 = .ok (.if_icmp .ne 29, 3) := by decide +kernel
theorem dX5_points_105 : decode cX5_points 105 = .ok (.aload_n 0, 1) := by decide +kernel
theorem dX5_points_106 : decode cX5_points 106 = .ok (.getfield 40, 3) := by decide +kernel
theorem dX5_points_109 : decode cX5_points 109 = .ok (.iload 4, 2) := by decide +kernel
theorem dX5_points_111 : decode cX5_points 111 = .ok (.iaload, 1) := by decide +kernel
theorem dX5_points_112 : decode cX5_points 112 = .ok (.iload_n 1, 1) := by decide +kernel
theorem dX5_points_113 : decode cX5_points 113 = .ok (.if_icmp .eq 14, 3) := by decide +kernel
theorem dX5_points_116 : decode cX5_points 116 = .ok (.aload_n 0, 1) := by decide +kernel
theorem dX5_points_117 : decode cX5_points 117 = .ok (.getfield 43, 3) := by decide +kernel
theorem dX5_points_120 : decode cX5_points 120 = .ok (.iload 4, 2) := by decide +kernel
theorem dX5_points_122 : decode cX5_points 122 = .ok (.iaload, 1) := by decide +kernel
theorem dX5_points_123 : decode cX5_points 123 = .ok (.iload_n 1, 1) := by decide +kernel
theorem dX5_points_124 : decode cX5_points 124 = .ok (.if_icmp .ne 7, 3) := by decide +kernel
theorem dX5_points_127 : decode cX5_points 127 = .ok (.iconst 1, 1) := by decide +kernel
theorem dX5_points_128 : decode cX5_points 128 = .ok (.goto 4, 3) := by decide +kernel
theorem dX5_points_131 : decode cX5_points 131 = .ok (.iconst 0, 1) := by decide +kernel
theorem dX5_points_132 : decode cX5_points 132 = .ok (.istore 6, 2) := by decide +kernel
theorem dX5_points_134 : decode cX5_points 134 = .ok (.iload_n 3, 1) := by decide +kernel
theorem dX5_points_135 : decode cX5_points 135 = .ok (.aload_n 0, 1) := by decide +kernel
theorem dX5_points_136 : decode cX5_points 136 = .ok (.getfield 34, 3) := by decide +kernel
theorem dX5_points_139 : decode cX5_points 139 = .ok (.iload 4, 2) := by decide +kernel
theorem dX5_points_141 : decode cX5_points 141 = .ok (.iaload, 1) := by decide +kernel
theorem dX5_points_142 : decode cX5_points 142 = .ok (.iload_n 2, 1) := by decide +kernel
theorem dX5_points_143 : decode cX5_points 143 = .ok (.if_icmp .eq 7, 3) := by decide +kernel
theorem dX5_points_146 : decode cX5_points 146 = .ok (.iconst 0, 1) := by decide +kernel
theorem dX5_points_147 : decode cX5_points 147 = .ok (.goto 22, 3) := by decide +kernel
theorem dX5_points_150 : decode cX5_points 150 = .ok (.iload 5, 2) := by decide +kernel
theorem dX5_points_152 : decode cX5_points 152 = .ok (.ifCond .eq 7, 3) := by decide +kernel
theorem dX5_points_155 : decode cX5_points 155 = .ok (.iconst 3, 1) := by decide +kernel
theorem dX5_points_156 : decode cX5_points 156 = .ok (.goto 13, 3) := by decide +kernel
theorem dX5_points_159 : decode cX5_points 159 = .ok (.iload 6, 2) := by decide +kernel
theorem dX5_points_161 : decode cX5_points 161 = .ok (.ifCond .eq 7, 3) := by decide +kernel
theorem dX5_points_164 : decode cX5_points 164 = .ok (.iconst 1, 1) := by decide +kernel
theorem dX5_points_165 : decode cX5_points 165 = .ok (.goto 4, 3) := by decide +kernel
theorem dX5_points_168 : decode cX5_points 168 = .ok (.iconst 0, 1) := by decide +kernel
theorem dX5_points_169 : decode cX5_points 169 = .ok (.iadd, 1) := by decide +kernel
theorem dX5_points_170 : decode cX5_points 170 = .ok (.istore_n 3, 1) := by decide +kernel
theorem dX5_points_171 : decode cX5_points 171 = .ok (.iinc 4 1, 3) := by decide +kernel
theorem dX5_points_174 : decode cX5_points 174 = .ok (.goto (-140), 3) := by decide +kernel
theorem dX5_points_177 : decode cX5_points 177 = .ok (.aload_n 0, 1) := by decide +kernel
theorem dX5_points_178 : decode cX5_points 178 = .ok (.iload_n 2, 1) := by decide +kernel
theorem dX5_points_179 : decode cX5_points 179 = .ok (.invokevirtual 108, 3) := by decide +kernel
theorem dX5_points_182 : decode cX5_points 182 = .ok (.ifCond .eq 7, 3) := by decide +kernel
theorem dX5_points_185 : decode cX5_points 185 = .ok (.iconst 0, 1) := by decide +kernel
theorem dX5_points_186 : decode cX5_points 186 = .ok (.goto 4, 3) := by decide +kernel
theorem dX5_points_189 : decode cX5_points 189 = .ok (.iload_n 3, 1) := by decide +kernel
theorem dX5_points_190 : decode cX5_points 190 = .ok (.ireturn, 1) := by decide +kernel
theorem dJ6_bitCount_0f7a4_0 : decode cJ6_bitCount_0f7a4 0 = .ok (.iload_n 0, 1) := by decide +kernel
theorem dJ6_bitCount_0f7a4_1 : decode cJ6_bitCount_0f7a4 1 = .ok (.iload_n 0, 1) := by decide +kernel
theorem dJ6_bitCount_0f7a4_2 : decode cJ6_bitCount_0f7a4 2 = .ok (.iconst 1, 1) := by decide +kernel
theorem dJ6_bitCount_0f7a4_3 : decode cJ6_bitCount_0f7a4 3 = .ok (.iushr, 1) := by decide +kernel
theorem dJ6_bitCount_0f7a4_4 : decode cJ6_bitCount_0f7a4 4 = .ok (.ldc_w 265, 3) := by decide +kernel
theorem dJ6_bitCount_0f7a4_7 : decode cJ6_bitCount_0f7a4 7 = .ok (.iand, 1) := by decide +kernel
theorem dJ6_bitCount_0f7a4_8 : decode cJ6_bitCount_0f7a4 8 = .ok (.isub, 1) := by decide +kernel
theorem dJ6_bitCount_0f7a4_9 : decode cJ6_bitCount_0f7a4 9 = .ok (.istore_n 0, 1) := by decide +kernel
theorem dJ6_bitCount_0f7a4_10 : decode cJ6_bitCount_0f7a4 10 = .ok (.iload_n 0, 1) := by decide +kernel
theorem dJ6_bitCount_0f7a4_11 : decode cJ6_bitCount_0f7a4 11 = .ok (.ldc_w 266, 3) := by decide +kernel
theorem dJ6_bitCount_0f7a4_14 : decode cJ6_bitCount_0f7a4 14 = .ok (.iand, 1) := by decide +kernel
theorem dJ6_bitCount_0f7a4_15 : decode cJ6_bitCount_0f7a4 15 = .ok (.iload_n 0, 1) := by decide +kernel
theorem dJ6_bitCount_0f7a4_16 : decode cJ6_bitCount_0f7a4 16 = .ok (.iconst 2, 1) := by decide +kernel
theorem dJ6_bitCount_0f7a4_17 : decode cJ6_bitCount_0f7a4 17 = .ok (.iushr, 1) := by decide +kernel
theorem dJ6_bitCount_0f7a4_18 : decode cJ6_bitCount_0f7a4 18 = .ok (.ldc_w 266, 3) := by decide +kernel
theorem dJ6_bitCount_0f7a4_21 : decode cJ6_bitCount_0f7a4 21 = .ok (.iand, 1) := by decide +kernel
theorem dJ6_bitCount_0f7a4_22 : decode cJ6_bitCount_0f7a4 22 = .ok (.iadd, 1) := by decide +kernel
theorem dJ6_bitCount_0f7a4_23 : decode cJ6_bitCount_0f7a4 23 = .ok (.istore_n 0, 1) := by decide +kernel
theorem dJ6_bitCount_0f7a4_24 : decode cJ6_bitCount_0f7a4 24 = .ok (.iload_n 0, 1) := by decide +kernel
theorem dJ6_bitCount_0f7a4_25 : decode cJ6_bitCount_0f7a4 25 = .ok (.iload_n 0, 1) := by decide +kernel
theorem dJ6_bitCount_0f7a4_26 : decode cJ6_bitCount_0f7a4 26 = .ok (.iconst 4, 1) := by decide +kernel
theorem dJ6_bitCount_0f7a4_27 : decode cJ6_bitCount_0f7a4 27 = .ok (.iushr, 1) := by decide +kernel
theorem dJ6_bitCount_0f7a4_28 : decode cJ6_bitCount_0f7a4 28 = .ok (.iadd, 1) := by decide +kernel
theorem dJ6_bitCount_0f7a4_29 : decode cJ6_bitCount_0f7a4 29 = .ok (.ldc_w 267, 3) := by decide +kernel
theorem dJ6_bitCount_0f7a4_32 : decode cJ6_bitCount_0f7a4 32 = .ok (.iand, 1) := by decide +kernel
theorem dJ6_bitCount_0f7a4_33 : decode cJ6_bitCount_0f7a4 33 = .ok (.istore_n 0, 1) := by decide +kernel
theorem dJ6_bitCount_0f7a4_34 : decode cJ6_bitCount_0f7a4 34 = .ok (.iload_n 0, 1) := by decide +kernel
theorem dJ6_bitCount_0f7a4_35 : decode cJ6_bitCount_0f7a4 35 = .ok (.iload_n 0, 1) := by decide +kernel
theorem dJ6_bitCount_0f7a4_36 : decode cJ6_bitCount_0f7a4 36 = .ok (.bipush 8, 2) := by decide +kernel
theorem dJ6_bitCount_0f7a4_38 : decode cJ6_bitCount_0f7a4 38 = .ok (.iushr, 1) := by decide +kernel
theorem dJ6_bitCount_0f7a4_39 : decode cJ6_bitCount_0f7a4 39 = .ok (.iadd, 1) := by decide +kernel
theorem dJ6_bitCount_0f7a4_40 : decode cJ6_bitCount_0f7a4 40 = .ok (.istore_n 0, 1) := by decide +kernel
theorem dJ6_bitCount_0f7a4_41 : decode cJ6_bitCount_0f7a4 41 = .ok (.iload_n 0, 1) := by decide +kernel
theorem dJ6_bitCount_0f7a4_42 : decode cJ6_bitCount_0f7a4 42 = .ok (.iload_n 0, 1) := by decide +kernel
theorem dJ6_bitCount_0f7a4_43 : decode cJ6_bitCount_0f7a4 43 = .ok (.bipush 16, 2) := by decide +kernel
theorem dJ6_bitCount_0f7a4_45 : decode cJ6_bitCount_0f7a4 45 = .ok (.iushr, 1) := by decide +kernel
theorem dJ6_bitCount_0f7a4_46 : decode cJ6_bitCount_0f7a4 46 = .ok (.iadd, 1) := by decide +kernel
theorem dJ6_bitCount_0f7a4_47 : decode cJ6_bitCount_0f7a4 47 = .ok (.istore_n 0, 1) := by decide +kernel
theorem dJ6_bitCount_0f7a4_48 : decode cJ6_bitCount_0f7a4 48 = .ok (.iload_n 0, 1) := by decide +kernel
theorem dJ6_bitCount_0f7a4_49 : decode cJ6_bitCount_0f7a4 49 = .ok (.bipush 63, 2) := by decide +kernel
theorem dJ6_bitCount_0f7a4_51 : decode cJ6_bitCount_0f7a4 51 = .ok (.iand, 1) := by decide +kernel
theorem dJ6_bitCount_0f7a4_52 : decode cJ6_bitCount_0f7a4 52 = .ok (.ireturn, 1) := by decide +kernel
theorem dJ9_max_7cf53_0 : decode cJ9_max_7cf53 0 = .ok (.iload_n 0, 1) := by decide +kernel
theorem dJ9_max_7cf53_1 : decode cJ9_max_7cf53 1 = .ok (.iload_n 1, 1) := by decide +kernel
theorem dJ9_max_7cf53_2 : decode cJ9_max_7cf53 2 = .ok (.if_icmp .lt 7, 3) := by decide +kernel
theorem dJ9_max_7cf53_5 : decode cJ9_max_7cf53 5 = .ok (.iload_n 0, 1) := by decide +kernel
theorem dJ9_max_7cf53_6 : decode cJ9_max_7cf53 6 = .ok (.goto 4, 3) := by decide +kernel
theorem dJ9_max_7cf53_9 : decode cJ9_max_7cf53 9 = .ok (.iload_n 1, 1) := by decide +kernel
theorem dJ9_max_7cf53_10 : decode cJ9_max_7cf53 10 = .ok (.ireturn, 1) := by decide +kernel
set_option maxRecDepth 20000 in
theorem ggL_card_X4_card : GoodIn wsL_card wsX4_card := goodIn_ca (goodIn_ca (goodIn_r _ [7, 8, 9, 10, 11, 12, 13, 14, 15, 16, 17, 18, 6, 19, 20, 21, 22, 23, 24, 25, 26, 27, 28, 29, 30, 31, 32, 33, 34, 35, 36, 37, 38, 39] (by decide +kernel) (by decide +kernel)) (goodIn_sub (fun _ h => List.mem_cons_of_mem _ (List.mem_append_left _ (List.mem_append_right _ h))) (by decide +kernel))) (goodIn_sub (fun _ h => List.mem_cons_of_mem _ (List.mem_append_right _ h)) (by decide +kernel))
set_option maxRecDepth 20000 in
theorem gL_card_X4_card : GoodIn wsL_card (wsV RL 7 RX4 yX4_card wsX4_card) := goodIn_app (goodIn_of _ (by decide +kernel)) ggL_card_X4_card
