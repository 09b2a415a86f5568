theorem inJ6 : ∀ w ∈ wsJ60, w ∈ lw_tbl := by decide +kernel
theorem inJ9 : ∀ w ∈ wsJ90, w ∈ lw_tbl := by decide +kernel
theorem inJ0 : ∀ w ∈ wsJ00, w ∈ lw_tbl := by decide +kernel
theorem dX0_init_0 : decode cX0_init 0 = .ok (.aload_n 0, 1) := by decide +kernel
theorem dX0_init_1 : decode cX0_init 1 = .ok (.invokespecial 3, 3) := by decide +kernel
theorem dX0_init_4 : decode cX0_init 4 = .ok (.aload_n 0, 1) := by decide +kernel
theorem dX0_init_5 : decode cX0_init 5 = .ok (.iload_n 1, 1) := by decide +kernel
theorem dX0_init_6 : decode cX0_init 6 = .ok (.putfield 9, 3) := by decide +kernel
theorem dX0_init_9 : decode cX0_init 9 = .ok (.aload_n 0, 1) := by decide +kernel
theorem dX0_init_10 : decode cX0_init 10 = .ok (.iload_n 2, 1) := by decide +kernel
theorem dX0_init_11 : decode cX0_init 11 = .ok (.putfield 15, 3) := by decide +kernel
theorem dX0_init_14 : decode cX0_init 14 = .ok (.aload_n 0, 1) := by decide +kernel
theorem dX0_init_15 : decode cX0_init 15 = .ok (.iload_n 3, 1) := by decide +kernel
theorem dX0_init_16 : decode cX0_init 16 = .ok (.putfield 18, 3) := by decide +kernel
theorem dX0_init_19 : decode cX0_init 19 = .ok (.aload_n 0, 1) := by decide +kernel
theorem dX0_init_20 : decode cX0_init 20 = .ok (.iload_n 1, 1) := by decide +kernel
theorem dX0_init_21 : decode cX0_init 21 = .ok (.ifCond .ne 7, 3) := by decide +kernel
theorem dX0_init_24 : decode cX0_init 24 = .ok (.iconst 1, 1) := by decide +kernel
theorem dX0_init_25 : decode cX0_init 25 = .ok (.goto 5, 3) := by decide +kernel
theorem dX0_init_28 : decode cX0_init 28 = .ok (.iload 4, 2) := by decide +kernel
theorem dX0_init_30 : decode cX0_init 30 = .ok (.putfield 21, 3) := by decide +kernel
theorem dX0_init_33 : decode cX0_init 33 = .ok (.return_, 1) := by decide +kernel
theorem dX0_rows_0 : decode cX0_rows 0 = .ok (.iload_n 1, 1) := by decide +kernel
theorem dX0_rows_1 : decode cX0_rows 1 = .ok (.ifCond .eq 11, 3) := by decide +kernel
theorem dX0_rows_4 : decode cX0_rows 4 = .ok (.aload_n 0, 1) := by decide +kernel
theorem dX0_rows_5 : decode cX0_rows 5 = .ok (.getfield 18, 3) := by decide +kernel
theorem dX0_rows_8 : decode cX0_rows 8 = .ok (.ineg, 1) := by decide +kernel
theorem dX0_rows_9 : decode cX0_rows 9 = .ok (.goto 7, 3) := by decide +kernel
theorem dX0_rows_12 : decode cX0_rows 12 = .ok (.aload_n 0, 1) := by decide +kernel
theorem dX0_rows_13 : decode cX0_rows 13 = .ok (.getfield 18, 3) := by decide +kernel
theorem dX0_rows_16 : decode cX0_rows 16 = .ok (.ireturn, 1) := by decide +kernel
set_option maxRecDepth 20000 in
theorem ggX0_endsFrom_X0_rows : GoodIn wsX0_endsFrom wsX0_rows := goodIn_r _ [8, 9, 15, 16, 17, 18] (by decide +kernel) (by decide +kernel)
set_option maxRecDepth 20000 in
theorem gX0_endsFrom_X0_rows : GoodIn wsX0_endsFrom (wsV RX0 24 RX0 yX0_rows wsX0_rows) := goodIn_app (goodIn_of _ (by decide +kernel)) ggX0_endsFrom_X0_rows
set_option maxRecDepth 20000 in
theorem ggX0_endsFrom_X4_cellAhead : GoodIn wsX0_endsFrom wsX4_cellAhead := goodIn_r _ [12] (by decide +kernel) (by decide +kernel)
set_option maxRecDepth 20000 in
theorem gX0_endsFrom_X4_cellAhead_n28 : GoodIn wsX0_endsFrom (wsX4_cellAhead) := ggX0_endsFrom_X4_cellAhead
set_option maxRecDepth 20000 in
theorem ggX0_endsFrom_X4_isIn : GoodIn wsX0_endsFrom wsX4_isIn := goodIn_r _ [14] (by decide +kernel) (by decide +kernel)
set_option maxRecDepth 20000 in
theorem gX0_endsFrom_X4_isIn_n32 : GoodIn wsX0_endsFrom (wsX4_isIn) := ggX0_endsFrom_X4_isIn
theorem dX0_endsFrom_0 : decode cX0_endsFrom 0 = .ok (.iconst 0, 1) := by decide +kernel
theorem dX0_endsFrom_1 : decode cX0_endsFrom 1 = .ok (.istore 5, 2) := by decide +kernel
theorem dX0_endsFrom_3 : decode cX0_endsFrom 3 = .ok (.iload_n 1, 1) := by decide +kernel
theorem dX0_endsFrom_4 : decode cX0_endsFrom 4 = .ok (.istore 6, 2) := by decide +kernel
theorem dX0_endsFrom_6 : decode cX0_endsFrom 6 = .ok (.aload_n 0, 1) := by decide +kernel
theorem dX0_endsFrom_7 : decode cX0_endsFrom 7 = .ok (.getfield 9, 3) := by decide +kernel
theorem dX0_endsFrom_10 : decode cX0_endsFrom 10 = .ok (.iconst 2, 1) := by decide +kernel
theorem dX0_endsFrom_11 : decode cX0_endsFrom 11 = .ok (.if_icmp .eq 7, 3) := by decide +kernel
theorem dX0_endsFrom_14 : decode cX0_endsFrom 14 = .ok (.iconst 1, 1) := by decide +kernel
theorem dX0_endsFrom_15 : decode cX0_endsFrom 15 = .ok (.goto 4, 3) := by decide +kernel
theorem dX0_endsFrom_18 : decode cX0_endsFrom 18 = .ok (.iconst 0, 1) := by decide +kernel
theorem dX0_endsFrom_19 : decode cX0_endsFrom 19 = .ok (.istore 7, 2) := by decide +kernel
theorem dX0_endsFrom_21 : decode cX0_endsFrom 21 = .ok (.iconst 1, 1) := by decide +kernel
theorem dX0_endsFrom_22 : decode cX0_endsFrom 22 = .ok (.istore 8, 2) := by decide +kernel
theorem dX0_endsFrom_24 : decode cX0_endsFrom 24 = .ok (.iload 8, 2) := by decide +kernel
theorem dX0_endsFrom_26 : decode cX0_endsFrom 26 = .ok (.aload_n 0, 1) := by decide +kernel
theorem dX0_endsFrom_27 : decode cX0_endsFrom 27 = .ok (.getfield 21, 3) := by decide +kernel
theorem dX0_endsFrom_30 : decode cX0_endsFrom 30 = .ok (.if_icmp .gt 110, 3) := by decide +kernel
theorem dX0_endsFrom_33 : decode cX0_endsFrom 33 = .ok (.iload 6, 2) := by decide +kernel
theorem dX0_endsFrom_35 : decode cX0_endsFrom 35 = .ok (.aload_n 0, 1) := by decide +kernel
theorem dX0_endsFrom_36 : decode cX0_endsFrom 36 = .ok (.getfield 15, 3) := by decide +kernel
theorem dX0_endsFrom_39 : decode cX0_endsFrom 39 = .ok (.aload_n 0, 1) := by decide +kernel
theorem dX0_endsFrom_40 : decode cX0_endsFrom 40 = .ok (.iload 4, 2) := by decide +kernel
theorem dX0_endsFrom_42 : decode cX0_endsFrom 42 = .ok (.invokevirtual 24, 3) := by decide +kernel
theorem dX0_endsFrom_45 : decode cX0_endsFrom 45 = .ok (.invokestatic 28, 3) := by decide +kernel
theorem dX0_endsFrom_48 : decode cX0_endsFrom 48 = .ok (.istore 6, 2) := by decide +kernel
theorem dX0_endsFrom_50 : decode cX0_endsFrom 50 = .ok (.iload 6, 2) := by decide +kernel
theorem dX0_endsFrom_52 : decode cX0_endsFrom 52 = .ok (.iconst (-1), 1) := by decide +kernel
theorem dX0_endsFrom_53 : decode cX0_endsFrom 53 = .ok (.if_icmp .eq 12, 3) := by decide +kernel
theorem dX0_endsFrom_56 : decode cX0_endsFrom 56 = .ok (.iload_n 2, 1) := by decide +kernel
theorem dX0_endsFrom_57 : decode cX0_endsFrom 57 = .ok (.iload 6, 2) := by decide +kernel
theorem dX0_endsFrom_59 : decode cX0_endsFrom 59 = .ok (.invokestatic 32, 3) := by decide +kernel
theorem dX0_endsFrom_62 : decode cX0_endsFrom 62 = .ok (.ifCond .eq 6, 3) := by decide +kernel
theorem dX0_endsFrom_65 : decode cX0_endsFrom 65 = .ok (.iload 5, 2) := by decide +kernel
theorem dX0_endsFrom_67 : decode cX0_endsFrom 67 = .ok (.ireturn, 1) := by decide +kernel
theorem dX0_endsFrom_68 : decode cX0_endsFrom 68 = .ok (.iload 7, 2) := by decide +kernel
theorem dX0_endsFrom_70 : decode cX0_endsFrom 70 = .ok (.ifCond .eq 12, 3) := by decide +kernel
theorem dX0_endsFrom_73 : decode cX0_endsFrom 73 = .ok (.iload 5, 2) := by decide +kernel
theorem dX0_endsFrom_75 : decode cX0_endsFrom 75 = .ok (.iconst 1, 1) := by decide +kernel
theorem dX0_endsFrom_76 : decode cX0_endsFrom 76 = .ok (.iload 6, 2) := by decide +kernel
theorem dX0_endsFrom_78 : decode cX0_endsFrom 78 = .ok (.ishl, 1) := by decide +kernel
theorem dX0_endsFrom_79 : decode cX0_endsFrom 79 = .ok (.ior, 1) := by decide +kernel
theorem dX0_endsFrom_80 : decode cX0_endsFrom 80 = .ok (.istore 5, 2) := by decide +kernel
theorem dX0_endsFrom_82 : decode cX0_endsFrom 82 = .ok (.iload_n 3, 1) := by decide +kernel
theorem dX0_endsFrom_83 : decode cX0_endsFrom 83 = .ok (.iload 6, 2) := by decide +kernel
theorem dX0_endsFrom_85 : decode cX0_endsFrom 85 = .ok (.invokestatic 32, 3) := by decide +kernel
theorem dX0_endsFrom_88 : decode cX0_endsFrom 88 = .ok (.istore 9, 2) := by decide +kernel
theorem dX0_endsFrom_90 : decode cX0_endsFrom 90 = .ok (.aload_n 0, 1) := by decide +kernel
theorem dX0_endsFrom_91 : decode cX0_endsFrom 91 = .ok (.getfield 9, 3) := by decide +kernel
theorem dX0_endsFrom_94 : decode cX0_endsFrom 94 = .ok (.iconst 2, 1) := by decide +kernel
theorem dX0_endsFrom_95 : decode cX0_endsFrom 95 = .ok (.if_icmp .ne 11, 3) := by decide +kernel
theorem dX0_endsFrom_98 : decode cX0_endsFrom 98 = .ok (.iload 7, 2) := by decide +kernel
theorem dX0_endsFrom_100 : decode cX0_endsFrom 100 = .ok (.ifCond .eq 14, 3) := by decide +kernel
theorem dX0_endsFrom_103 : decode cX0_endsFrom 103 = .ok (.goto 8, 3) := by decide +kernel
theorem dX0_endsFrom_106 : decode cX0_endsFrom 106 = .ok (.iload 9, 2) := by decide +kernel
theorem dX0_endsFrom_108 : decode cX0_endsFrom 108 = .ok (.ifCond .eq 6, 3) := by decide +kernel
theorem dX0_endsFrom_111 : decode cX0_endsFrom 111 = .ok (.iload 5, 2) := by decide +kernel
theorem dX0_endsFrom_113 : decode cX0_endsFrom 113 = .ok (.ireturn, 1) := by decide +kernel
theorem dX0_endsFrom_114 : decode cX0_endsFrom 114 = .ok (.aload_n 0, 1) := by decide +kernel
theorem dX0_endsFrom_115 : decode cX0_endsFrom 115 = .ok (.getfield 9, 3) := by decide +kernel
theorem dX0_endsFrom_118 : decode cX0_endsFrom 118 = .ok (.iconst 2, 1) := by decide +kernel
theorem dX0_endsFrom_119 : decode cX0_endsFrom 119 = .ok (.if_icmp .ne 8, 3) := by decide +kernel
theorem dX0_endsFrom_122 : decode cX0_endsFrom 122 = .ok (.iload 9, 2) := by decide +kernel
theorem dX0_endsFrom_124 : decode cX0_endsFrom 124 = .ok (.ifCond .eq 7, 3) := by decide +kernel
theorem dX0_endsFrom_127 : decode cX0_endsFrom 127 = .ok (.iconst 1, 1) := by decide +kernel
theorem dX0_endsFrom_128 : decode cX0_endsFrom 128 = .ok (.goto 4, 3) := by decide +kernel
theorem dX0_endsFrom_131 : decode cX0_endsFrom 131 = .ok (.iconst 0, 1) := by decide +kernel
theorem dX0_endsFrom_132 : decode cX0_endsFrom 132 = .ok (.istore 7, 2) := by decide +kernel
theorem dX0_endsFrom_134 : decode cX0_endsFrom 134 = .ok (.iinc 8 1, 3) := by decide +kernel
theorem dX0_endsFrom_137 : decode cX0_endsFrom 137 = .ok (.goto (-113), 3) := by decide +kernel
theorem dX0_endsFrom_140 : decode cX0_endsFrom 140 = .ok (.iload 5, 2) := by decide +kernel
theorem dX0_endsFrom_142 : decode cX0_endsFrom 142 = .ok (.ireturn, 1) := by decide +kernel
set_option maxRecDepth 20000 in
theorem ggX0_leads_X0_rows : GoodIn wsX0_leads wsX0_rows := goodIn_r _ [7, 8, 19, 20, 21, 22] (by decide +kernel) (by decide +kernel)
set_option maxRecDepth 20000 in
theorem gX0_leads_X0_rows : GoodIn wsX0_leads (wsV RX0 24 RX0 yX0_rows wsX0_rows) := goodIn_app (goodIn_of _ (by decide +kernel)) ggX0_leads_X0_rows
set_option maxRecDepth 20000 in
theorem ggX0_leads_X4_cellAhead : GoodIn wsX0_leads wsX4_cellAhead := goodIn_r _ [11] (by decide +kernel) (by decide +kernel)
set_option maxRecDepth 20000 in
theorem gX0_leads_X4_cellAhead_n28 : GoodIn wsX0_leads (wsX4_cellAhead) := ggX0_leads_X4_cellAhead
set_option maxRecDepth 20000 in
theorem ggX0_leads_X4_isIn : GoodIn wsX0_leads wsX4_isIn := goodIn_r _ [13] (by decide +kernel) (by decide +kernel)
set_option maxRecDepth 20000 in
theorem gX0_leads_X4_isIn_n32 : GoodIn wsX0_leads (wsX4_isIn) := ggX0_leads_X4_isIn
set_option maxRecDepth 20000 in
theorem ggX0_leads_X0_isRightPath : GoodIn wsX0_leads wsX0_isRightPath := goodIn_r _ [17, 18, 19, 20, 21, 22] (by decide +kernel) (by decide +kernel)
set_option maxRecDepth 20000 in
theorem gX0_leads_X0_isRightPath : GoodIn wsX0_leads (wsV RX0 36 RX0 yX0_isRightPath wsX0_isRightPath) := goodIn_app (goodIn_of _ (by decide +kernel)) ggX0_leads_X0_isRightPath
theorem dX0_leads_0 : decode cX0_leads 0 = .ok (.iconst 0, 1) := by decide +kernel
theorem dX0_leads_1 : decode cX0_leads 1 = .ok (.istore 6, 2) := by decide +kernel
theorem dX0_leads_3 : decode cX0_leads 3 = .ok (.iconst (-1), 1) := by decide +kernel
theorem dX0_leads_4 : decode cX0_leads 4 = .ok (.istore 7, 2) := by decide +kernel
theorem dX0_leads_6 : decode cX0_leads 6 = .ok (.iload_n 1, 1) := by decide +kernel
theorem dX0_leads_7 : decode cX0_leads 7 = .ok (.istore 8, 2) := by decide +kernel
theorem dX0_leads_9 : decode cX0_leads 9 = .ok (.iconst 1, 1) := by decide +kernel
theorem dX0_leads_10 : decode cX0_leads 10 = .ok (.istore 9, 2) := by decide +kernel
theorem dX0_leads_12 : decode cX0_leads 12 = .ok (.iload 9, 2) := by decide +kernel
theorem dX0_leads_14 : decode cX0_leads 14 = .ok (.aload_n 0, 1) := by decide +kernel
theorem dX0_leads_15 : decode cX0_leads 15 = .ok (.getfield 21, 3) := by decide +kernel
theorem dX0_leads_18 : decode cX0_leads 18 = .ok (.if_icmp .gt 73, 3) := by decide +kernel
theorem dX0_leads_21 : decode cX0_leads 21 = .ok (.iload 8, 2) := by decide +kernel
theorem dX0_leads_23 : decode cX0_leads 23 = .ok (.aload_n 0, 1) := by decide +kernel
theorem dX0_leads_24 : decode cX0_leads 24 = .ok (.getfield 15, 3) := by decide +kernel
theorem dX0_leads_27 : decode cX0_leads 27 = .ok (.aload_n 0, 1) := by decide +kernel
theorem dX0_leads_28 : decode cX0_leads 28 = .ok (.iload 5, 2) := by decide +kernel
theorem dX0_leads_30 : decode cX0_leads 30 = .ok (.invokevirtual 24, 3) := by decide +kernel
theorem dX0_leads_33 : decode cX0_leads 33 = .ok (.invokestatic 28, 3) := by decide +kernel
theorem dX0_leads_36 : decode cX0_leads 36 = .ok (.istore 8, 2) := by decide +kernel
theorem dX0_leads_38 : decode cX0_leads 38 = .ok (.iload 8, 2) := by decide +kernel
theorem dX0_leads_40 : decode cX0_leads 40 = .ok (.iconst (-1), 1) := by decide +kernel
theorem dX0_leads_41 : decode cX0_leads 41 = .ok (.if_icmp .eq 12, 3) := by decide +kernel
theorem dX0_leads_44 : decode cX0_leads 44 = .ok (.iload_n 3, 1) := by decide +kernel
theorem dX0_leads_45 : decode cX0_leads 45 = .ok (.iload 8, 2) := by decide +kernel
theorem dX0_leads_47 : decode cX0_leads 47 = .ok (.invokestatic 32, 3) := by decide +kernel
theorem dX0_leads_50 : decode cX0_leads 50 = .ok (.ifCond .eq 5, 3) := by decide +kernel
theorem dX0_leads_53 : decode cX0_leads 53 = .ok (.iconst 0, 1) := by decide +kernel
theorem dX0_leads_54 : decode cX0_leads 54 = .ok (.ireturn, 1) := by decide +kernel
theorem dX0_leads_55 : decode cX0_leads 55 = .ok (.iload 8, 2) := by decide +kernel
theorem dX0_leads_57 : decode cX0_leads 57 = .ok (.iload_n 2, 1) := by decide +kernel
theorem dX0_leads_58 : decode cX0_leads 58 = .ok (.if_icmp .ne 14, 3) := by decide +kernel
theorem dX0_leads_61 : decode cX0_leads 61 = .ok (.aload_n 0, 1) := by decide +kernel
theorem dX0_leads_62 : decode cX0_leads 62 = .ok (.iload 6, 2) := by decide +kernel
theorem dX0_leads_64 : decode cX0_leads 64 = .ok (.iload 7, 2) := by decide +kernel
theorem dX0_leads_66 : decode cX0_leads 66 = .ok (.iload 4, 2) := by decide +kernel
theorem dX0_leads_68 : decode cX0_leads 68 = .ok (.invokevirtual 36, 3) := by decide +kernel
theorem dX0_leads_71 : decode cX0_leads 71 = .ok (.ireturn, 1) := by decide +kernel
theorem dX0_leads_72 : decode cX0_leads 72 = .ok (.iload 6, 2) := by decide +kernel
theorem dX0_leads_74 : decode cX0_leads 74 = .ok (.iconst 1, 1) := by decide +kernel
theorem dX0_leads_75 : decode cX0_leads 75 = .ok (.iload 8, 2) := by decide +kernel
theorem dX0_leads_77 : decode cX0_leads 77 = .ok (.ishl, 1) := by decide +kernel
theorem dX0_leads_78 : decode cX0_leads 78 = .ok (.ior, 1) := by decide +kernel
theorem dX0_leads_79 : decode cX0_leads 79 = .ok (.istore 6, 2) := by decide +kernel
theorem dX0_leads_81 : decode cX0_leads 81 = .ok (.iload 8, 2) := by decide +kernel
theorem dX0_leads_83 : decode cX0_leads 83 = .ok (.istore 7, 2) := by decide +kernel
theorem dX0_leads_85 : decode cX0_leads 85 = .ok (.iinc 9 1, 3) := by decide +kernel
theorem dX0_leads_88 : decode cX0_leads 88 = .ok (.goto (-76), 3) := by decide +kernel
theorem dX0_leads_91 : decode cX0_leads 91 = .ok (.iconst 0, 1) := by decide +kernel
theorem dX0_leads_92 : decode cX0_leads 92 = .ok (.ireturn, 1) := by decide +kernel
theorem dX0_isRightPath_0 : decode cX0_isRightPath 0 = .ok (.iload_n 1, 1) := by decide +kernel
theorem dX0_isRightPath_1 : decode cX0_isRightPath 1 = .ok (.iload_n 3, 1) := by decide +kernel
theorem dX0_isRightPath_2 : decode cX0_isRightPath 2 = .ok (.iand, 1) := by decide +kernel
theorem dX0_isRightPath_3 : decode cX0_isRightPath 3 = .ok (.istore 4, 2) := by decide +kernel
theorem dX0_isRightPath_5 : decode cX0_isRightPath 5 = .ok (.aload_n 0, 1) := by decide +kernel
theorem dX0_isRightPath_6 : decode cX0_isRightPath 6 = .ok (.getfield 9, 3) := by decide +kernel
theorem dX0_isRightPath_9 : decode cX0_isRightPath 9 = .ok (.iconst 2, 1) := by decide +kernel
theorem dX0_isRightPath_10 : decode cX0_isRightPath 10 = .ok (.if_icmp .eq 14, 3) := by decide +kernel
theorem dX0_isRightPath_13 : decode cX0_isRightPath 13 = .ok (.iload 4, 2) := by decide +kernel
theorem dX0_isRightPath_15 : decode cX0_isRightPath 15 = .ok (.ifCond .ne 7, 3) := by decide +kernel
theorem dX0_isRightPath_18 : decode cX0_isRightPath 18 = .ok (.iconst 1, 1) := by decide +kernel
theorem dX0_isRightPath_19 : decode cX0_isRightPath 19 = .ok (.goto 4, 3) := by decide +kernel
theorem dX0_isRightPath_22 : decode cX0_isRightPath 22 = .ok (.iconst 0, 1) := by decide +kernel
theorem dX0_isRightPath_23 : decode cX0_isRightPath 23 = .ok (.ireturn, 1) := by decide +kernel
theorem dX0_isRightPath_24 : decode cX0_isRightPath 24 = .ok (.iload_n 2, 1) := by decide +kernel
theorem dX0_isRightPath_25 : decode cX0_isRightPath 25 = .ok (.iconst (-1), 1) := by decide +kernel
theorem dX0_isRightPath_26 : decode cX0_isRightPath 26 = .ok (.if_icmp .eq 15, 3) := by decide +kernel
theorem dX0_isRightPath_29 : decode cX0_isRightPath 29 = .ok (.iload 4, 2) := by decide +kernel
theorem dX0_isRightPath_31 : decode cX0_isRightPath 31 = .ok (.iconst 1, 1) := by decide +kernel
theorem dX0_isRightPath_32 : decode cX0_isRightPath 32 = .ok (.iload_n 2, 1) := by decide +kernel
theorem dX0_isRightPath_33 : decode cX0_isRightPath 33 = .ok (.ishl, 1) := by decide +kernel
theorem dX0_isRightPath_34 : decode cX0_isRightPath 34 = .ok (.if_icmp .ne 7, 3) := by decide +kernel
theorem dX0_isRightPath_37 : decode cX0_isRightPath 37 = .ok (.iconst 1, 1) := by decide +kernel
theorem dX0_isRightPath_38 : decode cX0_isRightPath 38 = .ok (.goto 4, 3) := by decide +kernel
theorem dX0_isRightPath_41 : decode cX0_isRightPath 41 = .ok (.iconst 0, 1) := by decide +kernel
theorem dX0_isRightPath_42 : decode cX0_isRightPath 42 = .ok (.ireturn, 1) := by decide +kernel
set_option maxRecDepth 20000 in
theorem ggX1_init_X1_placing : GoodIn wsX1_init wsX1_placing := goodIn_r _ [17] (by decide +kernel) (by decide +kernel)
set_option maxRecDepth 20000 in
theorem gX1_init_X1_placing : GoodIn wsX1_init (va_wsS RX1 42 yX1_placing wsX1_placing) := goodIn_app (goodIn_of _ (by decide +kernel)) ggX1_init_X1_placing
theorem dX1_init_0 : decode cX1_init 0 = .ok (.aload_n 0, 1) := by decide +kernel
theorem dX1_init_1 : decode cX1_init 1 = .ok (.invokespecial 3, 3) := by decide +kernel
theorem dX1_init_4 : decode cX1_init 4 = .ok (.aload_n 0, 1) := by decide +kernel
theorem dX1_init_5 : decode cX1_init 5 = .ok (.aload_n 1, 1) := by decide +kernel
theorem dX1_init_6 : decode cX1_init 6 = .ok (.putfield 9, 3) := by decide +kernel
theorem dX1_init_9 : decode cX1_init 9 = .ok (.aload_n 0, 1) := by decide +kernel
theorem dX1_init_10 : decode cX1_init 10 = .ok (.aload_n 1, 1) := by decide +kernel
theorem dX1_init_11 : decode cX1_init 11 = .ok (.getfield 15, 3) := by decide +kernel
theorem dX1_init_14 : decode cX1_init 14 = .ok (.putfield 21, 3) := by decide +kernel
theorem dX1_init_17 : decode cX1_init 17 = .ok (.aload_n 0, 1) := by decide +kernel
theorem dX1_init_18 : decode cX1_init 18 = .ok (.iload_n 2, 1) := by decide +kernel
theorem dX1_init_19 : decode cX1_init 19 = .ok (.putfield 22, 3) := by decide +kernel
theorem dX1_init_22 : decode cX1_init 22 = .ok (.aload_n 0, 1) := by decide +kernel
theorem dX1_init_23 : decode cX1_init 23 = .ok (.iload_n 3, 1) := by decide +kernel
theorem dX1_init_24 : decode cX1_init 24 = .ok (.putfield 26, 3) := by decide +kernel
theorem dX1_init_27 : decode cX1_init 27 = .ok (.aload_n 0, 1) := by decide +kernel
theorem dX1_init_28 : decode cX1_init 28 = .ok (.iload 4, 2) := by decide +kernel
theorem dX1_init_30 : decode cX1_init 30 = .ok (.putfield 29, 3) := by decide +kernel
theorem dX1_init_33 : decode cX1_init 33 = .ok (.aload_n 0, 1) := by decide +kernel
theorem dX1_init_34 : decode cX1_init 34 = .ok (.iload 5, 2) := by decide +kernel
theorem dX1_init_36 : decode cX1_init 36 = .ok (.putfield 32, 3) := by decide +kernel
theorem dX1_init_39 : decode cX1_init 39 = .ok (.aload_n 0, 1) := by decide +kernel
theorem dX1_init_40 : decode cX1_init 40 = .ok (.iconst 0, 1) := by decide +kernel
theorem dX1_init_41 : decode cX1_init 41 = .ok (.putfield 35, 3) := by decide +kernel
theorem dX1_init_44 : decode cX1_init 44 = .ok (.aload_n 0, 1) := by decide +kernel
theorem dX1_init_45 : decode cX1_init 45 = .ok (.bipush 61, 2) := by decide +kernel
theorem dX1_init_47 : decode cX1_init 47 = .ok (.newarray .long, 2) := by decide +kernel
theorem dX1_init_49 : decode cX1_init 49 = .ok (.putfield 38, 3) := by decide +kernel
theorem dX1_init_52 : decode cX1_init 52 = .ok (.aload_n 0, 1) := by decide +kernel
theorem dX1_init_53 : decode cX1_init 53 = .ok (.getfield 38, 3) := by decide +kernel
theorem dX1_init_56 : decode cX1_init 56 = .ok (.iconst 0, 1) := by decide +kernel
theorem dX1_init_57 : decode cX1_init 57 = .ok (.iload 4, 2) := by decide +kernel
theorem dX1_init_59 : decode cX1_init 59 = .ok (.iload 5, 2) := by decide +kernel
theorem dX1_init_61 : decode cX1_init 61 = .ok (.iconst 0, 1) := by decide +kernel
theorem dX1_init_62 : decode cX1_init 62 = .ok (.invokestatic 42, 3) := by decide +kernel
theorem dX1_init_65 : decode cX1_init 65 = .ok (.lastore, 1) := by decide +kernel
theorem dX1_init_66 : decode cX1_init 66 = .ok (.return_, 1) := by decide +kernel
theorem dX1_placing_0 : decode cX1_placing 0 = .ok (.iload_n 1, 1) := by decide +kernel
theorem dX1_placing_1 : decode cX1_placing 1 = .ok (.i2l, 1) := by decide +kernel
theorem dX1_placing_2 : decode cX1_placing 2 = .ok (.bipush 25, 2) := by decide +kernel
theorem dX1_placing_4 : decode cX1_placing 4 = .ok (.lshl, 1) := by decide +kernel
theorem dX1_placing_5 : decode cX1_placing 5 = .ok (.iload_n 0, 1) := by decide +kernel
theorem dX1_placing_6 : decode cX1_placing 6 = .ok (.i2l, 1) := by decide +kernel
theorem dX1_placing_7 : decode cX1_placing 7 = .ok (.lor, 1) := by decide +kernel
theorem dX1_placing_8 : decode cX1_placing 8 = .ok (.lstore_n 3, 1) := by decide +kernel
theorem dX1_placing_9 : decode cX1_placing 9 = .ok (.lload_n 3, 1) := by decide +kernel
theorem dX1_placing_10 : decode cX1_placing 10 = .ok (.iconst 1, 1) := by decide +kernel
theorem dX1_placing_11 : decode cX1_placing 11 = .ok (.lshl, 1) := by decide +kernel
theorem dX1_placing_12 : decode cX1_placing 12 = .ok (.iload_n 2, 1) := by decide +kernel
theorem dX1_placing_13 : decode cX1_placing 13 = .ok (.ifCond .eq 7, 3) := by decide +kernel
theorem dX1_placing_16 : decode cX1_placing 16 = .ok (.iconst 1, 1) := by decide +kernel
theorem dX1_placing_17 : decode cX1_placing 17 = .ok (.goto 4, 3) := by decide +kernel
theorem dX1_placing_20 : decode cX1_placing 20 = .ok (.iconst 0, 1) := by decide +kernel
theorem dX1_placing_21 : decode cX1_placing 21 = .ok (.i2l, 1) := by decide +kernel
theorem dX1_placing_22 : decode cX1_placing 22 = .ok (.lor, 1) := by decide +kernel
theorem dX1_placing_23 : decode cX1_placing 23 = .ok (.lreturn, 1) := by decide +kernel
theorem dX1_isSecondToMove_0 : decode cX1_isSecondToMove 0 = .ok (.aload_n 0, 1) := by decide +kernel
theorem dX1_isSecondToMove_1 : decode cX1_isSecondToMove 1 = .ok (.getfield 46, 3) := by decide +kernel
theorem dX1_isSecondToMove_4 : decode cX1_isSecondToMove 4 = .ok (.iconst 2, 1) := by decide +kernel
theorem dX1_isSecondToMove_5 : decode cX1_isSecondToMove 5 = .ok (.irem, 1) := by decide +kernel
theorem dX1_isSecondToMove_6 : decode cX1_isSecondToMove 6 = .ok (.iconst 1, 1) := by decide +kernel
theorem dX1_isSecondToMove_7 : decode cX1_isSecondToMove 7 = .ok (.if_icmp .ne 7, 3) := by decide +kernel
theorem dX1_isSecondToMove_10 : decode cX1_isSecondToMove 10 = .ok (.iconst 1, 1) := by decide +kernel
theorem dX1_isSecondToMove_11 : decode cX1_isSecondToMove 11 = .ok (.goto 4, 3) := by decide +kernel
theorem dX1_isSecondToMove_14 : decode cX1_isSecondToMove 14 = .ok (.iconst 0, 1) := by decide +kernel
theorem dX1_isSecondToMove_15 : decode cX1_isSecondToMove 15 = .ok (.ireturn, 1) := by decide +kernel
set_option maxRecDepth 20000 in
theorem ggX1_ofMover_X1_isSecondToMove : GoodIn wsX1_ofMover wsX1_isSecondToMove := goodIn_r _ [7, 8, 9, 10, 11, 12, 13, 14, 15, 16, 17] (by decide +kernel) (by decide +kernel)
set_option maxRecDepth 20000 in
theorem gX1_ofMover_X1_isSecondToMove : GoodIn wsX1_ofMover (wsV RX1 49 RX1 yX1_isSecondToMove wsX1_isSecondToMove) := goodIn_app (goodIn_of _ (by decide +kernel)) ggX1_ofMover_X1_isSecondToMove
theorem dX1_ofMover_0 : decode cX1_ofMover 0 = .ok (.aload_n 0, 1) := by decide +kernel
theorem dX1_ofMover_1 : decode cX1_ofMover 1 = .ok (.invokevirtual 49, 3) := by decide +kernel
theorem dX1_ofMover_4 : decode cX1_ofMover 4 = .ok (.ifCond .eq 10, 3) := by decide +kernel
theorem dX1_ofMover_7 : decode cX1_ofMover 7 = .ok (.aload_n 0, 1) := by decide +kernel
theorem dX1_ofMover_8 : decode cX1_ofMover 8 = .ok (.getfield 32, 3) := by decide +kernel
theorem dX1_ofMover_11 : decode cX1_ofMover 11 = .ok (.goto 7, 3) := by decide +kernel
theorem dX1_ofMover_14 : decode cX1_ofMover 14 = .ok (.aload_n 0, 1) := by decide +kernel
theorem dX1_ofMover_15 : decode cX1_ofMover 15 = .ok (.getfield 29, 3) := by decide +kernel
theorem dX1_ofMover_18 : decode cX1_ofMover 18 = .ok (.ireturn, 1) := by decide +kernel
set_option maxRecDepth 20000 in
theorem ggX1_ofWaiting_X1_isSecondToMove : GoodIn wsX1_ofWaiting wsX1_isSecondToMove := goodIn_r _ [7, 8, 9, 10, 11, 12, 13, 14, 15, 16, 17] (by decide +kernel) (by decide +kernel)
set_option maxRecDepth 20000 in
theorem gX1_ofWaiting_X1_isSecondToMove : GoodIn wsX1_ofWaiting (wsV RX1 49 RX1 yX1_isSecondToMove wsX1_isSecondToMove) := goodIn_app (goodIn_of _ (by decide +kernel)) ggX1_ofWaiting_X1_isSecondToMove
theorem dX1_ofWaiting_0 : decode cX1_ofWaiting 0 = .ok (.aload_n 0, 1) := by decide +kernel
theorem dX1_ofWaiting_1 : decode cX1_ofWaiting 1 = .ok (.invokevirtual 49, 3) := by decide +kernel
theorem dX1_ofWaiting_4 : decode cX1_ofWaiting 4 = .ok (.ifCond .eq 10, 3) := by decide +kernel
theorem dX1_ofWaiting_7 : decode cX1_ofWaiting 7 = .ok (.aload_n 0, 1) := by decide +kernel
theorem dX1_ofWaiting_8 : decode cX1_ofWaiting 8 = .ok (.getfield 29, 3) := by decide +kernel
theorem dX1_ofWaiting_11 : decode cX1_ofWaiting 11 = .ok (.goto 7, 3) := by decide +kernel
theorem dX1_ofWaiting_14 : decode cX1_ofWaiting 14 = .ok (.aload_n 0, 1) := by decide +kernel
theorem dX1_ofWaiting_15 : decode cX1_ofWaiting 15 = .ok (.getfield 32, 3) := by decide +kernel
theorem dX1_ofWaiting_18 : decode cX1_ofWaiting 18 = .ok (.ireturn, 1) := by decide +kernel
set_option maxRecDepth 20000 in
theorem ggX1_allows_X1_ofMover : GoodIn wsX1_allows wsX1_ofMover := goodIn_r _ [9, 4, 3, 10, 11, 12, 8, 13, 14, 45, 46, 47, 48, 49, 50, 51, 52, 53] (by decide +kernel) (by decide +kernel)
set_option maxRecDepth 20000 in
theorem gX1_allows_X1_ofMover : GoodIn wsX1_allows (wsV RX1 53 RX1 yX1_ofMover wsX1_ofMover) := goodIn_app (goodIn_of _ (by decide +kernel)) ggX1_allows_X1_ofMover
set_option maxRecDepth 20000 in
theorem ggX1_allows_X4_isIn : GoodIn wsX1_allows wsX4_isIn := goodIn_r _ [17] (by decide +kernel) (by decide +kernel)
set_option maxRecDepth 20000 in
theorem gX1_allows_X4_isIn_n57 : GoodIn wsX1_allows (wsX4_isIn) := ggX1_allows_X4_isIn
set_option maxRecDepth 20000 in
theorem ggX1_allows_X1_isSecondToMove : GoodIn wsX1_allows wsX1_isSecondToMove := goodIn_r _ [13, 14, 45, 46, 47, 48, 49, 50, 51, 52, 53] (by decide +kernel) (by decide +kernel)
set_option maxRecDepth 20000 in
theorem gX1_allows_X1_isSecondToMove : GoodIn wsX1_allows (wsV RX1 49 RX1 yX1_isSecondToMove wsX1_isSecondToMove) := goodIn_app (goodIn_of _ (by decide +kernel)) ggX1_allows_X1_isSecondToMove
set_option maxRecDepth 20000 in
theorem ggX1_allows_X2_someCardLeads : GoodIn wsX1_allows wsX2_someCardLeads := goodIn_r _ [22, 23, 24, 25, 15, 16, 17, 26, 27, 28, 29, 30, 31, 32, 33, 34, 35, 36, 37, 38, 39, 40, 41, 42, 43, 44, 54, 55, 56, 57, 58, 59, 60] (by decide +kernel) (by decide +kernel)
set_option maxRecDepth 20000 in
theorem gX1_allows_X2_someCardLeads : GoodIn wsX1_allows (wsV RX1 61 RX2 yX2_someCardLeads wsX2_someCardLeads) := goodIn_app (goodIn_of _ (by decide +kernel)) ggX1_allows_X2_someCardLeads
theorem dX1_allows_0 : decode cX1_allows 0 = .ok (.aload_n 0, 1) := by decide +kernel
theorem dX1_allows_1 : decode cX1_allows 1 = .ok (.getfield 35, 3) := by decide +kernel
theorem dX1_allows_4 : decode cX1_allows 4 = .ok (.ifCond .ne 54, 3) := by decide +kernel
theorem dX1_allows_7 : decode cX1_allows 7 = .ok (.aload_n 0, 1) := by decide +kernel
theorem dX1_allows_8 : decode cX1_allows 8 = .ok (.invokevirtual 53, 3) := by decide +kernel
theorem dX1_allows_11 : decode cX1_allows 11 = .ok (.iload_n 1, 1) := by decide +kernel
theorem dX1_allows_12 : decode cX1_allows 12 = .ok (.invokestatic 57, 3) := by decide +kernel
theorem dX1_allows_15 : decode cX1_allows 15 = .ok (.ifCond .eq 43, 3) := by decide +kernel
theorem dX1_allows_18 : decode cX1_allows 18 = .ok (.aload_n 0, 1) := by decide +kernel
theorem dX1_allows_19 : decode cX1_allows 19 = .ok (.invokevirtual 53, 3) := by decide +kernel
theorem dX1_allows_22 : decode cX1_allows 22 = .ok (.iload_n 2, 1) := by decide +kernel
theorem dX1_allows_23 : decode cX1_allows 23 = .ok (.invokestatic 57, 3) := by decide +kernel
theorem dX1_allows_26 : decode cX1_allows 26 = .ok (.ifCond .ne 32, 3) := by decide +kernel
theorem dX1_allows_29 : decode cX1_allows 29 = .ok (.aload_n 0, 1) := by decide +kernel
theorem dX1_allows_30 : decode cX1_allows 30 = .ok (.getfield 21, 3) := by decide +kernel
theorem dX1_allows_33 : decode cX1_allows 33 = .ok (.iload_n 1, 1) := by decide +kernel
theorem dX1_allows_34 : decode cX1_allows 34 = .ok (.iload_n 2, 1) := by decide +kernel
theorem dX1_allows_35 : decode cX1_allows 35 = .ok (.aload_n 0, 1) := by decide +kernel
theorem dX1_allows_36 : decode cX1_allows 36 = .ok (.getfield 29, 3) := by decide +kernel
theorem dX1_allows_39 : decode cX1_allows 39 = .ok (.aload_n 0, 1) := by decide +kernel
theorem dX1_allows_40 : decode cX1_allows 40 = .ok (.getfield 32, 3) := by decide +kernel
theorem dX1_allows_43 : decode cX1_allows 43 = .ok (.ior, 1) := by decide +kernel
theorem dX1_allows_44 : decode cX1_allows 44 = .ok (.aload_n 0, 1) := by decide +kernel
theorem dX1_allows_45 : decode cX1_allows 45 = .ok (.invokevirtual 49, 3) := by decide +kernel
theorem dX1_allows_48 : decode cX1_allows 48 = .ok (.invokevirtual 61, 3) := by decide +kernel
theorem dX1_allows_51 : decode cX1_allows 51 = .ok (.ifCond .eq 7, 3) := by decide +kernel
theorem dX1_allows_54 : decode cX1_allows 54 = .ok (.iconst 1, 1) := by decide +kernel
theorem dX1_allows_55 : decode cX1_allows 55 = .ok (.goto 4, 3) := by decide +kernel
theorem dX1_allows_58 : decode cX1_allows 58 = .ok (.iconst 0, 1) := by decide +kernel
theorem dX1_allows_59 : decode cX1_allows 59 = .ok (.ireturn, 1) := by decide +kernel
set_option maxRecDepth 20000 in
theorem ggX1_go_X1_ofMover : GoodIn wsX1_go wsX1_ofMover := goodIn_r _ [9, 2, 1, 10, 11, 12, 8, 13, 3, 24, 25, 26, 27, 28, 29, 30, 31, 32] (by decide +kernel) (by decide +kernel)
set_option maxRecDepth 20000 in
theorem gX1_go_X1_ofMover : GoodIn wsX1_go (wsV RX1 53 RX1 yX1_ofMover wsX1_ofMover) := goodIn_app (goodIn_of _ (by decide +kernel)) ggX1_go_X1_ofMover
set_option maxRecDepth 20000 in
theorem ggX1_go_X4_moved : GoodIn wsX1_go wsX4_moved := goodIn_r _ [16] (by decide +kernel) (by decide +kernel)
set_option maxRecDepth 20000 in
theorem gX1_go_X4_moved_n67 : GoodIn wsX1_go (wsX4_moved) := ggX1_go_X4_moved
set_option maxRecDepth 20000 in
theorem ggX1_go_X1_ofWaiting : GoodIn wsX1_go wsX1_ofWaiting := goodIn_r _ [20, 1, 2, 10, 11, 12, 8, 13, 3, 24, 25, 26, 27, 28, 29, 30, 31, 32] (by decide +kernel) (by decide +kernel)
set_option maxRecDepth 20000 in
theorem gX1_go_X1_ofWaiting : GoodIn wsX1_go (wsV RX1 71 RX1 yX1_ofWaiting wsX1_ofWaiting) := goodIn_app (goodIn_of _ (by decide +kernel)) ggX1_go_X1_ofWaiting
set_option maxRecDepth 20000 in
theorem ggX1_go_X1_isSecondToMove : GoodIn wsX1_go wsX1_isSecondToMove := goodIn_r _ [13, 3, 24, 25, 26, 27, 28, 29, 30, 31, 32] (by decide +kernel) (by decide +kernel)
set_option maxRecDepth 20000 in
theorem gX1_go_X1_isSecondToMove : GoodIn wsX1_go (wsV RX1 49 RX1 yX1_isSecondToMove wsX1_isSecondToMove) := goodIn_app (goodIn_of _ (by decide +kernel)) ggX1_go_X1_isSecondToMove
set_option maxRecDepth 20000 in
theorem ggX1_go_X1_placing : GoodIn wsX1_go wsX1_placing := goodIn_r _ [23] (by decide +kernel) (by decide +kernel)
set_option maxRecDepth 20000 in
theorem gX1_go_X1_placing : GoodIn wsX1_go (va_wsS RX1 42 yX1_placing wsX1_placing) := goodIn_app (goodIn_of _ (by decide +kernel)) ggX1_go_X1_placing
theorem dX1_go_0 : decode cX1_go 0 = .ok (.aload_n 0, 1) := by decide +kernel
theorem dX1_go_1 : decode cX1_go 1 = .ok (.invokevirtual 53, 3) := by decide +kernel
theorem dX1_go_4 : decode cX1_go 4 = .ok (.iload_n 1, 1) := by decide +kernel
theorem dX1_go_5 : decode cX1_go 5 = .ok (.iload_n 2, 1) := by decide +kernel
theorem dX1_go_6 : decode cX1_go 6 = .ok (.invokestatic 67, 3) := by decide +kernel
theorem dX1_go_9 : decode cX1_go 9 = .ok (.istore_n 3, 1) := by decide +kernel
theorem dX1_go_10 : decode cX1_go 10 = .ok (.aload_n 0, 1) := by decide +kernel
theorem dX1_go_11 : decode cX1_go 11 = .ok (.invokevirtual 71, 3) := by decide +kernel
theorem dX1_go_14 : decode cX1_go 14 = .ok (.iconst 1, 1) := by decide +kernel
theorem dX1_go_15 : decode cX1_go 15 = .ok (.iload_n 2, 1) := by decide +kernel
theorem dX1_go_16 : decode cX1_go 16 = .ok (.ishl, 1) := by decide +kernel
theorem dX1_go_17 : decode cX1_go 17 = .ok (.iconst (-1), 1) := by decide +kernel
theorem dX1_go_18 : decode cX1_go 18 = .ok (.ixor, 1) := by decide +kernel
theorem dX1_go_19 : decode cX1_go 19 = .ok (.iand, 1) := by decide +kernel
theorem dX1_go_20 : decode cX1_go 20 = .ok (.istore 4, 2) := by decide +kernel
theorem dX1_go_22 : decode cX1_go 22 = .ok (.aload_n 0, 1) := by decide +kernel
theorem dX1_go_23 : decode cX1_go 23 = .ok (.aload_n 0, 1) := by decide +kernel
theorem dX1_go_24 : decode cX1_go 24 = .ok (.invokevirtual 49, 3) := by decide +kernel
theorem dX1_go_27 : decode cX1_go 27 = .ok (.ifCond .eq 8, 3) := by decide +kernel
theorem dX1_go_30 : decode cX1_go 30 = .ok (.iload 4, 2) := by decide +kernel
theorem dX1_go_32 : decode cX1_go 32 = .ok (.goto 4, 3) := by decide +kernel
theorem dX1_go_35 : decode cX1_go 35 = .ok (.iload_n 3, 1) := by decide +kernel
theorem dX1_go_36 : decode cX1_go 36 = .ok (.putfield 29, 3) := by decide +kernel
theorem dX1_go_39 : decode cX1_go 39 = .ok (.aload_n 0, 1) := by decide +kernel
theorem dX1_go_40 : decode cX1_go 40 = .ok (.aload_n 0, 1) := by decide +kernel
theorem dX1_go_41 : decode cX1_go 41 = .ok (.invokevirtual 49, 3) := by decide +kernel
theorem dX1_go_44 : decode cX1_go 44 = .ok (.ifCond .eq 7, 3) := by decide +kernel
theorem dX1_go_47 : decode cX1_go 47 = .ok (.iload_n 3, 1) := by decide +kernel
theorem dX1_go_48 : decode cX1_go 48 = .ok (.goto 5, 3) := by decide +kernel
theorem dX1_go_51 : decode cX1_go 51 = .ok (.iload 4, 2) := by decide +kernel
theorem dX1_go_53 : decode cX1_go 53 = .ok (.putfield 32, 3) := by decide +kernel
theorem dX1_go_56 : decode cX1_go 56 = .ok (.aload_n 0, 1) := by decide +kernel
theorem dX1_go_57 : decode cX1_go 57 = .ok (.dup, 1) := by decide +kernel
theorem dX1_go_58 : decode cX1_go 58 = .ok (.getfield 46, 3) := by decide +kernel
theorem dX1_go_61 : decode cX1_go 61 = .ok (.iconst 1, 1) := by decide +kernel
theorem dX1_go_62 : decode cX1_go 62 = .ok (.iadd, 1) := by decide +kernel
theorem dX1_go_63 : decode cX1_go 63 = .ok (.putfield 46, 3) := by decide +kernel
theorem dX1_go_66 : decode cX1_go 66 = .ok (.aload_n 0, 1) := by decide +kernel
theorem dX1_go_67 : decode cX1_go 67 = .ok (.getfield 46, 3) := by decide +kernel
theorem dX1_go_70 : decode cX1_go 70 = .ok (.aload_n 0, 1) := by decide +kernel
theorem dX1_go_71 : decode cX1_go 71 = .ok (.getfield 38, 3) := by decide +kernel
theorem dX1_go_74 : decode cX1_go 74 = .ok (.arraylength, 1) := by decide +kernel
theorem dX1_go_75 : decode cX1_go 75 = .ok (.if_icmp .ge 27, 3) := by decide +kernel
theorem dX1_go_78 : decode cX1_go 78 = .ok (.aload_n 0, 1) := by decide +kernel
theorem dX1_go_79 : decode cX1_go 79 = .ok (.getfield 38, 3) := by decide +kernel
theorem dX1_go_82 : decode cX1_go 82 = .ok (.aload_n 0, 1) := by decide +kernel
theorem dX1_go_83 : decode cX1_go 83 = .ok (.getfield 46, 3) := by decide +kernel
theorem dX1_go_86 : decode cX1_go 86 = .ok (.aload_n 0, 1) := by decide +kernel
theorem dX1_go_87 : decode cX1_go 87 = .ok (.getfield 29, 3) := by decide +kernel
theorem dX1_go_90 : decode cX1_go 90 = .ok (.aload_n 0, 1) := by decide +kernel
theorem dX1_go_91 : decode cX1_go 91 = .ok (.getfield 32, 3) := by decide +kernel
theorem dX1_go_94 : decode cX1_go 94 = .ok (.aload_n 0, 1) := by decide +kernel
theorem dX1_go_95 : decode cX1_go 95 = .ok (.invokevirtual 49, 3) := by decide +kernel
theorem dX1_go_98 : decode cX1_go 98 = .ok (.invokestatic 42, 3) := by decide +kernel
theorem dX1_go_101 : decode cX1_go 101 = .ok (.lastore, 1) := by decide +kernel
theorem dX1_go_102 : decode cX1_go 102 = .ok (.return_, 1) := by decide +kernel
set_option maxRecDepth 20000 in
theorem ggX1_settle_X1_ofMover : GoodIn wsX1_settle wsX1_ofMover := goodIn_r _ [10, 11, 12, 13, 14, 15, 9, 16, 5, 59, 60, 61, 62, 63, 64, 65, 66, 67] (by decide +kernel) (by decide +kernel)
set_option maxRecDepth 20000 in
theorem gX1_settle_X1_ofMover : GoodIn wsX1_settle (wsV RX1 53 RX1 yX1_ofMover wsX1_ofMover) := goodIn_app (goodIn_of _ (by decide +kernel)) ggX1_settle_X1_ofMover
set_option maxRecDepth 20000 in
theorem ggX1_settle_X1_ofWaiting : GoodIn wsX1_settle wsX1_ofWaiting := goodIn_r _ [20, 12, 11, 13, 14, 15, 9, 16, 5, 59, 60, 61, 62, 63, 64, 65, 66, 67] (by decide +kernel) (by decide +kernel)
set_option maxRecDepth 20000 in
theorem gX1_settle_X1_ofWaiting : GoodIn wsX1_settle (wsV RX1 71 RX1 yX1_ofWaiting wsX1_ofWaiting) := goodIn_app (goodIn_of _ (by decide +kernel)) ggX1_settle_X1_ofWaiting
set_option maxRecDepth 20000 in
theorem ggX1_settle_X1_isSecondToMove : GoodIn wsX1_settle wsX1_isSecondToMove := goodIn_r _ [16, 5, 59, 60, 61, 62, 63, 64, 65, 66, 67] (by decide +kernel) (by decide +kernel)
set_option maxRecDepth 20000 in
theorem gX1_settle_X1_isSecondToMove : GoodIn wsX1_settle (wsV RX1 49 RX1 yX1_isSecondToMove wsX1_isSecondToMove) := goodIn_app (goodIn_of _ (by decide +kernel)) ggX1_settle_X1_isSecondToMove
set_option maxRecDepth 20000 in
theorem ggX1_settle_X2_hasMove : GoodIn wsX1_settle wsX2_hasMove := goodIn_r _ [25, 26, 27, 28, 24, 29, 30, 31, 32, 33, 34, 35, 36, 37, 38, 39, 40, 41, 42, 43, 44, 45, 46, 47, 48, 49, 50, 71, 72, 73, 74, 75, 76, 77] (by decide +kernel) (by decide +kernel)
set_option maxRecDepth 20000 in
theorem gX1_settle_X2_hasMove : GoodIn wsX1_settle (wsV RX1 74 RX2 yX2_hasMove wsX2_hasMove) := goodIn_app (goodIn_of _ (by decide +kernel)) ggX1_settle_X2_hasMove
set_option maxRecDepth 20000 in
theorem ggX1_settle_X1_timesSeen : GoodIn wsX1_settle wsX1_timesSeen := goodIn_r _ [54, 12, 11, 5, 55, 13, 14, 15, 9, 16, 56, 57, 58, 59, 60, 61, 62, 63, 64, 65, 66, 67] (by decide +kernel) (by decide +kernel)
set_option maxRecDepth 20000 in
theorem gX1_settle_X1_timesSeen : GoodIn wsX1_settle (wsV RX1 78 RX1 yX1_timesSeen wsX1_timesSeen) := goodIn_app (goodIn_of _ (by decide +kernel)) ggX1_settle_X1_timesSeen
theorem dX1_settle_0 : decode cX1_settle 0 = .ok (.aload_n 0, 1) := by decide +kernel
theorem dX1_settle_1 : decode cX1_settle 1 = .ok (.getfield 21, 3) := by decide +kernel
theorem dX1_settle_4 : decode cX1_settle 4 = .ok (.aload_n 0, 1) := by decide +kernel
theorem dX1_settle_5 : decode cX1_settle 5 = .ok (.invokevirtual 53, 3) := by decide +kernel
theorem dX1_settle_8 : decode cX1_settle 8 = .ok (.aload_n 0, 1) := by decide +kernel
theorem dX1_settle_9 : decode cX1_settle 9 = .ok (.invokevirtual 71, 3) := by decide +kernel
theorem dX1_settle_12 : decode cX1_settle 12 = .ok (.aload_n 0, 1) := by decide +kernel
theorem dX1_settle_13 : decode cX1_settle 13 = .ok (.invokevirtual 49, 3) := by decide +kernel
theorem dX1_settle_16 : decode cX1_settle 16 = .ok (.invokevirtual 74, 3) := by decide +kernel
theorem dX1_settle_19 : decode cX1_settle 19 = .ok (.ifCond .ne 22, 3) := by decide +kernel
theorem dX1_settle_22 : decode cX1_settle 22 = .ok (.aload_n 0, 1) := by decide +kernel
theorem dX1_settle_23 : decode cX1_settle 23 = .ok (.aload_n 0, 1) := by decide +kernel
theorem dX1_settle_24 : decode cX1_settle 24 = .ok (.invokevirtual 49, 3) := by decide +kernel
theorem dX1_settle_27 : decode cX1_settle 27 = .ok (.ifCond .eq 7, 3) := by decide +kernel
theorem dX1_settle_30 : decode cX1_settle 30 = .ok (.iconst 1, 1) := by decide +kernel
theorem dX1_settle_31 : decode cX1_settle 31 = .ok (.goto 4, 3) := by decide +kernel
theorem dX1_settle_34 : decode cX1_settle 34 = .ok (.iconst 2, 1) := by decide +kernel
theorem dX1_settle_35 : decode cX1_settle 35 = .ok (.putfield 35, 3) := by decide +kernel
theorem dX1_settle_38 : decode cX1_settle 38 = .ok (.goto 46, 3) := by decide +kernel
theorem dX1_settle_41 : decode cX1_settle 41 = .ok (.aload_n 0, 1) := by decide +kernel
theorem dX1_settle_42 : decode cX1_settle 42 = .ok (.invokevirtual 78, 3) := by decide +kernel
theorem dX1_settle_45 : decode cX1_settle 45 = .ok (.iconst 3, 1) := by decide +kernel
theorem dX1_settle_46 : decode cX1_settle 46 = .ok (.if_icmp .lt 24, 3) := by decide +kernel
theorem dX1_settle_49 : decode cX1_settle 49 = .ok (.aload_n 0, 1) := by decide +kernel
theorem dX1_settle_50 : decode cX1_settle 50 = .ok (.iconst 3, 1) := by decide +kernel
theorem dX1_settle_51 : decode cX1_settle 51 = .ok (.putfield 35, 3) := by decide +kernel
theorem dX1_settle_54 : decode cX1_settle 54 = .ok (.aload_n 0, 1) := by decide +kernel
theorem dX1_settle_55 : decode cX1_settle 55 = .ok (.getfield 9, 3) := by decide +kernel
theorem dX1_settle_58 : decode cX1_settle 58 = .ok (.dup, 1) := by decide +kernel
theorem dX1_settle_59 : decode cX1_settle 59 = .ok (.getfield 81, 3) := by decide +kernel
theorem dX1_settle_62 : decode cX1_settle 62 = .ok (.iconst 1, 1) := by decide +kernel
theorem dX1_settle_63 : decode cX1_settle 63 = .ok (.iadd, 1) := by decide +kernel
theorem dX1_settle_64 : decode cX1_settle 64 = .ok (.putfield 81, 3) := by decide +kernel
theorem dX1_settle_67 : decode cX1_settle 67 = .ok (.goto 17, 3) := by decide +kernel
theorem dX1_settle_70 : decode cX1_settle 70 = .ok (.aload_n 0, 1) := by decide +kernel
theorem dX1_settle_71 : decode cX1_settle 71 = .ok (.getfield 46, 3) := by decide +kernel
theorem dX1_settle_74 : decode cX1_settle 74 = .ok (.bipush 60, 2) := by decide +kernel
theorem dX1_settle_76 : decode cX1_settle 76 = .ok (.if_icmp .lt 8, 3) := by decide +kernel
theorem dX1_settle_79 : decode cX1_settle 79 = .ok (.aload_n 0, 1) := by decide +kernel
theorem dX1_settle_80 : decode cX1_settle 80 = .ok (.iconst 3, 1) := by decide +kernel
theorem dX1_settle_81 : decode cX1_settle 81 = .ok (.putfield 35, 3) := by decide +kernel
theorem dX1_settle_84 : decode cX1_settle 84 = .ok (.return_, 1) := by decide +kernel
set_option maxRecDepth 20000 in
theorem ggX1_timesSeen_X1_isSecondToMove : GoodIn wsX1_timesSeen wsX1_isSecondToMove := goodIn_r _ [9, 3, 13, 14, 15, 16, 17, 18, 19, 20, 21] (by decide +kernel) (by decide +kernel)
set_option maxRecDepth 20000 in
theorem gX1_timesSeen_X1_isSecondToMove : GoodIn wsX1_timesSeen (wsV RX1 49 RX1 yX1_isSecondToMove wsX1_isSecondToMove) := goodIn_app (goodIn_of _ (by decide +kernel)) ggX1_timesSeen_X1_isSecondToMove
set_option maxRecDepth 20000 in
theorem ggX1_timesSeen_X1_placing : GoodIn wsX1_timesSeen wsX1_placing := goodIn_r _ [12] (by decide +kernel) (by decide +kernel)
set_option maxRecDepth 20000 in
theorem gX1_timesSeen_X1_placing : GoodIn wsX1_timesSeen (va_wsS RX1 42 yX1_placing wsX1_placing) := goodIn_app (goodIn_of _ (by decide +kernel)) ggX1_timesSeen_X1_placing
theorem dX1_timesSeen_0 : decode cX1_timesSeen 0 = .ok (.aload_n 0, 1) := by decide +kernel
theorem dX1_timesSeen_1 : decode cX1_timesSeen 1 = .ok (.getfield 29, 3) := by decide +kernel
theorem dX1_timesSeen_4 : decode cX1_timesSeen 4 = .ok (.aload_n 0, 1) := by decide +kernel
theorem dX1_timesSeen_5 : decode cX1_timesSeen 5 = .ok (.getfield 32, 3) := by decide +kernel
theorem dX1_timesSeen_8 : decode cX1_timesSeen 8 = .ok (.aload_n 0, 1) := by decide +kernel
theorem dX1_timesSeen_9 : decode cX1_timesSeen 9 = .ok (.invokevirtual 49, 3) := by decide +kernel
theorem dX1_timesSeen_12 : decode cX1_timesSeen 12 = .ok (.invokestatic 42, 3) := by decide +kernel
theorem dX1_timesSeen_15 : decode cX1_timesSeen 15 = .ok (.lstore_n 1, 1) := by decide +kernel
theorem dX1_timesSeen_16 : decode cX1_timesSeen 16 = .ok (.iconst 0, 1) := by decide +kernel
theorem dX1_timesSeen_17 : decode cX1_timesSeen 17 = .ok (.istore_n 3, 1) := by decide +kernel
theorem dX1_timesSeen_18 : decode cX1_timesSeen 18 = .ok (.iconst 0, 1) := by decide +kernel
theorem dX1_timesSeen_19 : decode cX1_timesSeen 19 = .ok (.istore 4, 2) := by decide +kernel
theorem dX1_timesSeen_21 : decode cX1_timesSeen 21 = .ok (.iload 4, 2) := by decide +kernel
theorem dX1_timesSeen_23 : decode cX1_timesSeen 23 = .ok (.aload_n 0, 1) := by decide +kernel
theorem dX1_timesSeen_24 : decode cX1_timesSeen 24 = .ok (.getfield 46, 3) := by decide +kernel
theorem dX1_timesSeen_27 : decode cX1_timesSeen 27 = .ok (.if_icmp .gt 34, 3) := by decide +kernel
theorem dX1_timesSeen_30 : decode cX1_timesSeen 30 = .ok (.iload 4, 2) := by decide +kernel
theorem dX1_timesSeen_32 : decode cX1_timesSeen 32 = .ok (.aload_n 0, 1) := by decide +kernel
theorem dX1_timesSeen_33 : decode cX1_timesSeen 33 = .ok (.getfield 38, 3) := by decide +kernel
theorem dX1_timesSeen_36 : decode cX1_timesSeen 36 = .ok (.arraylength, 1) := by decide +kernel
theorem dX1_timesSeen_37 : decode cX1_timesSeen 37 = .ok (.if_icmp .ge 24, 3) := by decide +kernel
theorem dX1_timesSeen_40 : decode cX1_timesSeen 40 = .ok (.aload_n 0, 1) := by decide +kernel
theorem dX1_timesSeen_41 : decode cX1_timesSeen 41 = .ok (.getfield 38, 3) := by decide +kernel
theorem dX1_timesSeen_44 : decode cX1_timesSeen 44 = .ok (.iload 4, 2) := by decide +kernel
theorem dX1_timesSeen_46 : decode cX1_timesSeen 46 = .ok (.laload, 1) := by decide +kernel
theorem dX1_timesSeen_47 : decode cX1_timesSeen 47 = .ok (.lload_n 1, 1) := by decide +kernel
theorem dX1_timesSeen_48 : decode cX1_timesSeen 48 = .ok (.lcmp, 1) := by decide +kernel
theorem dX1_timesSeen_49 : decode cX1_timesSeen 49 = .ok (.ifCond .ne 6, 3) := by decide +kernel
theorem dX1_timesSeen_52 : decode cX1_timesSeen 52 = .ok (.iinc 3 1, 3) := by decide +kernel
theorem dX1_timesSeen_55 : decode cX1_timesSeen 55 = .ok (.iinc 4 1, 3) := by decide +kernel
theorem dX1_timesSeen_58 : decode cX1_timesSeen 58 = .ok (.goto (-37), 3) := by decide +kernel
theorem dX1_timesSeen_61 : decode cX1_timesSeen 61 = .ok (.iload_n 3, 1) := by decide +kernel
theorem dX1_timesSeen_62 : decode cX1_timesSeen 62 = .ok (.ireturn, 1) := by decide +kernel
theorem dX1_pointsFor_0 : decode cX1_pointsFor 0 = .ok (.aload_n 0, 1) := by decide +kernel
theorem dX1_pointsFor_1 : decode cX1_pointsFor 1 = .ok (.getfield 35, 3) := by decide +kernel
theorem dX1_pointsFor_4 : decode cX1_pointsFor 4 = .ok (.iconst 3, 1) := by decide +kernel
theorem dX1_pointsFor_5 : decode cX1_pointsFor 5 = .ok (.if_icmp .ne 25, 3) := by decide +kernel
theorem dX1_pointsFor_8 : decode cX1_pointsFor 8 = .ok (.iload_n 1, 1) := by decide +kernel
theorem dX1_pointsFor_9 : decode cX1_pointsFor 9 = .ok (.aload_n 0, 1) := by decide +kernel
theorem dX1_pointsFor_10 : decode cX1_pointsFor 10 = .ok (.getfield 22, 3) := by decide +kernel
theorem dX1_pointsFor_13 : decode cX1_pointsFor 13 = .ok (.if_icmp .eq 11, 3) := by decide +kernel
theorem dX1_pointsFor_16 : decode cX1_pointsFor 16 = .ok (.iload_n 1, 1) := by decide +kernel
theorem dX1_pointsFor_17 : decode cX1_pointsFor 17 = .ok (.aload_n 0, 1) := by decide +kernel
theorem dX1_pointsFor_18 : decode cX1_pointsFor 18 = .ok (.getfield 26, 3) := by decide +kernel
theorem dX1_pointsFor_21 : decode cX1_pointsFor 21 = .ok (.if_icmp .ne 7, 3) := by decide +kernel
theorem dX1_pointsFor_24 : decode cX1_pointsFor 24 = .ok (.iconst 1, 1) := by decide +kernel
theorem dX1_pointsFor_25 : decode cX1_pointsFor 25 = .ok (.goto 4, 3) := by decide +kernel
theorem dX1_pointsFor_28 : decode cX1_pointsFor 28 = .ok (.iconst 0, 1) := by decide +kernel
theorem dX1_pointsFor_29 : decode cX1_pointsFor 29 = .ok (.ireturn, 1) := by decide +kernel
theorem dX1_pointsFor_30 : decode cX1_pointsFor 30 = .ok (.aload_n 0, 1) := by decide +kernel
theorem dX1_pointsFor_31 : decode cX1_pointsFor 31 = .ok (.getfield 35, 3) := by decide +kernel
theorem dX1_pointsFor_34 : decode cX1_pointsFor 34 = .ok (.iconst 1, 1) := by decide +kernel
theorem dX1_pointsFor_35 : decode cX1_pointsFor 35 = .ok (.if_icmp .ne 11, 3) := by decide +kernel
theorem dX1_pointsFor_38 : decode cX1_pointsFor 38 = .ok (.iload_n 1, 1) := by decide +kernel
theorem dX1_pointsFor_39 : decode cX1_pointsFor 39 = .ok (.aload_n 0, 1) := by decide +kernel
theorem dX1_pointsFor_40 : decode cX1_pointsFor 40 = .ok (.getfield 22, 3) := by decide +kernel
theorem dX1_pointsFor_43 : decode cX1_pointsFor 43 = .ok (.if_icmp .eq 19, 3) := by decide +kernel
theorem dX1_pointsFor_46 : decode cX1_pointsFor 46 = .ok (.aload_n 0, 1) := by decide +kernel
theorem dX1_pointsFor_47 : decode cX1_pointsFor 47 = .ok (.getfield 35, 3) := by decide +kernel
theorem dX1_pointsFor_50 : decode cX1_pointsFor 50 = .ok (.iconst 2, 1) := by decide +kernel
theorem dX1_pointsFor_51 : decode cX1_pointsFor 51 = .ok (.if_icmp .ne 15, 3) := by decide +kernel
theorem dX1_pointsFor_54 : decode cX1_pointsFor 54 = .ok (.iload_n 1, 1) := by decide +kernel
theorem dX1_pointsFor_55 : decode cX1_pointsFor 55 = .ok (.aload_n 0, 1) := by decide +kernel
theorem dX1_pointsFor_56 : decode cX1_pointsFor 56 = .ok (.getfield 26, 3) := by decide +kernel
theorem dX1_pointsFor_59 : decode cX1_pointsFor 59 = .ok (.if_icmp .ne 7, 3) := by decide +kernel
theorem dX1_pointsFor_62 : decode cX1_pointsFor 62 = .ok (.iconst 1, 1) := by decide +kernel
theorem dX1_pointsFor_63 : decode cX1_pointsFor 63 = .ok (.goto 4, 3) := by decide +kernel
theorem dX1_pointsFor_66 : decode cX1_pointsFor 66 = .ok (.iconst 0, 1) := by decide +kernel
theorem dX1_pointsFor_67 : decode cX1_pointsFor 67 = .ok (.istore_n 2, 1) := by decide +kernel
theorem dX1_pointsFor_68 : decode cX1_pointsFor 68 = .ok (.iload_n 2, 1) := by decide +kernel
theorem dX1_pointsFor_69 : decode cX1_pointsFor 69 = .ok (.ifCond .eq 7, 3) := by decide +kernel
theorem dX1_pointsFor_72 : decode cX1_pointsFor 72 = .ok (.iconst 3, 1) := by decide +kernel
theorem dX1_pointsFor_73 : decode cX1_pointsFor 73 = .ok (.goto 4, 3) := by decide +kernel
theorem dX1_pointsFor_76 : decode cX1_pointsFor 76 = .ok (.iconst 0, 1) := by decide +kernel
theorem dX1_pointsFor_77 : decode cX1_pointsFor 77 = .ok (.ireturn, 1) := by decide +kernel
theorem dX2_init_0 : decode cX2_init 0 = .ok (.aload_n 0, 1) := by decide +kernel
theorem dX2_init_1 : decode cX2_init 1 = .ok (.invokespecial 3, 3) := by decide +kernel
theorem dX2_init_4 : decode cX2_init 4 = .ok (.aload_n 0, 1) := by decide +kernel
theorem dX2_init_5 : decode cX2_init 5 = .ok (.aload_n 1, 1) := by decide +kernel
theorem dX2_init_6 : decode cX2_init 6 = .ok (.putfield 9, 3) := by decide +kernel
theorem dX2_init_9 : decode cX2_init 9 = .ok (.aload_n 0, 1) := by decide +kernel
theorem dX2_init_10 : decode cX2_init 10 = .ok (.iload_n 2, 1) := by decide +kernel
theorem dX2_init_11 : decode cX2_init 11 = .ok (.putfield 15, 3) := by decide +kernel
theorem dX2_init_14 : decode cX2_init 14 = .ok (.aload_n 0, 1) := by decide +kernel
theorem dX2_init_15 : decode cX2_init 15 = .ok (.iload_n 3, 1) := by decide +kernel
theorem dX2_init_16 : decode cX2_init 16 = .ok (.putfield 19, 3) := by decide +kernel
theorem dX2_init_19 : decode cX2_init 19 = .ok (.return_, 1) := by decide +kernel
set_option maxRecDepth 20000 in
theorem ggX2_canHold_J6_bitCount_0f7a4 : GoodIn wsX2_canHold wsJ6_bitCount_0f7a4 := goodIn_r _ [6, 7, 8, 9] (by decide +kernel) (by decide +kernel)
set_option maxRecDepth 20000 in
theorem gX2_canHold_J6_bitCount_0f7a4 : GoodIn wsX2_canHold (va_wsS RX2 23 yJ6_bitCount_0f7a4 wsJ6_bitCount_0f7a4) := goodIn_app (goodIn_of _ (by decide +kernel)) ggX2_canHold_J6_bitCount_0f7a4
theorem dX2_canHold_0 : decode cX2_canHold 0 = .ok (.iload_n 1, 1) := by decide +kernel
theorem dX2_canHold_1 : decode cX2_canHold 1 = .ok (.iconst 1, 1) := by decide +kernel
theorem dX2_canHold_2 : decode cX2_canHold 2 = .ok (.if_icmp .lt 31, 3) := by decide +kernel
theorem dX2_canHold_5 : decode cX2_canHold 5 = .ok (.iload_n 1, 1) := by decide +kernel
theorem dX2_canHold_6 : decode cX2_canHold 6 = .ok (.ldc 22, 2) := by decide +kernel
theorem dX2_canHold_8 : decode cX2_canHold 8 = .ok (.if_icmp .gt 25, 3) := by decide +kernel
theorem dX2_canHold_11 : decode cX2_canHold 11 = .ok (.iload_n 1, 1) := by decide +kernel
theorem dX2_canHold_12 : decode cX2_canHold 12 = .ok (.invokestatic 23, 3) := by decide +kernel
theorem dX2_canHold_15 : decode cX2_canHold 15 = .ok (.bipush 6, 2) := by decide +kernel
theorem dX2_canHold_17 : decode cX2_canHold 17 = .ok (.if_icmp .gt 16, 3) := by decide +kernel
theorem dX2_canHold_20 : decode cX2_canHold 20 = .ok (.iload_n 1, 1) := by decide +kernel
theorem dX2_canHold_21 : decode cX2_canHold 21 = .ok (.aload_n 0, 1) := by decide +kernel
theorem dX2_canHold_22 : decode cX2_canHold 22 = .ok (.getfield 19, 3) := by decide +kernel
theorem dX2_canHold_25 : decode cX2_canHold 25 = .ok (.iand, 1) := by decide +kernel
theorem dX2_canHold_26 : decode cX2_canHold 26 = .ok (.ifCond .ne 7, 3) := by decide +kernel
theorem dX2_canHold_29 : decode cX2_canHold 29 = .ok (.iconst 1, 1) := by decide +kernel
theorem dX2_canHold_30 : decode cX2_canHold 30 = .ok (.goto 4, 3) := by decide +kernel
theorem dX2_canHold_33 : decode cX2_canHold 33 = .ok (.iconst 0, 1) := by decide +kernel
theorem dX2_canHold_34 : decode cX2_canHold 34 = .ok (.ireturn, 1) := by decide +kernel
set_option maxRecDepth 20000 in
theorem ggX2_endsFrom_X4_isIn : GoodIn wsX2_endsFrom wsX4_isIn := goodIn_r _ [6] (by decide +kernel) (by decide +kernel)
set_option maxRecDepth 20000 in
theorem gX2_endsFrom_X4_isIn_n29 : GoodIn wsX2_endsFrom (wsX4_isIn) := ggX2_endsFrom_X4_isIn
set_option maxRecDepth 20000 in
theorem ggX2_endsFrom_X0_endsFrom : GoodIn wsX2_endsFrom wsX0_endsFrom := goodIn_r _ [11, 12, 13, 14, 15, 16, 17, 10, 18, 19, 20, 5, 21, 4, 6, 25, 26, 27, 28] (by decide +kernel) (by decide +kernel)
set_option maxRecDepth 20000 in
theorem gX2_endsFrom_X0_endsFrom : GoodIn wsX2_endsFrom (wsV RX2 33 RX0 yX0_endsFrom wsX0_endsFrom) := goodIn_app (goodIn_of _ (by decide +kernel)) ggX2_endsFrom_X0_endsFrom
theorem dX2_endsFrom_0 : decode cX2_endsFrom 0 = .ok (.iconst 0, 1) := by decide +kernel
theorem dX2_endsFrom_1 : decode cX2_endsFrom 1 = .ok (.istore 5, 2) := by decide +kernel
theorem dX2_endsFrom_3 : decode cX2_endsFrom 3 = .ok (.iload_n 2, 1) := by decide +kernel
theorem dX2_endsFrom_4 : decode cX2_endsFrom 4 = .ok (.iload_n 1, 1) := by decide +kernel
theorem dX2_endsFrom_5 : decode cX2_endsFrom 5 = .ok (.invokestatic 29, 3) := by decide +kernel
theorem dX2_endsFrom_8 : decode cX2_endsFrom 8 = .ok (.ifCond .eq 68, 3) := by decide +kernel
theorem dX2_endsFrom_11 : decode cX2_endsFrom 11 = .ok (.iconst 0, 1) := by decide +kernel
theorem dX2_endsFrom_12 : decode cX2_endsFrom 12 = .ok (.istore 6, 2) := by decide +kernel
theorem dX2_endsFrom_14 : decode cX2_endsFrom 14 = .ok (.iload 6, 2) := by decide +kernel
theorem dX2_endsFrom_16 : decode cX2_endsFrom 16 = .ok (.aload_n 0, 1) := by decide +kernel
theorem dX2_endsFrom_17 : decode cX2_endsFrom 17 = .ok (.getfield 9, 3) := by decide +kernel
theorem dX2_endsFrom_20 : decode cX2_endsFrom 20 = .ok (.arraylength, 1) := by decide +kernel
theorem dX2_endsFrom_21 : decode cX2_endsFrom 21 = .ok (.if_icmp .ge 55, 3) := by decide +kernel
theorem dX2_endsFrom_24 : decode cX2_endsFrom 24 = .ok (.aload_n 0, 1) := by decide +kernel
theorem dX2_endsFrom_25 : decode cX2_endsFrom 25 = .ok (.getfield 9, 3) := by decide +kernel
theorem dX2_endsFrom_28 : decode cX2_endsFrom 28 = .ok (.iload 6, 2) := by decide +kernel
theorem dX2_endsFrom_30 : decode cX2_endsFrom 30 = .ok (.aaload, 1) := by decide +kernel
theorem dX2_endsFrom_31 : decode cX2_endsFrom 31 = .ok (.astore 7, 2) := by decide +kernel
theorem dX2_endsFrom_33 : decode cX2_endsFrom 33 = .ok (.aload 7, 2) := by decide +kernel
theorem dX2_endsFrom_35 : decode cX2_endsFrom 35 = .ok (.ifnull 35, 3) := by decide +kernel
theorem dX2_endsFrom_38 : decode cX2_endsFrom 38 = .ok (.aload_n 0, 1) := by decide +kernel
theorem dX2_endsFrom_39 : decode cX2_endsFrom 39 = .ok (.getfield 15, 3) := by decide +kernel
theorem dX2_endsFrom_42 : decode cX2_endsFrom 42 = .ok (.iload 6, 2) := by decide +kernel
theorem dX2_endsFrom_44 : decode cX2_endsFrom 44 = .ok (.invokestatic 29, 3) := by decide +kernel
theorem dX2_endsFrom_47 : decode cX2_endsFrom 47 = .ok (.ifCond .eq 23, 3) := by decide +kernel
theorem dX2_endsFrom_50 : decode cX2_endsFrom 50 = .ok (.iload 5, 2) := by decide +kernel
theorem dX2_endsFrom_52 : decode cX2_endsFrom 52 = .ok (.aload 7, 2) := by decide +kernel
theorem dX2_endsFrom_54 : decode cX2_endsFrom 54 = .ok (.iload_n 1, 1) := by decide +kernel
theorem dX2_endsFrom_55 : decode cX2_endsFrom 55 = .ok (.aload_n 0, 1) := by decide +kernel
theorem dX2_endsFrom_56 : decode cX2_endsFrom 56 = .ok (.getfield 19, 3) := by decide +kernel
theorem dX2_endsFrom_59 : decode cX2_endsFrom 59 = .ok (.iload_n 2, 1) := by decide +kernel
theorem dX2_endsFrom_60 : decode cX2_endsFrom 60 = .ok (.iload_n 3, 1) := by decide +kernel
theorem dX2_endsFrom_61 : decode cX2_endsFrom 61 = .ok (.ior, 1) := by decide +kernel
theorem dX2_endsFrom_62 : decode cX2_endsFrom 62 = .ok (.iload 4, 2) := by decide +kernel
theorem dX2_endsFrom_64 : decode cX2_endsFrom 64 = .ok (.invokevirtual 33, 3) := by decide +kernel
theorem dX2_endsFrom_67 : decode cX2_endsFrom 67 = .ok (.ior, 1) := by decide +kernel
theorem dX2_endsFrom_68 : decode cX2_endsFrom 68 = .ok (.istore 5, 2) := by decide +kernel
theorem dX2_endsFrom_70 : decode cX2_endsFrom 70 = .ok (.iinc 6 1, 3) := by decide +kernel
theorem dX2_endsFrom_73 : decode cX2_endsFrom 73 = .ok (.goto (-59), 3) := by decide +kernel
theorem dX2_endsFrom_76 : decode cX2_endsFrom 76 = .ok (.iload 5, 2) := by decide +kernel
theorem dX2_endsFrom_78 : decode cX2_endsFrom 78 = .ok (.iload_n 2, 1) := by decide +kernel
theorem dX2_endsFrom_79 : decode cX2_endsFrom 79 = .ok (.iconst (-1), 1) := by decide +kernel
theorem dX2_endsFrom_80 : decode cX2_endsFrom 80 = .ok (.ixor, 1) := by decide +kernel
theorem dX2_endsFrom_81 : decode cX2_endsFrom 81 = .ok (.iand, 1) := by decide +kernel
theorem dX2_endsFrom_82 : decode cX2_endsFrom 82 = .ok (.ireturn, 1) := by decide +kernel
set_option maxRecDepth 20000 in
theorem ggX2_hasMove_X2_endsFrom : GoodIn wsX2_hasMove wsX2_endsFrom := goodIn_r _ [5, 6, 7, 8, 9, 10, 11, 12, 13, 14, 15, 16, 17, 18, 19, 20, 21, 22, 23, 24, 25, 26, 27, 28, 29, 30, 31, 32, 33] (by decide +kernel) (by decide +kernel)
set_option maxRecDepth 20000 in
theorem gX2_hasMove_X2_endsFrom : GoodIn wsX2_hasMove (wsV RX2 39 RX2 yX2_endsFrom wsX2_endsFrom) := goodIn_app (goodIn_of _ (by decide +kernel)) ggX2_hasMove_X2_endsFrom
theorem dX2_hasMove_0 : decode cX2_hasMove 0 = .ok (.iconst 0, 1) := by decide +kernel
theorem dX2_hasMove_1 : decode cX2_hasMove 1 = .ok (.istore 4, 2) := by decide +kernel
theorem dX2_hasMove_3 : decode cX2_hasMove 3 = .ok (.iload 4, 2) := by decide +kernel
theorem dX2_hasMove_5 : decode cX2_hasMove 5 = .ok (.bipush 25, 2) := by decide +kernel
theorem dX2_hasMove_7 : decode cX2_hasMove 7 = .ok (.if_icmp .ge 23, 3) := by decide +kernel
theorem dX2_hasMove_10 : decode cX2_hasMove 10 = .ok (.aload_n 0, 1) := by decide +kernel
theorem dX2_hasMove_11 : decode cX2_hasMove 11 = .ok (.iload 4, 2) := by decide +kernel
theorem dX2_hasMove_13 : decode cX2_hasMove 13 = .ok (.iload_n 1, 1) := by decide +kernel
theorem dX2_hasMove_14 : decode cX2_hasMove 14 = .ok (.iload_n 2, 1) := by decide +kernel
theorem dX2_hasMove_15 : decode cX2_hasMove 15 = .ok (.iload_n 3, 1) := by decide +kernel
theorem dX2_hasMove_16 : decode cX2_hasMove 16 = .ok (.invokevirtual 39, 3) := by decide +kernel
theorem dX2_hasMove_19 : decode cX2_hasMove 19 = .ok (.ifCond .eq 5, 3) := by decide +kernel
theorem dX2_hasMove_22 : decode cX2_hasMove 22 = .ok (.iconst 1, 1) := by decide +kernel
theorem dX2_hasMove_23 : decode cX2_hasMove 23 = .ok (.ireturn, 1) := by decide +kernel
theorem dX2_hasMove_24 : decode cX2_hasMove 24 = .ok (.iinc 4 1, 3) := by decide +kernel
theorem dX2_hasMove_27 : decode cX2_hasMove 27 = .ok (.goto (-24), 3) := by decide +kernel
theorem dX2_hasMove_30 : decode cX2_hasMove 30 = .ok (.iconst 0, 1) := by decide +kernel
theorem dX2_hasMove_31 : decode cX2_hasMove 31 = .ok (.ireturn, 1) := by decide +kernel
set_option maxRecDepth 20000 in
theorem ggX2_someCardLeads_X4_isIn : GoodIn wsX2_someCardLeads wsX4_isIn := goodIn_r _ [6] (by decide +kernel) (by decide +kernel)
set_option maxRecDepth 20000 in
theorem gX2_someCardLeads_X4_isIn_n29 : GoodIn wsX2_someCardLeads (wsX4_isIn) := ggX2_someCardLeads_X4_isIn
set_option maxRecDepth 20000 in
theorem ggX2_someCardLeads_X0_leads : GoodIn wsX2_someCardLeads wsX0_leads := goodIn_r _ [11, 12, 13, 14, 15, 16, 10, 17, 18, 19, 5, 20, 4, 6, 21, 22, 23, 24, 25, 29, 30, 31, 32] (by decide +kernel) (by decide +kernel)
set_option maxRecDepth 20000 in
theorem gX2_someCardLeads_X0_leads : GoodIn wsX2_someCardLeads (wsV RX2 40 RX0 yX0_leads wsX0_leads) := goodIn_app (goodIn_of _ (by decide +kernel)) ggX2_someCardLeads_X0_leads
theorem dX2_someCardLeads_0 : decode cX2_someCardLeads 0 = .ok (.iconst 0, 1) := by decide +kernel
theorem dX2_someCardLeads_1 : decode cX2_someCardLeads 1 = .ok (.istore 5, 2) := by decide +kernel
theorem dX2_someCardLeads_3 : decode cX2_someCardLeads 3 = .ok (.iload 5, 2) := by decide +kernel
theorem dX2_someCardLeads_5 : decode cX2_someCardLeads 5 = .ok (.aload_n 0, 1) := by decide +kernel
theorem dX2_someCardLeads_6 : decode cX2_someCardLeads 6 = .ok (.getfield 9, 3) := by decide +kernel
theorem dX2_someCardLeads_9 : decode cX2_someCardLeads 9 = .ok (.arraylength, 1) := by decide +kernel
theorem dX2_someCardLeads_10 : decode cX2_someCardLeads 10 = .ok (.if_icmp .ge 54, 3) := by decide +kernel
theorem dX2_someCardLeads_13 : decode cX2_someCardLeads 13 = .ok (.aload_n 0, 1) := by decide +kernel
theorem dX2_someCardLeads_14 : decode cX2_someCardLeads 14 = .ok (.getfield 9, 3) := by decide +kernel
theorem dX2_someCardLeads_17 : decode cX2_someCardLeads 17 = .ok (.iload 5, 2) := by decide +kernel
theorem dX2_someCardLeads_19 : decode cX2_someCardLeads 19 = .ok (.aaload, 1) := by decide +kernel
theorem dX2_someCardLeads_20 : decode cX2_someCardLeads 20 = .ok (.astore 6, 2) := by decide +kernel
theorem dX2_someCardLeads_22 : decode cX2_someCardLeads 22 = .ok (.aload 6, 2) := by decide +kernel
theorem dX2_someCardLeads_24 : decode cX2_someCardLeads 24 = .ok (.ifnull 34, 3) := by decide +kernel
theorem dX2_someCardLeads_27 : decode cX2_someCardLeads 27 = .ok (.aload_n 0, 1) := by decide +kernel
theorem dX2_someCardLeads_28 : decode cX2_someCardLeads 28 = .ok (.getfield 15, 3) := by decide +kernel
theorem dX2_someCardLeads_31 : decode cX2_someCardLeads 31 = .ok (.iload 5, 2) := by decide +kernel
theorem dX2_someCardLeads_33 : decode cX2_someCardLeads 33 = .ok (.invokestatic 29, 3) := by decide +kernel
theorem dX2_someCardLeads_36 : decode cX2_someCardLeads 36 = .ok (.ifCond .eq 22, 3) := by decide +kernel
theorem dX2_someCardLeads_39 : decode cX2_someCardLeads 39 = .ok (.aload 6, 2) := by decide +kernel
theorem dX2_someCardLeads_41 : decode cX2_someCardLeads 41 = .ok (.iload_n 1, 1) := by decide +kernel
theorem dX2_someCardLeads_42 : decode cX2_someCardLeads 42 = .ok (.iload_n 2, 1) := by decide +kernel
theorem dX2_someCardLeads_43 : decode cX2_someCardLeads 43 = .ok (.aload_n 0, 1) := by decide +kernel
theorem dX2_someCardLeads_44 : decode cX2_someCardLeads 44 = .ok (.getfield 19, 3) := by decide +kernel
theorem dX2_someCardLeads_47 : decode cX2_someCardLeads 47 = .ok (.iload_n 3, 1) := by decide +kernel
theorem dX2_someCardLeads_48 : decode cX2_someCardLeads 48 = .ok (.iload 4, 2) := by decide +kernel
theorem dX2_someCardLeads_50 : decode cX2_someCardLeads 50 = .ok (.invokevirtual 40, 3) := by decide +kernel
theorem dX2_someCardLeads_53 : decode cX2_someCardLeads 53 = .ok (.ifCond .eq 5, 3) := by decide +kernel
theorem dX2_someCardLeads_56 : decode cX2_someCardLeads 56 = .ok (.iconst 1, 1) := by decide +kernel
theorem dX2_someCardLeads_57 : decode cX2_someCardLeads 57 = .ok (.ireturn, 1) := by decide +kernel
theorem dX2_someCardLeads_58 : decode cX2_someCardLeads 58 = .ok (.iinc 5 1, 3) := by decide +kernel
theorem dX2_someCardLeads_61 : decode cX2_someCardLeads 61 = .ok (.goto (-58), 3) := by decide +kernel
theorem dX2_someCardLeads_64 : decode cX2_someCardLeads 64 = .ok (.iconst 0, 1) := by decide +kernel
theorem dX2_someCardLeads_65 : decode cX2_someCardLeads 65 = .ok (.ireturn, 1) := by decide +kernel
theorem dX3_init_0 : decode cX3_init 0 = .ok (.aload_n 0, 1) := by decide +kernel
theorem dX3_init_1 : decode cX3_init 1 = .ok (.invokespecial 3, 3) := by decide +kernel
theorem dX3_init_4 : decode cX3_init 4 = .ok (.aload_n 0, 1) := by decide +kernel
theorem dX3_init_5 : decode cX3_init 5 = .ok (.aload_n 1, 1) := by decide +kernel
theorem dX3_init_6 : decode cX3_init 6 = .ok (.putfield 9, 3) := by decide +kernel
theorem dX3_init_9 : decode cX3_init 9 = .ok (.return_, 1) := by decide +kernel
set_option maxRecDepth 20000 in
theorem ggX3_isOut_J6_bitCount_0f7a4 : GoodIn wsX3_isOut wsJ6_bitCount_0f7a4 := goodIn_r _ [6, 7, 8, 9] (by decide +kernel) (by decide +kernel)
set_option maxRecDepth 20000 in
theorem gX3_isOut_J6_bitCount_0f7a4 : GoodIn wsX3_isOut (va_wsS RX3 19 yJ6_bitCount_0f7a4 wsJ6_bitCount_0f7a4) := goodIn_app (goodIn_of _ (by decide +kernel)) ggX3_isOut_J6_bitCount_0f7a4
theorem dX3_isOut_0 : decode cX3_isOut 0 = .ok (.aload_n 0, 1) := by decide +kernel
theorem dX3_isOut_1 : decode cX3_isOut 1 = .ok (.getfield 15, 3) := by decide +kernel
theorem dX3_isOut_4 : decode cX3_isOut 4 = .ok (.invokestatic 19, 3) := by decide +kernel
theorem dX3_isOut_7 : decode cX3_isOut 7 = .ok (.iconst 3, 1) := by decide +kernel
theorem dX3_isOut_8 : decode cX3_isOut 8 = .ok (.if_icmp .ge 11, 3) := by decide +kernel
theorem dX3_isOut_11 : decode cX3_isOut 11 = .ok (.aload_n 0, 1) := by decide +kernel
theorem dX3_isOut_12 : decode cX3_isOut 12 = .ok (.getfield 25, 3) := by decide +kernel
theorem dX3_isOut_15 : decode cX3_isOut 15 = .ok (.iconst 2, 1) := by decide +kernel
theorem dX3_isOut_16 : decode cX3_isOut 16 = .ok (.if_icmp .lt 7, 3) := by decide +kernel
theorem dX3_isOut_19 : decode cX3_isOut 19 = .ok (.iconst 1, 1) := by decide +kernel
theorem dX3_isOut_20 : decode cX3_isOut 20 = .ok (.goto 4, 3) := by decide +kernel
theorem dX3_isOut_23 : decode cX3_isOut 23 = .ok (.iconst 0, 1) := by decide +kernel
theorem dX3_isOut_24 : decode cX3_isOut 24 = .ok (.ireturn, 1) := by decide +kernel
theorem dX4_init_0 : decode cX4_init 0 = .ok (.aload_n 0, 1) := by decide +kernel
theorem dX4_init_1 : decode cX4_init 1 = .ok (.invokespecial 1, 3) := by decide +kernel
theorem dX4_init_4 : decode cX4_init 4 = .ok (.aload_n 0, 1) := by decide +kernel
theorem dX4_init_5 : decode cX4_init 5 = .ok (.bipush 8, 2) := by decide +kernel
theorem dX4_init_7 : decode cX4_init 7 = .ok (.anewarray 9, 3) := by decide +kernel
theorem dX4_init_10 : decode cX4_init 10 = .ok (.putfield 11, 3) := by decide +kernel
theorem dX4_init_13 : decode cX4_init 13 = .ok (.aload_n 0, 1) := by decide +kernel
theorem dX4_init_14 : decode cX4_init 14 = .ok (.iconst 4, 1) := by decide +kernel
theorem dX4_init_15 : decode cX4_init 15 = .ok (.anewarray 15, 3) := by decide +kernel
theorem dX4_init_18 : decode cX4_init 18 = .ok (.putfield 17, 3) := by decide +kernel
theorem dX4_init_21 : decode cX4_init 21 = .ok (.aload_n 0, 1) := by decide +kernel
theorem dX4_init_22 : decode cX4_init 22 = .ok (.bipush 12, 2) := by decide +kernel
theorem dX4_init_24 : decode cX4_init 24 = .ok (.anewarray 21, 3) := by decide +kernel
theorem dX4_init_27 : decode cX4_init 27 = .ok (.putfield 23, 3) := by decide +kernel
theorem dX4_init_30 : decode cX4_init 30 = .ok (.return_, 1) := by decide +kernel
set_option maxRecDepth 20000 in
theorem ggX4_card_X4_isStep : GoodIn wsX4_card wsX4_isStep := goodIn_r _ [13] (by decide +kernel) (by decide +kernel)
set_option maxRecDepth 20000 in
theorem gX4_card_X4_isStep : GoodIn wsX4_card (va_wsS RX4 27 yX4_isStep wsX4_isStep) := goodIn_app (goodIn_of _ (by decide +kernel)) ggX4_card_X4_isStep
set_option maxRecDepth 20000 in
theorem ggX4_card_X0_init : GoodIn wsX4_card wsX0_init := goodIn_r _ [16, 17, 18, 19, 20, 21, 22, 23, 30, 31, 32, 33] (by decide +kernel) (by decide +kernel)
set_option maxRecDepth 20000 in
theorem gX4_card_X0_init : GoodIn wsX4_card (wsX0_init) := ggX4_card_X0_init
theorem dX4_card_0 : decode cX4_card 0 = .ok (.iload_n 1, 1) := by decide +kernel
theorem dX4_card_1 : decode cX4_card 1 = .ok (.ifCond .lt 28, 3) := by decide +kernel
theorem dX4_card_4 : decode cX4_card 4 = .ok (.iload_n 1, 1) := by decide +kernel
theorem dX4_card_5 : decode cX4_card 5 = .ok (.iconst 2, 1) := by decide +kernel
theorem dX4_card_6 : decode cX4_card 6 = .ok (.if_icmp .gt 23, 3) := by decide +kernel
theorem dX4_card_9 : decode cX4_card 9 = .ok (.iload_n 2, 1) := by decide +kernel
theorem dX4_card_10 : decode cX4_card 10 = .ok (.iload_n 3, 1) := by decide +kernel
theorem dX4_card_11 : decode cX4_card 11 = .ok (.invokestatic 27, 3) := by decide +kernel
theorem dX4_card_14 : decode cX4_card 14 = .ok (.ifCond .eq 15, 3) := by decide +kernel
theorem dX4_card_17 : decode cX4_card 17 = .ok (.iload 4, 2) := by decide +kernel
theorem dX4_card_19 : decode cX4_card 19 = .ok (.iconst 1, 1) := by decide +kernel
theorem dX4_card_20 : decode cX4_card 20 = .ok (.if_icmp .lt 9, 3) := by decide +kernel
theorem dX4_card_23 : decode cX4_card 23 = .ok (.iload 4, 2) := by decide +kernel
theorem dX4_card_25 : decode cX4_card 25 = .ok (.iconst 4, 1) := by decide +kernel
theorem dX4_card_26 : decode cX4_card 26 = .ok (.if_icmp .le 13, 3) := by decide +kernel
theorem dX4_card_29 : decode cX4_card 29 = .ok (.new 31, 3) := by decide +kernel
theorem dX4_card_32 : decode cX4_card 32 = .ok (.dup, 1) := by decide +kernel
theorem dX4_card_33 : decode cX4_card 33 = .ok (.ldc 33, 2) := by decide +kernel
theorem dX4_card_35 : decode cX4_card 35 = .ok (.invokespecial 35, 3) := by decide +kernel
theorem dX4_card_38 : decode cX4_card 38 = .ok (.athrow, 1) := by decide +kernel
theorem dX4_card_39 : decode cX4_card 39 = .ok (.aload_n 0, 1) := by decide +kernel
theorem dX4_card_40 : decode cX4_card 40 = .ok (.getfield 38, 3) := by decide +kernel
theorem dX4_card_43 : decode cX4_card 43 = .ok (.aload_n 0, 1) := by decide +kernel
theorem dX4_card_44 : decode cX4_card 44 = .ok (.getfield 11, 3) := by decide +kernel
theorem dX4_card_47 : decode cX4_card 47 = .ok (.arraylength, 1) := by decide +kernel
theorem dX4_card_48 : decode cX4_card 48 = .ok (.if_icmp .lt 13, 3) := by decide +kernel
theorem dX4_card_51 : decode cX4_card 51 = .ok (.new 42, 3) := by decide +kernel
theorem dX4_card_54 : decode cX4_card 54 = .ok (.dup, 1) := by decide +kernel
theorem dX4_card_55 : decode cX4_card 55 = .ok (.ldc 44, 2) := by decide +kernel
theorem dX4_card_57 : decode cX4_card 57 = .ok (.invokespecial 46, 3) := by decide +kernel
theorem dX4_card_60 : decode cX4_card 60 = .ok (.athrow, 1) := by decide +kernel
theorem dX4_card_61 : decode cX4_card 61 = .ok (.aload_n 0, 1) := by decide +kernel
theorem dX4_card_62 : decode cX4_card 62 = .ok (.getfield 38, 3) := by decide +kernel
theorem dX4_card_65 : decode cX4_card 65 = .ok (.istore 5, 2) := by decide +kernel
theorem dX4_card_67 : decode cX4_card 67 = .ok (.aload_n 0, 1) := by decide +kernel
theorem dX4_card_68 : decode cX4_card 68 = .ok (.getfield 11, 3) := by decide +kernel
theorem dX4_card_71 : decode cX4_card 71 = .ok (.iload 5, 2) := by decide +kernel
theorem dX4_card_73 : decode cX4_card 73 = .ok (.new 9, 3) := by decide +kernel
theorem dX4_card_76 : decode cX4_card 76 = .ok (.dup, 1) := by decide +kernel
theorem dX4_card_77 : decode cX4_card 77 = .ok (.iload_n 1, 1) := by decide +kernel
theorem dX4_card_78 : decode cX4_card 78 = .ok (.iload_n 2, 1) := by decide +kernel
theorem dX4_card_79 : decode cX4_card 79 = .ok (.iload_n 3, 1) := by decide +kernel
theorem dX4_card_80 : decode cX4_card 80 = .ok (.iload 4, 2) := by decide +kernel
theorem dX4_card_82 : decode cX4_card 82 = .ok (.invokespecial 47, 3) := by decide +kernel
theorem dX4_card_85 : decode cX4_card 85 = .ok (.aastore, 1) := by decide +kernel
theorem dX4_card_86 : decode cX4_card 86 = .ok (.aload_n 0, 1) := by decide +kernel
theorem dX4_card_87 : decode cX4_card 87 = .ok (.iload 5, 2) := by decide +kernel
theorem dX4_card_89 : decode cX4_card 89 = .ok (.iconst 1, 1) := by decide +kernel
theorem dX4_card_90 : decode cX4_card 90 = .ok (.iadd, 1) := by decide +kernel
theorem dX4_card_91 : decode cX4_card 91 = .ok (.putfield 38, 3) := by decide +kernel
theorem dX4_card_94 : decode cX4_card 94 = .ok (.iload 5, 2) := by decide +kernel
theorem dX4_card_96 : decode cX4_card 96 = .ok (.ireturn, 1) := by decide +kernel
set_option maxRecDepth 20000 in
theorem ggX4_variant_X4_isSetOfCards : GoodIn wsX4_variant wsX4_isSetOfCards := goodIn_r _ [19, 20, 35, 36, 37, 38, 39, 40] (by decide +kernel) (by decide +kernel)
set_option maxRecDepth 20000 in
theorem gX4_variant_X4_isSetOfCards : GoodIn wsX4_variant (wsV RX4 51 RX4 yX4_isSetOfCards wsX4_isSetOfCards) := goodIn_app (goodIn_of _ (by decide +kernel)) ggX4_variant_X4_isSetOfCards
set_option maxRecDepth 20000 in
theorem ggX4_variant_X2_init : GoodIn wsX4_variant wsX2_init := goodIn_r _ [23, 24, 25, 26, 27, 28, 29, 44, 45, 46] (by decide +kernel) (by decide +kernel)
set_option maxRecDepth 20000 in
theorem gX4_variant_X2_init : GoodIn wsX4_variant (wsX2_init) := ggX4_variant_X2_init
set_option maxRecDepth 20000 in
theorem ggX4_variant_X3_init : GoodIn wsX4_variant wsX3_init := goodIn_r _ [32, 33, 25, 26, 34, 41, 42, 43] (by decide +kernel) (by decide +kernel)
set_option maxRecDepth 20000 in
theorem gX4_variant_X3_init : GoodIn wsX4_variant (wsX3_init) := ggX4_variant_X3_init
theorem dX4_variant_0 : decode cX4_variant 0 = .ok (.iload_n 1, 1) := by decide +kernel
theorem dX4_variant_1 : decode cX4_variant 1 = .ok (.ifCond .lt 17, 3) := by decide +kernel
theorem dX4_variant_4 : decode cX4_variant 4 = .ok (.iload_n 1, 1) := by decide +kernel
theorem dX4_variant_5 : decode cX4_variant 5 = .ok (.ldc 50, 2) := by decide +kernel
theorem dX4_variant_7 : decode cX4_variant 7 = .ok (.if_icmp .gt 11, 3) := by decide +kernel
theorem dX4_variant_10 : decode cX4_variant 10 = .ok (.aload_n 0, 1) := by decide +kernel
theorem dX4_variant_11 : decode cX4_variant 11 = .ok (.iload_n 2, 1) := by decide +kernel
theorem dX4_variant_12 : decode cX4_variant 12 = .ok (.invokevirtual 51, 3) := by decide +kernel
theorem dX4_variant_15 : decode cX4_variant 15 = .ok (.ifCond .ne 13, 3) := by decide +kernel
theorem dX4_variant_18 : decode cX4_variant 18 = .ok (.new 31, 3) := by decide +kernel
theorem dX4_variant_21 : decode cX4_variant 21 = .ok (.dup, 1) := by decide +kernel
theorem dX4_variant_22 : decode cX4_variant 22 = .ok (.ldc 55, 2) := by decide +kernel
theorem dX4_variant_24 : decode cX4_variant 24 = .ok (.invokespecial 35, 3) := by decide +kernel
theorem dX4_variant_27 : decode cX4_variant 27 = .ok (.athrow, 1) := by decide +kernel
theorem dX4_variant_28 : decode cX4_variant 28 = .ok (.aload_n 0, 1) := by decide +kernel
theorem dX4_variant_29 : decode cX4_variant 29 = .ok (.getfield 57, 3) := by decide +kernel
theorem dX4_variant_32 : decode cX4_variant 32 = .ok (.aload_n 0, 1) := by decide +kernel
theorem dX4_variant_33 : decode cX4_variant 33 = .ok (.getfield 17, 3) := by decide +kernel
theorem dX4_variant_36 : decode cX4_variant 36 = .ok (.arraylength, 1) := by decide +kernel
theorem dX4_variant_37 : decode cX4_variant 37 = .ok (.if_icmp .lt 13, 3) := by decide +kernel
theorem dX4_variant_40 : decode cX4_variant 40 = .ok (.new 42, 3) := by decide +kernel
theorem dX4_variant_43 : decode cX4_variant 43 = .ok (.dup, 1) := by decide +kernel
theorem dX4_variant_44 : decode cX4_variant 44 = .ok (.ldc 60, 2) := by decide +kernel
theorem dX4_variant_46 : decode cX4_variant 46 = .ok (.invokespecial 46, 3) := by decide +kernel
theorem dX4_variant_49 : decode cX4_variant 49 = .ok (.athrow, 1) := by decide +kernel
theorem dX4_variant_50 : decode cX4_variant 50 = .ok (.aload_n 0, 1) := by decide +kernel
theorem dX4_variant_51 : decode cX4_variant 51 = .ok (.getfield 57, 3) := by decide +kernel
theorem dX4_variant_54 : decode cX4_variant 54 = .ok (.istore_n 3, 1) := by decide +kernel
theorem dX4_variant_55 : decode cX4_variant 55 = .ok (.aload_n 0, 1) := by decide +kernel
theorem dX4_variant_56 : decode cX4_variant 56 = .ok (.getfield 17, 3) := by decide +kernel
theorem dX4_variant_59 : decode cX4_variant 59 = .ok (.iload_n 3, 1) := by decide +kernel
theorem dX4_variant_60 : decode cX4_variant 60 = .ok (.new 15, 3) := by decide +kernel
theorem dX4_variant_63 : decode cX4_variant 63 = .ok (.dup, 1) := by decide +kernel
theorem dX4_variant_64 : decode cX4_variant 64 = .ok (.new 62, 3) := by decide +kernel
theorem dX4_variant_67 : decode cX4_variant 67 = .ok (.dup, 1) := by decide +kernel
theorem dX4_variant_68 : decode cX4_variant 68 = .ok (.aload_n 0, 1) := by decide +kernel
theorem dX4_variant_69 : decode cX4_variant 69 = .ok (.getfield 11, 3) := by decide +kernel
theorem dX4_variant_72 : decode cX4_variant 72 = .ok (.iload_n 2, 1) := by decide +kernel
theorem dX4_variant_73 : decode cX4_variant 73 = .ok (.iload_n 1, 1) := by decide +kernel
theorem dX4_variant_74 : decode cX4_variant 74 = .ok (.invokespecial 64, 3) := by decide +kernel
theorem dX4_variant_77 : decode cX4_variant 77 = .ok (.invokespecial 67, 3) := by decide +kernel
theorem dX4_variant_80 : decode cX4_variant 80 = .ok (.aastore, 1) := by decide +kernel
theorem dX4_variant_81 : decode cX4_variant 81 = .ok (.aload_n 0, 1) := by decide +kernel
theorem dX4_variant_82 : decode cX4_variant 82 = .ok (.iload_n 3, 1) := by decide +kernel
theorem dX4_variant_83 : decode cX4_variant 83 = .ok (.iconst 1, 1) := by decide +kernel
theorem dX4_variant_84 : decode cX4_variant 84 = .ok (.iadd, 1) := by decide +kernel
theorem dX4_variant_85 : decode cX4_variant 85 = .ok (.putfield 57, 3) := by decide +kernel
theorem dX4_variant_88 : decode cX4_variant 88 = .ok (.iload_n 3, 1) := by decide +kernel
theorem dX4_variant_89 : decode cX4_variant 89 = .ok (.ireturn, 1) := by decide +kernel
set_option maxRecDepth 20000 in
theorem ggX4_setCards_X4_variantAt : GoodIn wsX4_setCards wsX4_variantAt := goodIn_ca (goodIn_r _ [14, 15, 16, 17, 38, 39, 40, 41, 42, 43] (by decide +kernel) (by decide +kernel)) (goodIn_sub (fun _ h => List.mem_cons_of_mem _ (List.mem_append_right _ h)) (by decide +kernel))
set_option maxRecDepth 20000 in
theorem gX4_setCards_X4_variantAt : GoodIn wsX4_setCards (wsV RX4 70 RX4 yX4_variantAt wsX4_variantAt) := goodIn_app (goodIn_of _ (by decide +kernel)) ggX4_setCards_X4_variantAt
set_option maxRecDepth 20000 in
theorem ggX4_setCards_X4_isSetOfCards : GoodIn wsX4_setCards wsX4_isSetOfCards := goodIn_r _ [21, 22, 38, 39, 40, 41, 42, 43] (by decide +kernel) (by decide +kernel)
set_option maxRecDepth 20000 in
theorem gX4_setCards_X4_isSetOfCards : GoodIn wsX4_setCards (wsV RX4 51 RX4 yX4_isSetOfCards wsX4_isSetOfCards) := goodIn_app (goodIn_of _ (by decide +kernel)) ggX4_setCards_X4_isSetOfCards
set_option maxRecDepth 20000 in
theorem ggX4_setCards_X2_init : GoodIn wsX4_setCards wsX2_init := goodIn_r _ [25, 26, 27, 28, 29, 30, 31, 35, 36, 37] (by decide +kernel) (by decide +kernel)
set_option maxRecDepth 20000 in
theorem gX4_setCards_X2_init : GoodIn wsX4_setCards (wsX2_init) := ggX4_setCards_X2_init
theorem dX4_setCards_0 : decode cX4_setCards 0 = .ok (.aload_n 0, 1) := by decide +kernel
theorem dX4_setCards_1 : decode cX4_setCards 1 = .ok (.iload_n 1, 1) := by decide +kernel
theorem dX4_setCards_2 : decode cX4_setCards 2 = .ok (.invokevirtual 70, 3) := by decide +kernel
theorem dX4_setCards_5 : decode cX4_setCards 5 = .ok (.astore_n 3, 1) := by decide +kernel
theorem dX4_setCards_6 : decode cX4_setCards 6 = .ok (.aload_n 0, 1) := by decide +kernel
theorem dX4_setCards_7 : decode cX4_setCards 7 = .ok (.iload_n 2, 1) := by decide +kernel
theorem dX4_setCards_8 : decode cX4_setCards 8 = .ok (.invokevirtual 51, 3) := by decide +kernel
theorem dX4_setCards_11 : decode cX4_setCards 11 = .ok (.ifCond .ne 13, 3) := by decide +kernel
theorem dX4_setCards_14 : decode cX4_setCards 14 = .ok (.new 31, 3) := by decide +kernel
theorem dX4_setCards_17 : decode cX4_setCards 17 = .ok (.dup, 1) := by decide +kernel
theorem dX4_setCards_18 : decode cX4_setCards 18 = .ok (.ldc 74, 2) := by decide +kernel
theorem dX4_setCards_20 : decode cX4_setCards 20 = .ok (.invokespecial 35, 3) := by decide +kernel
theorem dX4_setCards_23 : decode cX4_setCards 23 = .ok (.athrow, 1) := by decide +kernel
theorem dX4_setCards_24 : decode cX4_setCards 24 = .ok (.aload_n 3, 1) := by decide +kernel
theorem dX4_setCards_25 : decode cX4_setCards 25 = .ok (.getfield 76, 3) := by decide +kernel
theorem dX4_setCards_28 : decode cX4_setCards 28 = .ok (.astore 4, 2) := by decide +kernel
theorem dX4_setCards_30 : decode cX4_setCards 30 = .ok (.aload_n 3, 1) := by decide +kernel
theorem dX4_setCards_31 : decode cX4_setCards 31 = .ok (.new 62, 3) := by decide +kernel
theorem dX4_setCards_34 : decode cX4_setCards 34 = .ok (.dup, 1) := by decide +kernel
theorem dX4_setCards_35 : decode cX4_setCards 35 = .ok (.aload_n 0, 1) := by decide +kernel
theorem dX4_setCards_36 : decode cX4_setCards 36 = .ok (.getfield 11, 3) := by decide +kernel
theorem dX4_setCards_39 : decode cX4_setCards 39 = .ok (.iload_n 2, 1) := by decide +kernel
theorem dX4_setCards_40 : decode cX4_setCards 40 = .ok (.aload 4, 2) := by decide +kernel
theorem dX4_setCards_42 : decode cX4_setCards 42 = .ok (.getfield 80, 3) := by decide +kernel
theorem dX4_setCards_45 : decode cX4_setCards 45 = .ok (.invokespecial 64, 3) := by decide +kernel
theorem dX4_setCards_48 : decode cX4_setCards 48 = .ok (.putfield 76, 3) := by decide +kernel
theorem dX4_setCards_51 : decode cX4_setCards 51 = .ok (.aload 4, 2) := by decide +kernel
theorem dX4_setCards_53 : decode cX4_setCards 53 = .ok (.getfield 83, 3) := by decide +kernel
theorem dX4_setCards_56 : decode cX4_setCards 56 = .ok (.ireturn, 1) := by decide +kernel
set_option maxRecDepth 20000 in
theorem ggX4_begin_X4_variantAt : GoodIn wsX4_begin wsX4_variantAt := goodIn_ca (goodIn_r _ [15, 16, 17, 18, 93, 94, 95, 96, 97, 98] (by decide +kernel) (by decide +kernel)) (goodIn_sub (fun _ h => List.mem_cons_of_mem _ (List.mem_append_right _ h)) (by decide +kernel))
set_option maxRecDepth 20000 in
theorem gX4_begin_X4_variantAt : GoodIn wsX4_begin (wsV RX4 70 RX4 yX4_variantAt wsX4_variantAt) := goodIn_app (goodIn_of _ (by decide +kernel)) ggX4_begin_X4_variantAt
set_option maxRecDepth 20000 in
theorem ggX4_begin_X4_checkPlayer : GoodIn wsX4_begin wsX4_checkPlayer := goodIn_ca (goodIn_r _ [21, 16, 17] (by decide +kernel) (by decide +kernel)) (goodIn_sub (fun _ h => List.mem_cons_of_mem _ (List.mem_append_right _ h)) (by decide +kernel))
set_option maxRecDepth 20000 in
theorem gX4_begin_X4_checkPlayer : GoodIn wsX4_begin (va_wsS RX4 86 yX4_checkPlayer wsX4_checkPlayer) := goodIn_app (goodIn_of _ (by decide +kernel)) ggX4_begin_X4_checkPlayer
set_option maxRecDepth 20000 in
theorem ggX4_begin_X2_canHold : GoodIn wsX4_begin wsX2_canHold := goodIn_r _ [26, 27, 28, 29, 30, 31, 32, 33, 34, 35, 108, 109, 110] (by decide +kernel) (by decide +kernel)
set_option maxRecDepth 20000 in
theorem gX4_begin_X2_canHold : GoodIn wsX4_begin (wsV RX4 90 RX2 yX2_canHold wsX2_canHold) := goodIn_app (goodIn_of _ (by decide +kernel)) ggX4_begin_X2_canHold
set_option maxRecDepth 20000 in
theorem ggX4_begin_X3_isOut : GoodIn wsX4_begin wsX3_isOut := goodIn_r _ [40, 41, 42, 43, 30, 31, 32, 33, 34, 35, 90, 91, 92] (by decide +kernel) (by decide +kernel)
set_option maxRecDepth 20000 in
theorem gX4_begin_X3_isOut : GoodIn wsX4_begin (wsV RX4 95 RX3 yX3_isOut wsX3_isOut) := goodIn_app (goodIn_of _ (by decide +kernel)) ggX4_begin_X3_isOut
set_option maxRecDepth 20000 in
theorem ggX4_begin_X2_hasMove : GoodIn wsX4_begin wsX2_hasMove := goodIn_r _ [47, 48, 49, 50, 25, 51, 52, 53, 28, 54, 14, 55, 56, 57, 58, 59, 60, 61, 62, 63, 64, 65, 66, 67, 68, 69, 70, 108, 109, 110, 111, 112, 113, 114] (by decide +kernel) (by decide +kernel)
set_option maxRecDepth 20000 in
theorem gX4_begin_X2_hasMove : GoodIn wsX4_begin (wsV RX4 102 RX2 yX2_hasMove wsX2_hasMove) := goodIn_app (goodIn_of _ (by decide +kernel)) ggX4_begin_X2_hasMove
set_option maxRecDepth 20000 in
theorem ggX4_begin_X1_init : GoodIn wsX4_begin wsX1_init := goodIn_r _ [73, 74, 75, 76, 77, 78, 79, 80, 81, 82, 83, 84, 85, 86, 87, 88, 10, 89, 99, 100, 101, 102, 103, 104, 105, 106, 107, 90, 91, 92] (by decide +kernel) (by decide +kernel)
set_option maxRecDepth 20000 in
theorem gX4_begin_X1_init : GoodIn wsX4_begin (wsX1_init) := ggX4_begin_X1_init
theorem dX4_begin_0 : decode cX4_begin 0 = .ok (.aload_n 0, 1) := by decide +kernel
theorem dX4_begin_1 : decode cX4_begin 1 = .ok (.iload_n 1, 1) := by decide +kernel
theorem dX4_begin_2 : decode cX4_begin 2 = .ok (.invokevirtual 70, 3) := by decide +kernel
theorem dX4_begin_5 : decode cX4_begin 5 = .ok (.astore 6, 2) := by decide +kernel
theorem dX4_begin_7 : decode cX4_begin 7 = .ok (.iload_n 2, 1) := by decide +kernel
theorem dX4_begin_8 : decode cX4_begin 8 = .ok (.invokestatic 86, 3) := by decide +kernel
theorem dX4_begin_11 : decode cX4_begin 11 = .ok (.iload_n 3, 1) := by decide +kernel
theorem dX4_begin_12 : decode cX4_begin 12 = .ok (.invokestatic 86, 3) := by decide +kernel
theorem dX4_begin_15 : decode cX4_begin 15 = .ok (.aload 6, 2) := by decide +kernel
theorem dX4_begin_17 : decode cX4_begin 17 = .ok (.getfield 76, 3) := by decide +kernel
theorem dX4_begin_20 : decode cX4_begin 20 = .ok (.astore 7, 2) := by decide +kernel
theorem dX4_begin_22 : decode cX4_begin 22 = .ok (.iload_n 2, 1) := by decide +kernel
theorem dX4_begin_23 : decode cX4_begin 23 = .ok (.iload_n 3, 1) := by decide +kernel
theorem dX4_begin_24 : decode cX4_begin 24 = .ok (.if_icmp .eq 31, 3) := by decide +kernel
theorem dX4_begin_27 : decode cX4_begin 27 = .ok (.aload 7, 2) := by decide +kernel
theorem dX4_begin_29 : decode cX4_begin 29 = .ok (.iload 4, 2) := by decide +kernel
theorem dX4_begin_31 : decode cX4_begin 31 = .ok (.invokevirtual 90, 3) := by decide +kernel
theorem dX4_begin_34 : decode cX4_begin 34 = .ok (.ifCond .eq 21, 3) := by decide +kernel
theorem dX4_begin_37 : decode cX4_begin 37 = .ok (.aload 7, 2) := by decide +kernel
theorem dX4_begin_39 : decode cX4_begin 39 = .ok (.iload 5, 2) := by decide +kernel
theorem dX4_begin_41 : decode cX4_begin 41 = .ok (.invokevirtual 90, 3) := by decide +kernel
theorem dX4_begin_44 : decode cX4_begin 44 = .ok (.ifCond .eq 11, 3) := by decide +kernel
theorem dX4_begin_47 : decode cX4_begin 47 = .ok (.iload 4, 2) := by decide +kernel
theorem dX4_begin_49 : decode cX4_begin 49 = .ok (.iload 5, 2) := by decide +kernel
theorem dX4_begin_51 : decode cX4_begin 51 = .ok (.iand, 1) := by decide +kernel
theorem dX4_begin_52 : decode cX4_begin 52 = .ok (.ifCond .eq 13, 3) := by decide +kernel
theorem dX4_begin_55 : decode cX4_begin 55 = .ok (.new 31, 3) := by decide +kernel
theorem dX4_begin_58 : decode cX4_begin 58 = .ok (.dup, 1) := by decide +kernel
theorem dX4_begin_59 : decode cX4_begin 59 = .ok (.ldc 93, 2) := by decide +kernel
theorem dX4_begin_61 : decode cX4_begin 61 = .ok (.invokespecial 35, 3) := by decide +kernel
theorem dX4_begin_64 : decode cX4_begin 64 = .ok (.athrow, 1) := by decide +kernel
theorem dX4_begin_65 : decode cX4_begin 65 = .ok (.aload 6, 2) := by decide +kernel
theorem dX4_begin_67 : decode cX4_begin 67 = .ok (.invokevirtual 95, 3) := by decide +kernel
theorem dX4_begin_70 : decode cX4_begin 70 = .ok (.ifCond .ne 28, 3) := by decide +kernel
theorem dX4_begin_73 : decode cX4_begin 73 = .ok (.aload_n 0, 1) := by decide +kernel
theorem dX4_begin_74 : decode cX4_begin 74 = .ok (.getfield 99, 3) := by decide +kernel
theorem dX4_begin_77 : decode cX4_begin 77 = .ok (.aload_n 0, 1) := by decide +kernel
theorem dX4_begin_78 : decode cX4_begin 78 = .ok (.getfield 23, 3) := by decide +kernel
theorem dX4_begin_81 : decode cX4_begin 81 = .ok (.arraylength, 1) := by decide +kernel
theorem dX4_begin_82 : decode cX4_begin 82 = .ok (.if_icmp .ge 16, 3) := by decide +kernel
theorem dX4_begin_85 : decode cX4_begin 85 = .ok (.aload 7, 2) := by decide +kernel
theorem dX4_begin_87 : decode cX4_begin 87 = .ok (.iload 4, 2) := by decide +kernel
theorem dX4_begin_89 : decode cX4_begin 89 = .ok (.iload 5, 2) := by decide +kernel
theorem dX4_begin_91 : decode cX4_begin 91 = .ok (.iconst 0, 1) := by decide +kernel
theorem dX4_begin_92 : decode cX4_begin 92 = .ok (.invokevirtual 102, 3) := by decide +kernel
theorem dX4_begin_95 : decode cX4_begin 95 = .ok (.ifCond .ne 13, 3) := by decide +kernel
theorem dX4_begin_98 : decode cX4_begin 98 = .ok (.new 42, 3) := by decide +kernel
theorem dX4_begin_101 : decode cX4_begin 101 = .ok (.dup, 1) := by decide +kernel
theorem dX4_begin_102 : decode cX4_begin 102 = .ok (.ldc 106, 2) := by decide +kernel
theorem dX4_begin_104 : decode cX4_begin 104 = .ok (.invokespecial 46, 3) := by decide +kernel
theorem dX4_begin_107 : decode cX4_begin 107 = .ok (.athrow, 1) := by decide +kernel
theorem dX4_begin_108 : decode cX4_begin 108 = .ok (.aload_n 0, 1) := by decide +kernel
theorem dX4_begin_109 : decode cX4_begin 109 = .ok (.getfield 99, 3) := by decide +kernel
theorem dX4_begin_112 : decode cX4_begin 112 = .ok (.istore 8, 2) := by decide +kernel
theorem dX4_begin_114 : decode cX4_begin 114 = .ok (.aload_n 0, 1) := by decide +kernel
theorem dX4_begin_115 : decode cX4_begin 115 = .ok (.getfield 23, 3) := by decide +kernel
theorem dX4_begin_118 : decode cX4_begin 118 = .ok (.iload 8, 2) := by decide +kernel
theorem dX4_begin_120 : decode cX4_begin 120 = .ok (.new 21, 3) := by decide +kernel
theorem dX4_begin_123 : decode cX4_begin 123 = .ok (.dup, 1) := by decide +kernel
theorem dX4_begin_124 : decode cX4_begin 124 = .ok (.aload 6, 2) := by decide +kernel
theorem dX4_begin_126 : decode cX4_begin 126 = .ok (.iload_n 2, 1) := by decide +kernel
theorem dX4_begin_127 : decode cX4_begin 127 = .ok (.iload_n 3, 1) := by decide +kernel
theorem dX4_begin_128 : decode cX4_begin 128 = .ok (.iload 4, 2) := by decide +kernel
theorem dX4_begin_130 : decode cX4_begin 130 = .ok (.iload 5, 2) := by decide +kernel
theorem dX4_begin_132 : decode cX4_begin 132 = .ok (.invokespecial 108, 3) := by decide +kernel
theorem dX4_begin_135 : decode cX4_begin 135 = .ok (.aastore, 1) := by decide +kernel
theorem dX4_begin_136 : decode cX4_begin 136 = .ok (.aload_n 0, 1) := by decide +kernel
theorem dX4_begin_137 : decode cX4_begin 137 = .ok (.iload 8, 2) := by decide +kernel
theorem dX4_begin_139 : decode cX4_begin 139 = .ok (.iconst 1, 1) := by decide +kernel
theorem dX4_begin_140 : decode cX4_begin 140 = .ok (.iadd, 1) := by decide +kernel
theorem dX4_begin_141 : decode cX4_begin 141 = .ok (.putfield 99, 3) := by decide +kernel
theorem dX4_begin_144 : decode cX4_begin 144 = .ok (.iload 8, 2) := by decide +kernel
theorem dX4_begin_146 : decode cX4_begin 146 = .ok (.ireturn, 1) := by decide +kernel
set_option maxRecDepth 20000 in
theorem ggX4_can_X4_gameAt : GoodIn wsX4_can wsX4_gameAt := goodIn_ca (goodIn_r _ [5, 6, 7, 8, 59, 60, 61, 62, 63, 64] (by decide +kernel) (by decide +kernel)) (goodIn_sub (fun _ h => List.mem_cons_of_mem _ (List.mem_append_right _ h)) (by decide +kernel))
set_option maxRecDepth 20000 in
theorem gX4_can_X4_gameAt : GoodIn wsX4_can (wsV RX4 111 RX4 yX4_gameAt wsX4_gameAt) := goodIn_app (goodIn_of _ (by decide +kernel)) ggX4_can_X4_gameAt
set_option maxRecDepth 20000 in
theorem ggX4_can_X4_checkCell : GoodIn wsX4_can wsX4_checkCell := goodIn_ca (goodIn_r _ [11, 6, 7] (by decide +kernel) (by decide +kernel)) (goodIn_sub (fun _ h => List.mem_cons_of_mem _ (List.mem_append_right _ h)) (by decide +kernel))
set_option maxRecDepth 20000 in
theorem gX4_can_X4_checkCell : GoodIn wsX4_can (va_wsS RX4 115 yX4_checkCell wsX4_checkCell) := goodIn_app (goodIn_of _ (by decide +kernel)) ggX4_can_X4_checkCell
set_option maxRecDepth 20000 in
theorem ggX4_can_X1_allows : GoodIn wsX4_can wsX1_allows := goodIn_r _ [16, 17, 18, 19, 20, 21, 22, 23, 15, 24, 25, 26, 27, 28, 29, 30, 4, 31, 32, 33, 34, 35, 36, 37, 38, 39, 40, 41, 42, 43, 44, 45, 46, 47, 48, 49, 50, 51, 52, 53, 54, 55, 56, 57, 58, 65, 66, 67, 68, 69, 70, 71, 72, 73, 74, 75, 76, 77, 78, 79, 80] (by decide +kernel) (by decide +kernel)
set_option maxRecDepth 20000 in
theorem gX4_can_X1_allows : GoodIn wsX4_can (wsV RX4 118 RX1 yX1_allows wsX1_allows) := goodIn_app (goodIn_of _ (by decide +kernel)) ggX4_can_X1_allows
theorem dX4_can_0 : decode cX4_can 0 = .ok (.aload_n 0, 1) := by decide +kernel
theorem dX4_can_1 : decode cX4_can 1 = .ok (.iload_n 1, 1) := by decide +kernel
theorem dX4_can_2 : decode cX4_can 2 = .ok (.invokevirtual 111, 3) := by decide +kernel
theorem dX4_can_5 : decode cX4_can 5 = .ok (.astore 4, 2) := by decide +kernel
theorem dX4_can_7 : decode cX4_can 7 = .ok (.iload_n 2, 1) := by decide +kernel
theorem dX4_can_8 : decode cX4_can 8 = .ok (.invokestatic 115, 3) := by decide +kernel
theorem dX4_can_11 : decode cX4_can 11 = .ok (.iload_n 3, 1) := by decide +kernel
theorem dX4_can_12 : decode cX4_can 12 = .ok (.invokestatic 115, 3) := by decide +kernel
theorem dX4_can_15 : decode cX4_can 15 = .ok (.aload 4, 2) := by decide +kernel
theorem dX4_can_17 : decode cX4_can 17 = .ok (.iload_n 2, 1) := by decide +kernel
theorem dX4_can_18 : decode cX4_can 18 = .ok (.iload_n 3, 1) := by decide +kernel
theorem dX4_can_19 : decode cX4_can 19 = .ok (.invokevirtual 118, 3) := by decide +kernel
theorem dX4_can_22 : decode cX4_can 22 = .ok (.ireturn, 1) := by decide +kernel
set_option maxRecDepth 20000 in
theorem ggX4_canByAll_X4_gameAt : GoodIn wsX4_canByAll wsX4_gameAt := goodIn_ca (goodIn_r _ [6, 7, 8, 9, 69, 70, 71, 72, 73, 74] (by decide +kernel) (by decide +kernel)) (goodIn_sub (fun _ h => List.mem_cons_of_mem _ (List.mem_append_right _ h)) (by decide +kernel))
set_option maxRecDepth 20000 in
theorem gX4_canByAll_X4_gameAt : GoodIn wsX4_canByAll (wsV RX4 111 RX4 yX4_gameAt wsX4_gameAt) := goodIn_app (goodIn_of _ (by decide +kernel)) ggX4_canByAll_X4_gameAt
set_option maxRecDepth 20000 in
theorem ggX4_canByAll_X4_checkCell : GoodIn wsX4_canByAll wsX4_checkCell := goodIn_ca (goodIn_r _ [12, 7, 8] (by decide +kernel) (by decide +kernel)) (goodIn_sub (fun _ h => List.mem_cons_of_mem _ (List.mem_append_right _ h)) (by decide +kernel))
set_option maxRecDepth 20000 in
theorem gX4_canByAll_X4_checkCell : GoodIn wsX4_canByAll (va_wsS RX4 115 yX4_checkCell wsX4_checkCell) := goodIn_app (goodIn_of _ (by decide +kernel)) ggX4_canByAll_X4_checkCell
set_option maxRecDepth 20000 in
theorem ggX4_canByAll_X4_isAmongAllMoves : GoodIn wsX4_canByAll wsX4_isAmongAllMoves := goodIn_r _ [15, 16, 17, 18, 19, 20, 21, 22, 23, 24, 25, 26, 27, 28, 29, 30, 31, 32, 33, 34, 35, 36, 37, 38, 39, 40, 41, 42, 5, 43, 44, 45, 46, 47, 48, 49, 50, 51, 52, 53, 54, 55, 56, 57, 58, 59, 60, 61, 62, 63, 64, 65, 66, 67, 68, 75, 76, 77, 78, 79, 80, 81] (by decide +kernel) (by decide +kernel)
set_option maxRecDepth 20000 in
theorem gX4_canByAll_X4_isAmongAllMoves : GoodIn wsX4_canByAll (va_wsS RX4 124 yX4_isAmongAllMoves wsX4_isAmongAllMoves) := goodIn_app (goodIn_of _ (by decide +kernel)) ggX4_canByAll_X4_isAmongAllMoves
theorem dX4_canByAll_0 : decode cX4_canByAll 0 = .ok (.aload_n 0, 1) := by decide +kernel
theorem dX4_canByAll_1 : decode cX4_canByAll 1 = .ok (.iload_n 1, 1) := by decide +kernel
theorem dX4_canByAll_2 : decode cX4_canByAll 2 = .ok (.invokevirtual 111, 3) := by decide +kernel
theorem dX4_canByAll_5 : decode cX4_canByAll 5 = .ok (.astore 4, 2) := by decide +kernel
theorem dX4_canByAll_7 : decode cX4_canByAll 7 = .ok (.iload_n 2, 1) := by decide +kernel
theorem dX4_canByAll_8 : decode cX4_canByAll 8 = .ok (.invokestatic 115, 3) := by decide +kernel
theorem dX4_canByAll_11 : decode cX4_canByAll 11 = .ok (.iload_n 3, 1) := by decide +kernel
theorem dX4_canByAll_12 : decode cX4_canByAll 12 = .ok (.invokestatic 115, 3) := by decide +kernel
theorem dX4_canByAll_15 : decode cX4_canByAll 15 = .ok (.aload 4, 2) := by decide +kernel
theorem dX4_canByAll_17 : decode cX4_canByAll 17 = .ok (.getfield 121, 3) := by decide +kernel
theorem dX4_canByAll_20 : decode cX4_canByAll 20 = .ok (.ifCond .ne 17, 3) := by decide +kernel
theorem dX4_canByAll_23 : decode cX4_canByAll 23 = .ok (.aload 4, 2) := by decide +kernel
theorem dX4_canByAll_25 : decode cX4_canByAll 25 = .ok (.iload_n 2, 1) := by decide +kernel
theorem dX4_canByAll_26 : decode cX4_canByAll 26 = .ok (.iload_n 3, 1) := by decide +kernel
theorem dX4_canByAll_27 : decode cX4_canByAll 27 = .ok (.invokestatic 124, 3) := by decide +kernel
theorem dX4_canByAll_30 : decode cX4_canByAll 30 = .ok (.ifCond .eq 7, 3) := by decide +kernel
theorem dX4_canByAll_33 : decode cX4_canByAll 33 = .ok (.iconst 1, 1) := by decide +kernel
theorem dX4_canByAll_34 : decode cX4_canByAll 34 = .ok (.goto 4, 3) := by decide +kernel
theorem dX4_canByAll_37 : decode cX4_canByAll 37 = .ok (.iconst 0, 1) := by decide +kernel
theorem dX4_canByAll_38 : decode cX4_canByAll 38 = .ok (.ireturn, 1) := by decide +kernel
set_option maxRecDepth 20000 in
theorem ggX4_move_X4_gameAt : GoodIn wsX4_move wsX4_gameAt := goodIn_ca (goodIn_r _ [9, 10, 11, 12, 122, 123, 124, 125, 126, 127] (by decide +kernel) (by decide +kernel)) (goodIn_sub (fun _ h => List.mem_cons_of_mem _ (List.mem_append_right _ h)) (by decide +kernel))
set_option maxRecDepth 20000 in
theorem gX4_move_X4_gameAt : GoodIn wsX4_move (wsV RX4 111 RX4 yX4_gameAt wsX4_gameAt) := goodIn_app (goodIn_of _ (by decide +kernel)) ggX4_move_X4_gameAt
set_option maxRecDepth 20000 in
theorem ggX4_move_X4_checkCell : GoodIn wsX4_move wsX4_checkCell := goodIn_ca (goodIn_r _ [15, 10, 11] (by decide +kernel) (by decide +kernel)) (goodIn_sub (fun _ h => List.mem_cons_of_mem _ (List.mem_append_right _ h)) (by decide +kernel))
set_option maxRecDepth 20000 in
theorem gX4_move_X4_checkCell : GoodIn wsX4_move (va_wsS RX4 115 yX4_checkCell wsX4_checkCell) := goodIn_app (goodIn_of _ (by decide +kernel)) ggX4_move_X4_checkCell
set_option maxRecDepth 20000 in
theorem ggX4_move_X3_isOut : GoodIn wsX4_move wsX3_isOut := goodIn_r _ [20, 21, 22, 23, 24, 25, 26, 27, 28, 29, 128, 129, 130] (by decide +kernel) (by decide +kernel)
set_option maxRecDepth 20000 in
theorem gX4_move_X3_isOut : GoodIn wsX4_move (wsV RX4 95 RX3 yX3_isOut wsX3_isOut) := goodIn_app (goodIn_of _ (by decide +kernel)) ggX4_move_X3_isOut
set_option maxRecDepth 20000 in
theorem ggX4_move_X1_allows : GoodIn wsX4_move wsX1_allows := goodIn_r _ [34, 35, 36, 37, 38, 39, 40, 41, 33, 42, 43, 44, 45, 46, 47, 48, 8, 49, 50, 51, 52, 53, 54, 55, 56, 57, 58, 59, 60, 61, 62, 63, 64, 65, 66, 67, 68, 69, 70, 71, 72, 73, 74, 75, 76, 113, 114, 115, 116, 117, 118, 119, 120, 121, 131, 132, 133, 134, 135, 136, 137] (by decide +kernel) (by decide +kernel)
set_option maxRecDepth 20000 in
theorem gX4_move_X1_allows : GoodIn wsX4_move (wsV RX4 118 RX1 yX1_allows wsX1_allows) := goodIn_app (goodIn_of _ (by decide +kernel)) ggX4_move_X1_allows
set_option maxRecDepth 20000 in
theorem ggX4_move_X1_go : GoodIn wsX4_move wsX1_go := goodIn_r _ [80, 37, 38, 47, 81, 39, 40, 41, 33, 42, 43, 44, 45, 46, 82, 8, 83, 84, 85, 86, 87, 88, 89, 90, 113, 114, 115, 116, 117, 118, 119, 120, 121] (by decide +kernel) (by decide +kernel)
set_option maxRecDepth 20000 in
theorem gX4_move_X1_go : GoodIn wsX4_move (wsV RX4 134 RX1 yX1_go wsX1_go) := goodIn_app (goodIn_of _ (by decide +kernel)) ggX4_move_X1_go
set_option maxRecDepth 20000 in
theorem ggX4_move_X1_settle : GoodIn wsX4_move wsX1_settle := goodIn_r _ [94, 36, 35, 95, 96, 47, 39, 40, 41, 33, 42, 38, 37, 43, 44, 45, 46, 84, 85, 86, 87, 97, 98, 99, 53, 100, 101, 102, 103, 104, 55, 56, 57, 48, 8, 49, 105, 106, 107, 61, 108, 76, 63, 64, 65, 66, 67, 68, 69, 70, 71, 109, 110, 111, 112, 81, 88, 89, 90, 113, 114, 115, 116, 117, 118, 119, 120, 121, 128, 129, 130, 131, 132, 133, 134, 135, 136, 137] (by decide +kernel) (by decide +kernel)
set_option maxRecDepth 20000 in
theorem gX4_move_X1_settle : GoodIn wsX4_move (wsV RX4 138 RX1 yX1_settle wsX1_settle) := goodIn_app (goodIn_of _ (by decide +kernel)) ggX4_move_X1_settle
theorem dX4_move_0 : decode cX4_move 0 = .ok (.aload_n 0, 1) := by decide +kernel
theorem dX4_move_1 : decode cX4_move 1 = .ok (.iload_n 1, 1) := by decide +kernel
theorem dX4_move_2 : decode cX4_move 2 = .ok (.invokevirtual 111, 3) := by decide +kernel
theorem dX4_move_5 : decode cX4_move 5 = .ok (.astore 4, 2) := by decide +kernel
theorem dX4_move_7 : decode cX4_move 7 = .ok (.iload_n 2, 1) := by decide +kernel
theorem dX4_move_8 : decode cX4_move 8 = .ok (.invokestatic 115, 3) := by decide +kernel
theorem dX4_move_11 : decode cX4_move 11 = .ok (.iload_n 3, 1) := by decide +kernel
theorem dX4_move_12 : decode cX4_move 12 = .ok (.invokestatic 115, 3) := by decide +kernel
theorem dX4_move_15 : decode cX4_move 15 = .ok (.aload 4, 2) := by decide +kernel
theorem dX4_move_17 : decode cX4_move 17 = .ok (.getfield 128, 3) := by decide +kernel
theorem dX4_move_20 : decode cX4_move 20 = .ok (.invokevirtual 95, 3) := by decide +kernel
theorem dX4_move_23 : decode cX4_move 23 = .ok (.ifCond .ne 13, 3) := by decide +kernel
theorem dX4_move_26 : decode cX4_move 26 = .ok (.aload 4, 2) := by decide +kernel
theorem dX4_move_28 : decode cX4_move 28 = .ok (.iload_n 2, 1) := by decide +kernel
theorem dX4_move_29 : decode cX4_move 29 = .ok (.iload_n 3, 1) := by decide +kernel
theorem dX4_move_30 : decode cX4_move 30 = .ok (.invokevirtual 118, 3) := by decide +kernel
theorem dX4_move_33 : decode cX4_move 33 = .ok (.ifCond .ne 13, 3) := by decide +kernel
theorem dX4_move_36 : decode cX4_move 36 = .ok (.new 42, 3) := by decide +kernel
theorem dX4_move_39 : decode cX4_move 39 = .ok (.dup, 1) := by decide +kernel
theorem dX4_move_40 : decode cX4_move 40 = .ok (.ldc 132, 2) := by decide +kernel
theorem dX4_move_42 : decode cX4_move 42 = .ok (.invokespecial 46, 3) := by decide +kernel
theorem dX4_move_45 : decode cX4_move 45 = .ok (.athrow, 1) := by decide +kernel
theorem dX4_move_46 : decode cX4_move 46 = .ok (.aload 4, 2) := by decide +kernel
theorem dX4_move_48 : decode cX4_move 48 = .ok (.iload_n 2, 1) := by decide +kernel
theorem dX4_move_49 : decode cX4_move 49 = .ok (.iload_n 3, 1) := by decide +kernel
theorem dX4_move_50 : decode cX4_move 50 = .ok (.invokevirtual 134, 3) := by decide +kernel
theorem dX4_move_53 : decode cX4_move 53 = .ok (.aload 4, 2) := by decide +kernel
theorem dX4_move_55 : decode cX4_move 55 = .ok (.invokevirtual 138, 3) := by decide +kernel
theorem dX4_move_58 : decode cX4_move 58 = .ok (.aload 4, 2) := by decide +kernel
theorem dX4_move_60 : decode cX4_move 60 = .ok (.getfield 121, 3) := by decide +kernel
theorem dX4_move_63 : decode cX4_move 63 = .ok (.ireturn, 1) := by decide +kernel
set_option maxRecDepth 20000 in
theorem ggX4_state_X4_gameAt : GoodIn wsX4_state wsX4_gameAt := goodIn_ca (goodIn_r _ [6, 7, 8, 9, 19, 20, 21, 22, 23, 24] (by decide +kernel) (by decide +kernel)) (goodIn_sub (fun _ h => List.mem_cons_of_mem _ (List.mem_append_right _ h)) (by decide +kernel))
set_option maxRecDepth 20000 in
theorem gX4_state_X4_gameAt : GoodIn wsX4_state (wsV RX4 111 RX4 yX4_gameAt wsX4_gameAt) := goodIn_app (goodIn_of _ (by decide +kernel)) ggX4_state_X4_gameAt
theorem dX4_state_0 : decode cX4_state 0 = .ok (.aload_n 0, 1) := by decide +kernel
theorem dX4_state_1 : decode cX4_state 1 = .ok (.iload_n 1, 1) := by decide +kernel
theorem dX4_state_2 : decode cX4_state 2 = .ok (.invokevirtual 111, 3) := by decide +kernel
theorem dX4_state_5 : decode cX4_state 5 = .ok (.getfield 121, 3) := by decide +kernel
theorem dX4_state_8 : decode cX4_state 8 = .ok (.ireturn, 1) := by decide +kernel
set_option maxRecDepth 20000 in
theorem ggX4_pieces_X4_gameAt : GoodIn wsX4_pieces wsX4_gameAt := goodIn_ca (goodIn_r _ [7, 8, 9, 10, 20, 21, 22, 23, 24, 25] (by decide +kernel) (by decide +kernel)) (goodIn_sub (fun _ h => List.mem_cons_of_mem _ (List.mem_append_right _ h)) (by decide +kernel))
set_option maxRecDepth 20000 in
theorem gX4_pieces_X4_gameAt : GoodIn wsX4_pieces (wsV RX4 111 RX4 yX4_gameAt wsX4_gameAt) := goodIn_app (goodIn_of _ (by decide +kernel)) ggX4_pieces_X4_gameAt
theorem dX4_pieces_0 : decode cX4_pieces 0 = .ok (.aload_n 0, 1) := by decide +kernel
theorem dX4_pieces_1 : decode cX4_pieces 1 = .ok (.iload_n 1, 1) := by decide +kernel
theorem dX4_pieces_2 : decode cX4_pieces 2 = .ok (.invokevirtual 111, 3) := by decide +kernel
theorem dX4_pieces_5 : decode cX4_pieces 5 = .ok (.astore_n 3, 1) := by decide +kernel
theorem dX4_pieces_6 : decode cX4_pieces 6 = .ok (.iload_n 2, 1) := by decide +kernel
theorem dX4_pieces_7 : decode cX4_pieces 7 = .ok (.ifCond .eq 10, 3) := by decide +kernel
theorem dX4_pieces_10 : decode cX4_pieces 10 = .ok (.aload_n 3, 1) := by decide +kernel
theorem dX4_pieces_11 : decode cX4_pieces 11 = .ok (.getfield 141, 3) := by decide +kernel
theorem dX4_pieces_14 : decode cX4_pieces 14 = .ok (.goto 7, 3) := by decide +kernel
theorem dX4_pieces_17 : decode cX4_pieces 17 = .ok (.aload_n 3, 1) := by decide +kernel
theorem dX4_pieces_18 : decode cX4_pieces 18 = .ok (.getfield 144, 3) := by decide +kernel
theorem dX4_pieces_21 : decode cX4_pieces 21 = .ok (.ireturn, 1) := by decide +kernel
set_option maxRecDepth 20000 in
theorem ggX4_made_X4_gameAt : GoodIn wsX4_made wsX4_gameAt := goodIn_ca (goodIn_r _ [6, 7, 8, 9, 19, 20, 21, 22, 23, 24] (by decide +kernel) (by decide +kernel)) (goodIn_sub (fun _ h => List.mem_cons_of_mem _ (List.mem_append_right _ h)) (by decide +kernel))
set_option maxRecDepth 20000 in
theorem gX4_made_X4_gameAt : GoodIn wsX4_made (wsV RX4 111 RX4 yX4_gameAt wsX4_gameAt) := goodIn_app (goodIn_of _ (by decide +kernel)) ggX4_made_X4_gameAt
theorem dX4_made_0 : decode cX4_made 0 = .ok (.aload_n 0, 1) := by decide +kernel
theorem dX4_made_1 : decode cX4_made 1 = .ok (.iload_n 1, 1) := by decide +kernel
theorem dX4_made_2 : decode cX4_made 2 = .ok (.invokevirtual 111, 3) := by decide +kernel
theorem dX4_made_5 : decode cX4_made 5 = .ok (.getfield 147, 3) := by decide +kernel
theorem dX4_made_8 : decode cX4_made 8 = .ok (.ireturn, 1) := by decide +kernel
set_option maxRecDepth 20000 in
theorem ggX4_value_X4_gameAt : GoodIn wsX4_value wsX4_gameAt := goodIn_ca (goodIn_r _ [6, 7, 8, 9, 89, 90, 91, 92, 93, 94] (by decide +kernel) (by decide +kernel)) (goodIn_sub (fun _ h => List.mem_cons_of_mem _ (List.mem_append_left _ (List.mem_append_right _ h))) (by decide +kernel))
set_option maxRecDepth 20000 in
theorem gX4_value_X4_gameAt : GoodIn wsX4_value (wsV RX4 111 RX4 yX4_gameAt wsX4_gameAt) := goodIn_app (goodIn_of _ (by decide +kernel)) ggX4_value_X4_gameAt
set_option maxRecDepth 20000 in
theorem ggX4_value_X4_checkDepth : GoodIn wsX4_value wsX4_checkDepth := goodIn_ca (goodIn_r _ [12, 13, 14] (by decide +kernel) (by decide +kernel)) (goodIn_sub (fun _ h => List.mem_cons_of_mem _ (List.mem_append_right _ h)) (by decide +kernel))
set_option maxRecDepth 20000 in
theorem gX4_value_X4_checkDepth : GoodIn wsX4_value (va_wsS RX4 150 yX4_checkDepth wsX4_checkDepth) := goodIn_app (goodIn_of _ (by decide +kernel)) ggX4_value_X4_checkDepth
set_option maxRecDepth 20000 in
theorem ggX4_value_X1_ofMover : GoodIn wsX4_value wsX1_ofMover := goodIn_r _ [19, 20, 21, 22, 23, 24, 18, 25, 26, 80, 81, 82, 83, 84, 85, 86, 87, 88] (by decide +kernel) (by decide +kernel)
set_option maxRecDepth 20000 in
theorem gX4_value_X1_ofMover : GoodIn wsX4_value (wsV RX4 154 RX1 yX1_ofMover wsX1_ofMover) := goodIn_app (goodIn_of _ (by decide +kernel)) ggX4_value_X1_ofMover
set_option maxRecDepth 20000 in
theorem ggX4_value_X1_ofWaiting : GoodIn wsX4_value wsX1_ofWaiting := goodIn_r _ [30, 21, 20, 22, 23, 24, 18, 25, 26, 80, 81, 82, 83, 84, 85, 86, 87, 88] (by decide +kernel) (by decide +kernel)
set_option maxRecDepth 20000 in
theorem gX4_value_X1_ofWaiting : GoodIn wsX4_value (wsV RX4 158 RX1 yX1_ofWaiting wsX1_ofWaiting) := goodIn_app (goodIn_of _ (by decide +kernel)) ggX4_value_X1_ofWaiting
set_option maxRecDepth 20000 in
theorem ggX4_value_X1_isSecondToMove : GoodIn wsX4_value wsX1_isSecondToMove := goodIn_r _ [25, 26, 80, 81, 82, 83, 84, 85, 86, 87, 88] (by decide +kernel) (by decide +kernel)
set_option maxRecDepth 20000 in
theorem gX4_value_X1_isSecondToMove : GoodIn wsX4_value (wsV RX4 161 RX1 yX1_isSecondToMove wsX1_isSecondToMove) := goodIn_app (goodIn_of _ (by decide +kernel)) ggX4_value_X1_isSecondToMove
set_option maxRecDepth 20000 in
theorem ggX4_value_X4_searchWithCuts : GoodIn wsX4_value wsX4_searchWithCuts := goodIn_r _ [34, 35, 36, 37, 38, 39, 40, 41, 42, 43, 44, 45, 46, 47, 48, 49, 50, 51, 5, 52, 53, 54, 55, 56, 57, 58, 59, 60, 61, 62, 63, 64, 65, 66, 67, 68, 69, 70, 71, 72, 73, 74, 75, 76, 77, 78, 79, 32, 33, 95, 96, 97, 98, 99, 100, 101] (by decide +kernel) (by decide +kernel)
set_option maxRecDepth 20000 in
theorem gX4_value_X4_searchWithCuts : GoodIn wsX4_value (va_wsS RX4 164 yX4_searchWithCuts wsX4_searchWithCuts) := goodIn_app (goodIn_of _ (by decide +kernel)) ggX4_value_X4_searchWithCuts
theorem dX4_value_0 : decode cX4_value 0 = .ok (.aload_n 0, 1) := by decide +kernel
theorem dX4_value_1 : decode cX4_value 1 = .ok (.iload_n 1, 1) := by decide +kernel
theorem dX4_value_2 : decode cX4_value 2 = .ok (.invokevirtual 111, 3) := by decide +kernel
theorem dX4_value_5 : decode cX4_value 5 = .ok (.astore_n 3, 1) := by decide +kernel
theorem dX4_value_6 : decode cX4_value 6 = .ok (.iload_n 2, 1) := by decide +kernel
theorem dX4_value_7 : decode cX4_value 7 = .ok (.invokestatic 150, 3) := by decide +kernel
theorem dX4_value_10 : decode cX4_value 10 = .ok (.aload_n 3, 1) := by decide +kernel
theorem dX4_value_11 : decode cX4_value 11 = .ok (.getfield 153, 3) := by decide +kernel
theorem dX4_value_14 : decode cX4_value 14 = .ok (.aload_n 3, 1) := by decide +kernel
theorem dX4_value_15 : decode cX4_value 15 = .ok (.invokevirtual 154, 3) := by decide +kernel
theorem dX4_value_18 : decode cX4_value 18 = .ok (.aload_n 3, 1) := by decide +kernel
theorem dX4_value_19 : decode cX4_value 19 = .ok (.invokevirtual 158, 3) := by decide +kernel
theorem dX4_value_22 : decode cX4_value 22 = .ok (.aload_n 3, 1) := by decide +kernel
theorem dX4_value_23 : decode cX4_value 23 = .ok (.invokevirtual 161, 3) := by decide +kernel
theorem dX4_value_26 : decode cX4_value 26 = .ok (.iload_n 2, 1) := by decide +kernel
theorem dX4_value_27 : decode cX4_value 27 = .ok (.bipush (-100), 2) := by decide +kernel
theorem dX4_value_29 : decode cX4_value 29 = .ok (.bipush 100, 2) := by decide +kernel
theorem dX4_value_31 : decode cX4_value 31 = .ok (.invokestatic 164, 3) := by decide +kernel
theorem dX4_value_34 : decode cX4_value 34 = .ok (.ireturn, 1) := by decide +kernel
set_option maxRecDepth 20000 in
theorem ggX4_valueByAll_X4_gameAt : GoodIn wsX4_valueByAll wsX4_gameAt := goodIn_ca (goodIn_r _ [6, 7, 8, 9, 89, 90, 91, 92, 93, 94] (by decide +kernel) (by decide +kernel)) (goodIn_sub (fun _ h => List.mem_cons_of_mem _ (List.mem_append_left _ (List.mem_append_right _ h))) (by decide +kernel))
set_option maxRecDepth 20000 in
theorem gX4_valueByAll_X4_gameAt : GoodIn wsX4_valueByAll (wsV RX4 111 RX4 yX4_gameAt wsX4_gameAt) := goodIn_app (goodIn_of _ (by decide +kernel)) ggX4_valueByAll_X4_gameAt
set_option maxRecDepth 20000 in
theorem ggX4_valueByAll_X4_checkDepth : GoodIn wsX4_valueByAll wsX4_checkDepth := goodIn_ca (goodIn_r _ [12, 13, 14] (by decide +kernel) (by decide +kernel)) (goodIn_sub (fun _ h => List.mem_cons_of_mem _ (List.mem_append_right _ h)) (by decide +kernel))
set_option maxRecDepth 20000 in
theorem gX4_valueByAll_X4_checkDepth : GoodIn wsX4_valueByAll (va_wsS RX4 150 yX4_checkDepth wsX4_checkDepth) := goodIn_app (goodIn_of _ (by decide +kernel)) ggX4_valueByAll_X4_checkDepth
set_option maxRecDepth 20000 in
theorem ggX4_valueByAll_X1_ofMover : GoodIn wsX4_valueByAll wsX1_ofMover := goodIn_r _ [19, 20, 21, 22, 23, 24, 18, 25, 26, 80, 81, 82, 83, 84, 85, 86, 87, 88] (by decide +kernel) (by decide +kernel)
set_option maxRecDepth 20000 in
theorem gX4_valueByAll_X1_ofMover : GoodIn wsX4_valueByAll (wsV RX4 154 RX1 yX1_ofMover wsX1_ofMover) := goodIn_app (goodIn_of _ (by decide +kernel)) ggX4_valueByAll_X1_ofMover
set_option maxRecDepth 20000 in
theorem ggX4_valueByAll_X1_ofWaiting : GoodIn wsX4_valueByAll wsX1_ofWaiting := goodIn_r _ [30, 21, 20, 22, 23, 24, 18, 25, 26, 80, 81, 82, 83, 84, 85, 86, 87, 88] (by decide +kernel) (by decide +kernel)
set_option maxRecDepth 20000 in
theorem gX4_valueByAll_X1_ofWaiting : GoodIn wsX4_valueByAll (wsV RX4 158 RX1 yX1_ofWaiting wsX1_ofWaiting) := goodIn_app (goodIn_of _ (by decide +kernel)) ggX4_valueByAll_X1_ofWaiting
set_option maxRecDepth 20000 in
theorem ggX4_valueByAll_X1_isSecondToMove : GoodIn wsX4_valueByAll wsX1_isSecondToMove := goodIn_r _ [25, 26, 80, 81, 82, 83, 84, 85, 86, 87, 88] (by decide +kernel) (by decide +kernel)
set_option maxRecDepth 20000 in
theorem gX4_valueByAll_X1_isSecondToMove : GoodIn wsX4_valueByAll (wsV RX4 161 RX1 yX1_isSecondToMove wsX1_isSecondToMove) := goodIn_app (goodIn_of _ (by decide +kernel)) ggX4_valueByAll_X1_isSecondToMove
set_option maxRecDepth 20000 in
theorem ggX4_valueByAll_X4_searchAll : GoodIn wsX4_valueByAll wsX4_searchAll := goodIn_r _ [34, 35, 36, 37, 38, 39, 40, 41, 42, 43, 44, 45, 46, 47, 48, 49, 50, 51, 5, 52, 53, 54, 55, 56, 57, 58, 59, 60, 61, 62, 63, 64, 65, 66, 67, 68, 69, 70, 71, 72, 73, 74, 75, 76, 77, 78, 79, 32, 33, 95, 96, 97, 98, 99, 100, 101] (by decide +kernel) (by decide +kernel)
set_option maxRecDepth 20000 in
theorem gX4_valueByAll_X4_searchAll : GoodIn wsX4_valueByAll (va_wsS RX4 168 yX4_searchAll wsX4_searchAll) := goodIn_app (goodIn_of _ (by decide +kernel)) ggX4_valueByAll_X4_searchAll
theorem dX4_valueByAll_0 : decode cX4_valueByAll 0 = .ok (.aload_n 0, 1) := by decide +kernel
theorem dX4_valueByAll_1 : decode cX4_valueByAll 1 = .ok (.iload_n 1, 1) := by decide +kernel
theorem dX4_valueByAll_2 : decode cX4_valueByAll 2 = .ok (.invokevirtual 111, 3) := by decide +kernel
theorem dX4_valueByAll_5 : decode cX4_valueByAll 5 = .ok (.astore_n 3, 1) := by decide +kernel
theorem dX4_valueByAll_6 : decode cX4_valueByAll 6 = .ok (.iload_n 2, 1) := by decide +kernel
theorem dX4_valueByAll_7 : decode cX4_valueByAll 7 = .ok (.invokestatic 150, 3) := by decide +kernel
theorem dX4_valueByAll_10 : decode cX4_valueByAll 10 = .ok (.aload_n 3, 1) := by decide +kernel
theorem dX4_valueByAll_11 : decode cX4_valueByAll 11 = .ok (.getfield 153, 3) := by decide +kernel
theorem dX4_valueByAll_14 : decode cX4_valueByAll 14 = .ok (.aload_n 3, 1) := by decide +kernel
theorem dX4_valueByAll_15 : decode cX4_valueByAll 15 = .ok (.invokevirtual 154, 3) := by decide +kernel
theorem dX4_valueByAll_18 : decode cX4_valueByAll 18 = .ok (.aload_n 3, 1) := by decide +kernel
theorem dX4_valueByAll_19 : decode cX4_valueByAll 19 = .ok (.invokevirtual 158, 3) := by decide +kernel
theorem dX4_valueByAll_22 : decode cX4_valueByAll 22 = .ok (.aload_n 3, 1) := by decide +kernel
theorem dX4_valueByAll_23 : decode cX4_valueByAll 23 = .ok (.invokevirtual 161, 3) := by decide +kernel
theorem dX4_valueByAll_26 : decode cX4_valueByAll 26 = .ok (.iload_n 2, 1) := by decide +kernel
theorem dX4_valueByAll_27 : decode cX4_valueByAll 27 = .ok (.invokestatic 168, 3) := by decide +kernel
theorem dX4_valueByAll_30 : decode cX4_valueByAll 30 = .ok (.ireturn, 1) := by decide +kernel
set_option maxRecDepth 20000 in
theorem ggX4_vote_X4_checkPlayer : GoodIn wsX4_vote wsX4_checkPlayer := goodIn_ca (goodIn_r _ [5, 6, 7] (by decide +kernel) (by decide +kernel)) (goodIn_sub (fun _ h => List.mem_cons_of_mem _ (List.mem_append_right _ h)) (by decide +kernel))
set_option maxRecDepth 20000 in
theorem gX4_vote_X4_checkPlayer : GoodIn wsX4_vote (va_wsS RX4 86 yX4_checkPlayer wsX4_checkPlayer) := goodIn_app (goodIn_of _ (by decide +kernel)) ggX4_vote_X4_checkPlayer
set_option maxRecDepth 20000 in
theorem ggX4_vote_X4_variantAt : GoodIn wsX4_vote wsX4_variantAt := goodIn_ca (goodIn_r _ [11, 6, 7, 12, 23, 24, 25, 26, 27, 28] (by decide +kernel) (by decide +kernel)) (goodIn_sub (fun _ h => List.mem_cons_of_mem _ (List.mem_append_right _ h)) (by decide +kernel))
set_option maxRecDepth 20000 in
theorem gX4_vote_X4_variantAt : GoodIn wsX4_vote (wsV RX4 70 RX4 yX4_variantAt wsX4_variantAt) := goodIn_app (goodIn_of _ (by decide +kernel)) ggX4_vote_X4_variantAt
set_option maxRecDepth 20000 in
theorem ggX4_vote_J6_bitCount_0f7a4 : GoodIn wsX4_vote wsJ6_bitCount_0f7a4 := goodIn_r _ [16, 17, 18, 19] (by decide +kernel) (by decide +kernel)
set_option maxRecDepth 20000 in
theorem gX4_vote_J6_bitCount_0f7a4 : GoodIn wsX4_vote (va_wsS RX4 175 yJ6_bitCount_0f7a4 wsJ6_bitCount_0f7a4) := goodIn_app (goodIn_of _ (by decide +kernel)) ggX4_vote_J6_bitCount_0f7a4
theorem dX4_vote_0 : decode cX4_vote 0 = .ok (.iload_n 1, 1) := by decide +kernel
theorem dX4_vote_1 : decode cX4_vote 1 = .ok (.invokestatic 86, 3) := by decide +kernel
theorem dX4_vote_4 : decode cX4_vote 4 = .ok (.aload_n 0, 1) := by decide +kernel
theorem dX4_vote_5 : decode cX4_vote 5 = .ok (.iload_n 2, 1) := by decide +kernel
theorem dX4_vote_6 : decode cX4_vote 6 = .ok (.invokevirtual 70, 3) := by decide +kernel
theorem dX4_vote_9 : decode cX4_vote 9 = .ok (.astore_n 3, 1) := by decide +kernel
theorem dX4_vote_10 : decode cX4_vote 10 = .ok (.aload_n 3, 1) := by decide +kernel
theorem dX4_vote_11 : decode cX4_vote 11 = .ok (.dup, 1) := by decide +kernel
theorem dX4_vote_12 : decode cX4_vote 12 = .ok (.getfield 172, 3) := by decide +kernel
theorem dX4_vote_15 : decode cX4_vote 15 = .ok (.iconst 1, 1) := by decide +kernel
theorem dX4_vote_16 : decode cX4_vote 16 = .ok (.iload_n 1, 1) := by decide +kernel
theorem dX4_vote_17 : decode cX4_vote 17 = .ok (.ishl, 1) := by decide +kernel
theorem dX4_vote_18 : decode cX4_vote 18 = .ok (.ixor, 1) := by decide +kernel
theorem dX4_vote_19 : decode cX4_vote 19 = .ok (.putfield 172, 3) := by decide +kernel
theorem dX4_vote_22 : decode cX4_vote 22 = .ok (.aload_n 3, 1) := by decide +kernel
theorem dX4_vote_23 : decode cX4_vote 23 = .ok (.getfield 172, 3) := by decide +kernel
theorem dX4_vote_26 : decode cX4_vote 26 = .ok (.invokestatic 175, 3) := by decide +kernel
theorem dX4_vote_29 : decode cX4_vote 29 = .ok (.ireturn, 1) := by decide +kernel
set_option maxRecDepth 20000 in
theorem ggX4_isBanned_X4_variantAt : GoodIn wsX4_isBanned wsX4_variantAt := goodIn_ca (goodIn_r _ [5, 6, 7, 8, 23, 24, 25, 26, 27, 28] (by decide +kernel) (by decide +kernel)) (goodIn_sub (fun _ h => List.mem_cons_of_mem _ (List.mem_append_right _ h)) (by decide +kernel))
set_option maxRecDepth 20000 in
theorem gX4_isBanned_X4_variantAt : GoodIn wsX4_isBanned (wsV RX4 70 RX4 yX4_variantAt wsX4_variantAt) := goodIn_app (goodIn_of _ (by decide +kernel)) ggX4_isBanned_X4_variantAt
set_option maxRecDepth 20000 in
theorem ggX4_isBanned_X3_isOut : GoodIn wsX4_isBanned wsX3_isOut := goodIn_r _ [13, 14, 15, 16, 17, 18, 19, 20, 21, 22, 29, 30, 31] (by decide +kernel) (by decide +kernel)
set_option maxRecDepth 20000 in
theorem gX4_isBanned_X3_isOut : GoodIn wsX4_isBanned (wsV RX4 95 RX3 yX3_isOut wsX3_isOut) := goodIn_app (goodIn_of _ (by decide +kernel)) ggX4_isBanned_X3_isOut
theorem dX4_isBanned_0 : decode cX4_isBanned 0 = .ok (.aload_n 0, 1) := by decide +kernel
theorem dX4_isBanned_1 : decode cX4_isBanned 1 = .ok (.iload_n 1, 1) := by decide +kernel
theorem dX4_isBanned_2 : decode cX4_isBanned 2 = .ok (.invokevirtual 70, 3) := by decide +kernel
theorem dX4_isBanned_5 : decode cX4_isBanned 5 = .ok (.invokevirtual 95, 3) := by decide +kernel
theorem dX4_isBanned_8 : decode cX4_isBanned 8 = .ok (.ireturn, 1) := by decide +kernel
set_option maxRecDepth 20000 in
theorem ggX4_endless_X4_variantAt : GoodIn wsX4_endless wsX4_variantAt := goodIn_ca (goodIn_r _ [6, 7, 8, 9, 13, 14, 15, 16, 17, 18] (by decide +kernel) (by decide +kernel)) (goodIn_sub (fun _ h => List.mem_cons_of_mem _ (List.mem_append_right _ h)) (by decide +kernel))
set_option maxRecDepth 20000 in
theorem gX4_endless_X4_variantAt : GoodIn wsX4_endless (wsV RX4 70 RX4 yX4_variantAt wsX4_variantAt) := goodIn_app (goodIn_of _ (by decide +kernel)) ggX4_endless_X4_variantAt
theorem dX4_endless_0 : decode cX4_endless 0 = .ok (.aload_n 0, 1) := by decide +kernel
theorem dX4_endless_1 : decode cX4_endless 1 = .ok (.iload_n 1, 1) := by decide +kernel
theorem dX4_endless_2 : decode cX4_endless 2 = .ok (.invokevirtual 70, 3) := by decide +kernel
theorem dX4_endless_5 : decode cX4_endless 5 = .ok (.getfield 181, 3) := by decide +kernel
theorem dX4_endless_8 : decode cX4_endless 8 = .ok (.ireturn, 1) := by decide +kernel
set_option maxRecDepth 20000 in
theorem ggX4_points_X4_checkPlayer : GoodIn wsX4_points wsX4_checkPlayer := goodIn_ca (goodIn_r _ [6, 7, 8] (by decide +kernel) (by decide +kernel)) (goodIn_sub (fun _ h => List.mem_cons_of_mem _ (List.mem_append_right _ h)) (by decide +kernel))
set_option maxRecDepth 20000 in
theorem gX4_points_X4_checkPlayer : GoodIn wsX4_points (va_wsS RX4 86 yX4_checkPlayer wsX4_checkPlayer) := goodIn_app (goodIn_of _ (by decide +kernel)) ggX4_points_X4_checkPlayer
set_option maxRecDepth 20000 in
theorem ggX4_points_X4_variantAt : GoodIn wsX4_points wsX4_variantAt := goodIn_ca (goodIn_r _ [12, 7, 8, 13, 36, 37, 38, 39, 40, 41] (by decide +kernel) (by decide +kernel)) (goodIn_sub (fun _ h => List.mem_cons_of_mem _ (List.mem_append_right _ h)) (by decide +kernel))
set_option maxRecDepth 20000 in
theorem gX4_points_X4_variantAt : GoodIn wsX4_points (wsV RX4 70 RX4 yX4_variantAt wsX4_variantAt) := goodIn_app (goodIn_of _ (by decide +kernel)) ggX4_points_X4_variantAt
set_option maxRecDepth 20000 in
theorem ggX4_points_X3_isOut : GoodIn wsX4_points wsX3_isOut := goodIn_r _ [18, 19, 20, 21, 22, 23, 24, 25, 26, 27, 51, 52, 53] (by decide +kernel) (by decide +kernel)
set_option maxRecDepth 20000 in
theorem gX4_points_X3_isOut : GoodIn wsX4_points (wsV RX4 95 RX3 yX3_isOut wsX3_isOut) := goodIn_app (goodIn_of _ (by decide +kernel)) ggX4_points_X3_isOut
set_option maxRecDepth 20000 in
theorem ggX4_points_X1_pointsFor : GoodIn wsX4_points wsX1_pointsFor := goodIn_r _ [32, 33, 34, 35, 42, 43, 44, 45, 46, 47, 48, 49, 50] (by decide +kernel) (by decide +kernel)
set_option maxRecDepth 20000 in
theorem gX4_points_X1_pointsFor : GoodIn wsX4_points (wsV RX4 184 RX1 yX1_pointsFor wsX1_pointsFor) := goodIn_app (goodIn_of _ (by decide +kernel)) ggX4_points_X1_pointsFor
theorem dX4_points_0 : decode cX4_points 0 = .ok (.iload_n 1, 1) := by decide +kernel
theorem dX4_points_1 : decode cX4_points 1 = .ok (.invokestatic 86, 3) := by decide +kernel
theorem dX4_points_4 : decode cX4_points 4 = .ok (.aload_n 0, 1) := by decide +kernel
theorem dX4_points_5 : decode cX4_points 5 = .ok (.iload_n 2, 1) := by decide +kernel
theorem dX4_points_6 : decode cX4_points 6 = .ok (.invokevirtual 70, 3) := by decide +kernel
theorem dX4_points_9 : decode cX4_points 9 = .ok (.astore_n 3, 1) := by decide +kernel
theorem dX4_points_10 : decode cX4_points 10 = .ok (.aload_n 3, 1) := by decide +kernel
theorem dX4_points_11 : decode cX4_points 11 = .ok (.invokevirtual 95, 3) := by decide +kernel
theorem dX4_points_14 : decode cX4_points 14 = .ok (.ifCond .eq 5, 3) := by decide +kernel
theorem dX4_points_17 : decode cX4_points 17 = .ok (.iconst 0, 1) := by decide +kernel
theorem dX4_points_18 : decode cX4_points 18 = .ok (.ireturn, 1) := by decide +kernel
theorem dX4_points_19 : decode cX4_points 19 = .ok (.iconst 0, 1) := by decide +kernel
theorem dX4_points_20 : decode cX4_points 20 = .ok (.istore 4, 2) := by decide +kernel
theorem dX4_points_22 : decode cX4_points 22 = .ok (.iconst 0, 1) := by decide +kernel
theorem dX4_points_23 : decode cX4_points 23 = .ok (.istore 5, 2) := by decide +kernel
theorem dX4_points_25 : decode cX4_points 25 = .ok (.iload 5, 2) := by decide +kernel
theorem dX4_points_27 : decode cX4_points 27 = .ok (.aload_n 0, 1) := by decide +kernel
theorem dX4_points_28 : decode cX4_points 28 = .ok (.getfield 23, 3) := by decide +kernel
theorem dX4_points_31 : decode cX4_points 31 = .ok (.arraylength, 1) := by decide +kernel
theorem dX4_points_32 : decode cX4_points 32 = .ok (.if_icmp .ge 43, 3) := by decide +kernel
theorem dX4_points_35 : decode cX4_points 35 = .ok (.aload_n 0, 1) := by decide +kernel
theorem dX4_points_36 : decode cX4_points 36 = .ok (.getfield 23, 3) := by decide +kernel
theorem dX4_points_39 : decode cX4_points 39 = .ok (.iload 5, 2) := by decide +kernel
theorem dX4_points_41 : decode cX4_points 41 = .ok (.aaload, 1) := by decide +kernel
theorem dX4_points_42 : decode cX4_points 42 = .ok (.astore 6, 2) := by decide +kernel
theorem dX4_points_44 : decode cX4_points 44 = .ok (.aload 6, 2) := by decide +kernel
theorem dX4_points_46 : decode cX4_points 46 = .ok (.ifnull 23, 3) := by decide +kernel
theorem dX4_points_49 : decode cX4_points 49 = .ok (.aload 6, 2) := by decide +kernel
theorem dX4_points_51 : decode cX4_points 51 = .ok (.getfield 128, 3) := by decide +kernel
theorem dX4_points_54 : decode cX4_points 54 = .ok (.aload_n 3, 1) := by decide +kernel
theorem dX4_points_55 : decode cX4_points 55 = .ok (.if_acmp .ne 14, 3) := by decide +kernel
theorem dX4_points_58 : decode cX4_points 58 = .ok (.iload 4, 2) := by decide +kernel
theorem dX4_points_60 : decode cX4_points 60 = .ok (.aload 6, 2) := by decide +kernel
theorem dX4_points_62 : decode cX4_points 62 = .ok (.iload_n 1, 1) := by decide +kernel
theorem dX4_points_63 : decode cX4_points 63 = .ok (.invokevirtual 184, 3) := by decide +kernel
theorem dX4_points_66 : decode cX4_points 66 = .ok (.iadd, 1) := by decide +kernel
theorem dX4_points_67 : decode cX4_points 67 = .ok (.istore 4, 2) := by decide +kernel
theorem dX4_points_69 : decode cX4_points 69 = .ok (.iinc 5 1, 3) := by decide +kernel
theorem dX4_points_72 : decode cX4_points 72 = .ok (.goto (-47), 3) := by decide +kernel
theorem dX4_points_75 : decode cX4_points 75 = .ok (.iload 4, 2) := by decide +kernel
theorem dX4_points_77 : decode cX4_points 77 = .ok (.ireturn, 1) := by decide +kernel
theorem dX4_variantAt_0 : decode cX4_variantAt 0 = .ok (.iload_n 1, 1) := by decide +kernel
theorem dX4_variantAt_1 : decode cX4_variantAt 1 = .ok (.ifCond .lt 12, 3) := by decide +kernel
theorem dX4_variantAt_4 : decode cX4_variantAt 4 = .ok (.iload_n 1, 1) := by decide +kernel
theorem dX4_variantAt_5 : decode cX4_variantAt 5 = .ok (.aload_n 0, 1) := by decide +kernel
theorem dX4_variantAt_6 : decode cX4_variantAt 6 = .ok (.getfield 17, 3) := by decide +kernel
theorem dX4_variantAt_9 : decode cX4_variantAt 9 = .ok (.arraylength, 1) := by decide +kernel
theorem dX4_variantAt_10 : decode cX4_variantAt 10 = .ok (.if_icmp .lt 13, 3) := by decide +kernel
theorem dX4_variantAt_13 : decode cX4_variantAt 13 = .ok (.new 187, 3) := by decide +kernel
theorem dX4_variantAt_16 : decode cX4_variantAt 16 = .ok (.dup, 1) := by decide +kernel
theorem dX4_variantAt_17 : decode cX4_variantAt 17 = .ok (.ldc 189, 2) := by decide +kernel
theorem dX4_variantAt_19 : decode cX4_variantAt 19 = .ok (.invokespecial 191, 3) := by decide +kernel
theorem dX4_variantAt_22 : decode cX4_variantAt 22 = .ok (.athrow, 1) := by decide +kernel
theorem dX4_variantAt_23 : decode cX4_variantAt 23 = .ok (.aload_n 0, 1) := by decide +kernel
theorem dX4_variantAt_24 : decode cX4_variantAt 24 = .ok (.getfield 17, 3) := by decide +kernel
theorem dX4_variantAt_27 : decode cX4_variantAt 27 = .ok (.iload_n 1, 1) := by decide +kernel
theorem dX4_variantAt_28 : decode cX4_variantAt 28 = .ok (.aaload, 1) := by decide +kernel
theorem dX4_variantAt_29 : decode cX4_variantAt 29 = .ok (.astore_n 2, 1) := by decide +kernel
theorem dX4_variantAt_30 : decode cX4_variantAt 30 = .ok (.aload_n 2, 1) := by decide +kernel
theorem dX4_variantAt_31 : decode cX4_variantAt 31 = .ok (.ifnonnull 13, 3) := by decide +kernel
theorem dX4_variantAt_34 : decode cX4_variantAt 34 = .ok (.new 187, 3) := by decide +kernel
theorem dX4_variantAt_37 : decode cX4_variantAt 37 = .ok (.dup, 1) := by decide +kernel
theorem dX4_variantAt_38 : decode cX4_variantAt 38 = .ok (.ldc 189, 2) := by decide +kernel
theorem dX4_variantAt_40 : decode cX4_variantAt 40 = .ok (.invokespecial 191, 3) := by decide +kernel
theorem dX4_variantAt_43 : decode cX4_variantAt 43 = .ok (.athrow, 1) := by decide +kernel
theorem dX4_variantAt_44 : decode cX4_variantAt 44 = .ok (.aload_n 2, 1) := by decide +kernel
theorem dX4_variantAt_45 : decode cX4_variantAt 45 = .ok (.areturn, 1) := by decide +kernel
theorem dX4_gameAt_0 : decode cX4_gameAt 0 = .ok (.iload_n 1, 1) := by decide +kernel
theorem dX4_gameAt_1 : decode cX4_gameAt 1 = .ok (.ifCond .lt 12, 3) := by decide +kernel
theorem dX4_gameAt_4 : decode cX4_gameAt 4 = .ok (.iload_n 1, 1) := by decide +kernel
theorem dX4_gameAt_5 : decode cX4_gameAt 5 = .ok (.aload_n 0, 1) := by decide +kernel
theorem dX4_gameAt_6 : decode cX4_gameAt 6 = .ok (.getfield 23, 3) := by decide +kernel
theorem dX4_gameAt_9 : decode cX4_gameAt 9 = .ok (.arraylength, 1) := by decide +kernel
theorem dX4_gameAt_10 : decode cX4_gameAt 10 = .ok (.if_icmp .lt 13, 3) := by decide +kernel
theorem dX4_gameAt_13 : decode cX4_gameAt 13 = .ok (.new 187, 3) := by decide +kernel
theorem dX4_gameAt_16 : decode cX4_gameAt 16 = .ok (.dup, 1) := by decide +kernel
theorem dX4_gameAt_17 : decode cX4_gameAt 17 = .ok (.ldc 192, 2) := by decide +kernel
theorem dX4_gameAt_19 : decode cX4_gameAt 19 = .ok (.invokespecial 191, 3) := by decide +kernel
theorem dX4_gameAt_22 : decode cX4_gameAt 22 = .ok (.athrow, 1) := by decide +kernel
theorem dX4_gameAt_23 : decode cX4_gameAt 23 = .ok (.aload_n 0, 1) := by decide +kernel
theorem dX4_gameAt_24 : decode cX4_gameAt 24 = .ok (.getfield 23, 3) := by decide +kernel
theorem dX4_gameAt_27 : decode cX4_gameAt 27 = .ok (.iload_n 1, 1) := by decide +kernel
theorem dX4_gameAt_28 : decode cX4_gameAt 28 = .ok (.aaload, 1) := by decide +kernel
theorem dX4_gameAt_29 : decode cX4_gameAt 29 = .ok (.astore_n 2, 1) := by decide +kernel
theorem dX4_gameAt_30 : decode cX4_gameAt 30 = .ok (.aload_n 2, 1) := by decide +kernel
theorem dX4_gameAt_31 : decode cX4_gameAt 31 = .ok (.ifnonnull 13, 3) := by decide +kernel
theorem dX4_gameAt_34 : decode cX4_gameAt 34 = .ok (.new 187, 3) := by decide +kernel
theorem dX4_gameAt_37 : decode cX4_gameAt 37 = .ok (.dup, 1) := by decide +kernel
theorem dX4_gameAt_38 : decode cX4_gameAt 38 = .ok (.ldc 192, 2) := by decide +kernel
theorem dX4_gameAt_40 : decode cX4_gameAt 40 = .ok (.invokespecial 191, 3) := by decide +kernel
theorem dX4_gameAt_43 : decode cX4_gameAt 43 = .ok (.athrow, 1) := by decide +kernel
theorem dX4_gameAt_44 : decode cX4_gameAt 44 = .ok (.aload_n 2, 1) := by decide +kernel
theorem dX4_gameAt_45 : decode cX4_gameAt 45 = .ok (.areturn, 1) := by decide +kernel
theorem dX4_checkPlayer_0 : decode cX4_checkPlayer 0 = .ok (.iload_n 0, 1) := by decide +kernel
theorem dX4_checkPlayer_1 : decode cX4_checkPlayer 1 = .ok (.ifCond .lt 8, 3) := by decide +kernel
theorem dX4_checkPlayer_4 : decode cX4_checkPlayer 4 = .ok (.iload_n 0, 1) := by decide +kernel
theorem dX4_checkPlayer_5 : decode cX4_checkPlayer 5 = .ok (.iconst 5, 1) := by decide +kernel
theorem dX4_checkPlayer_6 : decode cX4_checkPlayer 6 = .ok (.if_icmp .lt 13, 3) := by decide +kernel
theorem dX4_checkPlayer_9 : decode cX4_checkPlayer 9 = .ok (.new 187, 3) := by decide +kernel
theorem dX4_checkPlayer_12 : decode cX4_checkPlayer 12 = .ok (.dup, 1) := by decide +kernel
theorem dX4_checkPlayer_13 : decode cX4_checkPlayer 13 = .ok (.ldc 194, 2) := by decide +kernel
theorem dX4_checkPlayer_15 : decode cX4_checkPlayer 15 = .ok (.invokespecial 191, 3) := by decide +kernel
theorem dX4_checkPlayer_18 : decode cX4_checkPlayer 18 = .ok (.athrow, 1) := by decide +kernel
theorem dX4_checkPlayer_19 : decode cX4_checkPlayer 19 = .ok (.return_, 1) := by decide +kernel
theorem dX4_checkCell_0 : decode cX4_checkCell 0 = .ok (.iload_n 0, 1) := by decide +kernel
theorem dX4_checkCell_1 : decode cX4_checkCell 1 = .ok (.ifCond .lt 9, 3) := by decide +kernel
theorem dX4_checkCell_4 : decode cX4_checkCell 4 = .ok (.iload_n 0, 1) := by decide +kernel
theorem dX4_checkCell_5 : decode cX4_checkCell 5 = .ok (.bipush 25, 2) := by decide +kernel
theorem dX4_checkCell_7 : decode cX4_checkCell 7 = .ok (.if_icmp .lt 13, 3) := by decide +kernel
theorem dX4_checkCell_10 : decode cX4_checkCell 10 = .ok (.new 187, 3) := by decide +kernel
theorem dX4_checkCell_13 : decode cX4_checkCell 13 = .ok (.dup, 1) := by decide +kernel
theorem dX4_checkCell_14 : decode cX4_checkCell 14 = .ok (.ldc 196, 2) := by decide +kernel
theorem dX4_checkCell_16 : decode cX4_checkCell 16 = .ok (.invokespecial 191, 3) := by decide +kernel
theorem dX4_checkCell_19 : decode cX4_checkCell 19 = .ok (.athrow, 1) := by decide +kernel
theorem dX4_checkCell_20 : decode cX4_checkCell 20 = .ok (.return_, 1) := by decide +kernel
theorem dX4_checkDepth_0 : decode cX4_checkDepth 0 = .ok (.iload_n 0, 1) := by decide +kernel
theorem dX4_checkDepth_1 : decode cX4_checkDepth 1 = .ok (.ifCond .lt 8, 3) := by decide +kernel
theorem dX4_checkDepth_4 : decode cX4_checkDepth 4 = .ok (.iload_n 0, 1) := by decide +kernel
theorem dX4_checkDepth_5 : decode cX4_checkDepth 5 = .ok (.iconst 2, 1) := by decide +kernel
theorem dX4_checkDepth_6 : decode cX4_checkDepth 6 = .ok (.if_icmp .le 13, 3) := by decide +kernel
theorem dX4_checkDepth_9 : decode cX4_checkDepth 9 = .ok (.new 31, 3) := by decide +kernel
theorem dX4_checkDepth_12 : decode cX4_checkDepth 12 = .ok (.dup, 1) := by decide +kernel
theorem dX4_checkDepth_13 : decode cX4_checkDepth 13 = .ok (.ldc 198, 2) := by decide +kernel
theorem dX4_checkDepth_15 : decode cX4_checkDepth 15 = .ok (.invokespecial 35, 3) := by decide +kernel
theorem dX4_checkDepth_18 : decode cX4_checkDepth 18 = .ok (.athrow, 1) := by decide +kernel
theorem dX4_checkDepth_19 : decode cX4_checkDepth 19 = .ok (.return_, 1) := by decide +kernel
theorem dX4_isStep_0 : decode cX4_isStep 0 = .ok (.iload_n 0, 1) := by decide +kernel
theorem dX4_isStep_1 : decode cX4_isStep 1 = .ok (.bipush (-2), 2) := by decide +kernel
theorem dX4_isStep_3 : decode cX4_isStep 3 = .ok (.if_icmp .lt 23, 3) := by decide +kernel
theorem dX4_isStep_6 : decode cX4_isStep 6 = .ok (.iload_n 0, 1) := by decide +kernel
theorem dX4_isStep_7 : decode cX4_isStep 7 = .ok (.iconst 2, 1) := by decide +kernel
theorem dX4_isStep_8 : decode cX4_isStep 8 = .ok (.if_icmp .gt 18, 3) := by decide +kernel
theorem dX4_isStep_11 : decode cX4_isStep 11 = .ok (.iload_n 1, 1) := by decide +kernel
theorem dX4_isStep_12 : decode cX4_isStep 12 = .ok (.bipush (-2), 2) := by decide +kernel
theorem dX4_isStep_14 : decode cX4_isStep 14 = .ok (.if_icmp .lt 12, 3) := by decide +kernel
theorem dX4_isStep_17 : decode cX4_isStep 17 = .ok (.iload_n 1, 1) := by decide +kernel
theorem dX4_isStep_18 : decode cX4_isStep 18 = .ok (.iconst 2, 1) := by decide +kernel
theorem dX4_isStep_19 : decode cX4_isStep 19 = .ok (.if_icmp .gt 7, 3) := by decide +kernel
theorem dX4_isStep_22 : decode cX4_isStep 22 = .ok (.iconst 1, 1) := by decide +kernel
theorem dX4_isStep_23 : decode cX4_isStep 23 = .ok (.goto 4, 3) := by decide +kernel
theorem dX4_isStep_26 : decode cX4_isStep 26 = .ok (.iconst 0, 1) := by decide +kernel
theorem dX4_isStep_27 : decode cX4_isStep 27 = .ok (.istore_n 2, 1) := by decide +kernel
theorem dX4_isStep_28 : decode cX4_isStep 28 = .ok (.iload_n 2, 1) := by decide +kernel
theorem dX4_isStep_29 : decode cX4_isStep 29 = .ok (.ifCond .eq 15, 3) := by decide +kernel
theorem dX4_isStep_32 : decode cX4_isStep 32 = .ok (.iload_n 0, 1) := by decide +kernel
theorem dX4_isStep_33 : decode cX4_isStep 33 = .ok (.ifCond .ne 7, 3) := by decide +kernel
theorem dX4_isStep_36 : decode cX4_isStep 36 = .ok (.iload_n 1, 1) := by decide +kernel
theorem dX4_isStep_37 : decode cX4_isStep 37 = .ok (.ifCond .eq 7, 3) := by decide +kernel
theorem dX4_isStep_40 : decode cX4_isStep 40 = .ok (.iconst 1, 1) := by decide +kernel
theorem dX4_isStep_41 : decode cX4_isStep 41 = .ok (.goto 4, 3) := by decide +kernel
theorem dX4_isStep_44 : decode cX4_isStep 44 = .ok (.iconst 0, 1) := by decide +kernel
theorem dX4_isStep_45 : decode cX4_isStep 45 = .ok (.ireturn, 1) := by decide +kernel
theorem dX4_isSetOfCards_0 : decode cX4_isSetOfCards 0 = .ok (.iload_n 1, 1) := by decide +kernel
theorem dX4_isSetOfCards_1 : decode cX4_isSetOfCards 1 = .ok (.iconst 1, 1) := by decide +kernel
theorem dX4_isSetOfCards_2 : decode cX4_isSetOfCards 2 = .ok (.if_icmp .lt 17, 3) := by decide +kernel
theorem dX4_isSetOfCards_5 : decode cX4_isSetOfCards 5 = .ok (.iload_n 1, 1) := by decide +kernel
theorem dX4_isSetOfCards_6 : decode cX4_isSetOfCards 6 = .ok (.iconst 1, 1) := by decide +kernel
theorem dX4_isSetOfCards_7 : decode cX4_isSetOfCards 7 = .ok (.aload_n 0, 1) := by decide +kernel
theorem dX4_isSetOfCards_8 : decode cX4_isSetOfCards 8 = .ok (.getfield 38, 3) := by decide +kernel
theorem dX4_isSetOfCards_11 : decode cX4_isSetOfCards 11 = .ok (.ishl, 1) := by decide +kernel
theorem dX4_isSetOfCards_12 : decode cX4_isSetOfCards 12 = .ok (.if_icmp .ge 7, 3) := by decide +kernel
theorem dX4_isSetOfCards_15 : decode cX4_isSetOfCards 15 = .ok (.iconst 1, 1) := by decide +kernel
theorem dX4_isSetOfCards_16 : decode cX4_isSetOfCards 16 = .ok (.goto 4, 3) := by decide +kernel
theorem dX4_isSetOfCards_19 : decode cX4_isSetOfCards 19 = .ok (.iconst 0, 1) := by decide +kernel
theorem dX4_isSetOfCards_20 : decode cX4_isSetOfCards 20 = .ok (.ireturn, 1) := by decide +kernel
theorem dX4_isIn_0 : decode cX4_isIn 0 = .ok (.iload_n 0, 1) := by decide +kernel
theorem dX4_isIn_1 : decode cX4_isIn 1 = .ok (.iload_n 1, 1) := by decide +kernel
theorem dX4_isIn_2 : decode cX4_isIn 2 = .ok (.ishr, 1) := by decide +kernel
theorem dX4_isIn_3 : decode cX4_isIn 3 = .ok (.iconst 1, 1) := by decide +kernel
theorem dX4_isIn_4 : decode cX4_isIn 4 = .ok (.iand, 1) := by decide +kernel
theorem dX4_isIn_5 : decode cX4_isIn 5 = .ok (.ifCond .eq 7, 3) := by decide +kernel
theorem dX4_isIn_8 : decode cX4_isIn 8 = .ok (.iconst 1, 1) := by decide +kernel
theorem dX4_isIn_9 : decode cX4_isIn 9 = .ok (.goto 4, 3) := by decide +kernel
theorem dX4_isIn_12 : decode cX4_isIn 12 = .ok (.iconst 0, 1) := by decide +kernel
theorem dX4_isIn_13 : decode cX4_isIn 13 = .ok (.ireturn, 1) := by decide +kernel
theorem dX4_cellAhead_0 : decode cX4_cellAhead 0 = .ok (.iload_n 0, 1) := by decide +kernel
theorem dX4_cellAhead_1 : decode cX4_cellAhead 1 = .ok (.iconst 5, 1) := by decide +kernel
theorem dX4_cellAhead_2 : decode cX4_cellAhead 2 = .ok (.irem, 1) := by decide +kernel
theorem dX4_cellAhead_3 : decode cX4_cellAhead 3 = .ok (.iload_n 1, 1) := by decide +kernel
theorem dX4_cellAhead_4 : decode cX4_cellAhead 4 = .ok (.iadd, 1) := by decide +kernel
theorem dX4_cellAhead_5 : decode cX4_cellAhead 5 = .ok (.istore_n 3, 1) := by decide +kernel
theorem dX4_cellAhead_6 : decode cX4_cellAhead 6 = .ok (.iload_n 0, 1) := by decide +kernel
theorem dX4_cellAhead_7 : decode cX4_cellAhead 7 = .ok (.iconst 5, 1) := by decide +kernel
theorem dX4_cellAhead_8 : decode cX4_cellAhead 8 = .ok (.idiv, 1) := by decide +kernel
theorem dX4_cellAhead_9 : decode cX4_cellAhead 9 = .ok (.iload_n 2, 1) := by decide +kernel
theorem dX4_cellAhead_10 : decode cX4_cellAhead 10 = .ok (.iadd, 1) := by decide +kernel
theorem dX4_cellAhead_11 : decode cX4_cellAhead 11 = .ok (.istore 4, 2) := by decide +kernel
theorem dX4_cellAhead_13 : decode cX4_cellAhead 13 = .ok (.iload_n 3, 1) := by decide +kernel
theorem dX4_cellAhead_14 : decode cX4_cellAhead 14 = .ok (.ifCond .lt 23, 3) := by decide +kernel
theorem dX4_cellAhead_17 : decode cX4_cellAhead 17 = .ok (.iload_n 3, 1) := by decide +kernel
theorem dX4_cellAhead_18 : decode cX4_cellAhead 18 = .ok (.iconst 5, 1) := by decide +kernel
theorem dX4_cellAhead_19 : decode cX4_cellAhead 19 = .ok (.if_icmp .ge 18, 3) := by decide +kernel
theorem dX4_cellAhead_22 : decode cX4_cellAhead 22 = .ok (.iload 4, 2) := by decide +kernel
theorem dX4_cellAhead_24 : decode cX4_cellAhead 24 = .ok (.ifCond .lt 13, 3) := by decide +kernel
theorem dX4_cellAhead_27 : decode cX4_cellAhead 27 = .ok (.iload 4, 2) := by decide +kernel
theorem dX4_cellAhead_29 : decode cX4_cellAhead 29 = .ok (.iconst 5, 1) := by decide +kernel
theorem dX4_cellAhead_30 : decode cX4_cellAhead 30 = .ok (.if_icmp .ge 7, 3) := by decide +kernel
theorem dX4_cellAhead_33 : decode cX4_cellAhead 33 = .ok (.iconst 1, 1) := by decide +kernel
theorem dX4_cellAhead_34 : decode cX4_cellAhead 34 = .ok (.goto 4, 3) := by decide +kernel
theorem dX4_cellAhead_37 : decode cX4_cellAhead 37 = .ok (.iconst 0, 1) := by decide +kernel
theorem dX4_cellAhead_38 : decode cX4_cellAhead 38 = .ok (.istore 5, 2) := by decide +kernel
theorem dX4_cellAhead_40 : decode cX4_cellAhead 40 = .ok (.iload 5, 2) := by decide +kernel
theorem dX4_cellAhead_42 : decode cX4_cellAhead 42 = .ok (.ifCond .eq 12, 3) := by decide +kernel
theorem dX4_cellAhead_45 : decode cX4_cellAhead 45 = .ok (.iconst 5, 1) := by decide +kernel
theorem dX4_cellAhead_46 : decode cX4_cellAhead 46 = .ok (.iload 4, 2) := by decide +kernel
theorem dX4_cellAhead_48 : decode cX4_cellAhead 48 = .ok (.imul, 1) := by decide +kernel
theorem dX4_cellAhead_49 : decode cX4_cellAhead 49 = .ok (.iload_n 3, 1) := by decide +kernel
theorem dX4_cellAhead_50 : decode cX4_cellAhead 50 = .ok (.iadd, 1) := by decide +kernel
theorem dX4_cellAhead_51 : decode cX4_cellAhead 51 = .ok (.goto 4, 3) := by decide +kernel
theorem dX4_cellAhead_54 : decode cX4_cellAhead 54 = .ok (.iconst (-1), 1) := by decide +kernel
theorem dX4_cellAhead_55 : decode cX4_cellAhead 55 = .ok (.ireturn, 1) := by decide +kernel
set_option maxRecDepth 20000 in
theorem ggX4_isAmongAllMoves_X1_ofMover : GoodIn wsX4_isAmongAllMoves wsX1_ofMover := goodIn_r _ [6, 7, 8, 9, 10, 11, 5, 12, 13, 46, 47, 48, 49, 50, 51, 52, 53, 54] (by decide +kernel) (by decide +kernel)
set_option maxRecDepth 20000 in
theorem gX4_isAmongAllMoves_X1_ofMover : GoodIn wsX4_isAmongAllMoves (wsV RX4 154 RX1 yX1_ofMover wsX1_ofMover) := goodIn_app (goodIn_of _ (by decide +kernel)) ggX4_isAmongAllMoves_X1_ofMover
set_option maxRecDepth 20000 in
theorem ggX4_isAmongAllMoves_X1_ofWaiting : GoodIn wsX4_isAmongAllMoves wsX1_ofWaiting := goodIn_r _ [17, 8, 7, 9, 10, 11, 5, 12, 13, 46, 47, 48, 49, 50, 51, 52, 53, 54] (by decide +kernel) (by decide +kernel)
set_option maxRecDepth 20000 in
theorem gX4_isAmongAllMoves_X1_ofWaiting : GoodIn wsX4_isAmongAllMoves (wsV RX4 158 RX1 yX1_ofWaiting wsX1_ofWaiting) := goodIn_app (goodIn_of _ (by decide +kernel)) ggX4_isAmongAllMoves_X1_ofWaiting
set_option maxRecDepth 20000 in
theorem ggX4_isAmongAllMoves_X1_isSecondToMove : GoodIn wsX4_isAmongAllMoves wsX1_isSecondToMove := goodIn_r _ [12, 13, 46, 47, 48, 49, 50, 51, 52, 53, 54] (by decide +kernel) (by decide +kernel)
set_option maxRecDepth 20000 in
theorem gX4_isAmongAllMoves_X1_isSecondToMove : GoodIn wsX4_isAmongAllMoves (wsV RX4 161 RX1 yX1_isSecondToMove wsX1_isSecondToMove) := goodIn_app (goodIn_of _ (by decide +kernel)) ggX4_isAmongAllMoves_X1_isSecondToMove
set_option maxRecDepth 20000 in
theorem ggX4_isAmongAllMoves_X2_endsFrom : GoodIn wsX4_isAmongAllMoves wsX2_endsFrom := goodIn_r _ [23, 24, 25, 26, 27, 28, 29, 30, 31, 32, 33, 34, 35, 36, 37, 38, 39, 40, 41, 42, 43, 44, 55, 56, 57, 58, 59, 60, 61] (by decide +kernel) (by decide +kernel)
set_option maxRecDepth 20000 in
theorem gX4_isAmongAllMoves_X2_endsFrom : GoodIn wsX4_isAmongAllMoves (wsV RX4 200 RX2 yX2_endsFrom wsX2_endsFrom) := goodIn_app (goodIn_of _ (by decide +kernel)) ggX4_isAmongAllMoves_X2_endsFrom
set_option maxRecDepth 20000 in
theorem ggX4_isAmongAllMoves_X4_isIn : GoodIn wsX4_isAmongAllMoves wsX4_isIn := goodIn_r _ [29] (by decide +kernel) (by decide +kernel)
set_option maxRecDepth 20000 in
theorem gX4_isAmongAllMoves_X4_isIn : GoodIn wsX4_isAmongAllMoves (va_wsS RX4 204 yX4_isIn wsX4_isIn) := goodIn_app (goodIn_of _ (by decide +kernel)) ggX4_isAmongAllMoves_X4_isIn
theorem dX4_isAmongAllMoves_0 : decode cX4_isAmongAllMoves 0 = .ok (.iconst 0, 1) := by decide +kernel
theorem dX4_isAmongAllMoves_1 : decode cX4_isAmongAllMoves 1 = .ok (.istore_n 3, 1) := by decide +kernel
theorem dX4_isAmongAllMoves_2 : decode cX4_isAmongAllMoves 2 = .ok (.iconst 0, 1) := by decide +kernel
theorem dX4_isAmongAllMoves_3 : decode cX4_isAmongAllMoves 3 = .ok (.istore 4, 2) := by decide +kernel
theorem dX4_isAmongAllMoves_5 : decode cX4_isAmongAllMoves 5 = .ok (.iload 4, 2) := by decide +kernel
theorem dX4_isAmongAllMoves_7 : decode cX4_isAmongAllMoves 7 = .ok (.bipush 25, 2) := by decide +kernel
theorem dX4_isAmongAllMoves_9 : decode cX4_isAmongAllMoves 9 = .ok (.if_icmp .ge 72, 3) := by decide +kernel
theorem dX4_isAmongAllMoves_12 : decode cX4_isAmongAllMoves 12 = .ok (.aload_n 0, 1) := by decide +kernel
theorem dX4_isAmongAllMoves_13 : decode cX4_isAmongAllMoves 13 = .ok (.getfield 153, 3) := by decide +kernel
theorem dX4_isAmongAllMoves_16 : decode cX4_isAmongAllMoves 16 = .ok (.iload 4, 2) := by decide +kernel
theorem dX4_isAmongAllMoves_18 : decode cX4_isAmongAllMoves 18 = .ok (.aload_n 0, 1) := by decide +kernel
theorem dX4_isAmongAllMoves_19 : decode cX4_isAmongAllMoves 19 = .ok (.invokevirtual 154, 3) := by decide +kernel
theorem dX4_isAmongAllMoves_22 : decode cX4_isAmongAllMoves 22 = .ok (.aload_n 0, 1) := by decide +kernel
theorem dX4_isAmongAllMoves_23 : decode cX4_isAmongAllMoves 23 = .ok (.invokevirtual 158, 3) := by decide +kernel
theorem dX4_isAmongAllMoves_26 : decode cX4_isAmongAllMoves 26 = .ok (.aload_n 0, 1) := by decide +kernel
theorem dX4_isAmongAllMoves_27 : decode cX4_isAmongAllMoves 27 = .ok (.invokevirtual 161, 3) := by decide +kernel
theorem dX4_isAmongAllMoves_30 : decode cX4_isAmongAllMoves 30 = .ok (.invokevirtual 200, 3) := by decide +kernel
theorem dX4_isAmongAllMoves_33 : decode cX4_isAmongAllMoves 33 = .ok (.istore 5, 2) := by decide +kernel
theorem dX4_isAmongAllMoves_35 : decode cX4_isAmongAllMoves 35 = .ok (.iconst 0, 1) := by decide +kernel
theorem dX4_isAmongAllMoves_36 : decode cX4_isAmongAllMoves 36 = .ok (.istore 6, 2) := by decide +kernel
theorem dX4_isAmongAllMoves_38 : decode cX4_isAmongAllMoves 38 = .ok (.iload 6, 2) := by decide +kernel
theorem dX4_isAmongAllMoves_40 : decode cX4_isAmongAllMoves 40 = .ok (.bipush 25, 2) := by decide +kernel
theorem dX4_isAmongAllMoves_42 : decode cX4_isAmongAllMoves 42 = .ok (.if_icmp .ge 33, 3) := by decide +kernel
theorem dX4_isAmongAllMoves_45 : decode cX4_isAmongAllMoves 45 = .ok (.iload 5, 2) := by decide +kernel
theorem dX4_isAmongAllMoves_47 : decode cX4_isAmongAllMoves 47 = .ok (.iload 6, 2) := by decide +kernel
theorem dX4_isAmongAllMoves_49 : decode cX4_isAmongAllMoves 49 = .ok (.invokestatic 204, 3) := by decide +kernel
theorem dX4_isAmongAllMoves_52 : decode cX4_isAmongAllMoves 52 = .ok (.ifCond .eq 17, 3) := by decide +kernel
theorem dX4_isAmongAllMoves_55 : decode cX4_isAmongAllMoves 55 = .ok (.iload 4, 2) := by decide +kernel
theorem dX4_isAmongAllMoves_57 : decode cX4_isAmongAllMoves 57 = .ok (.iload_n 1, 1) := by decide +kernel
theorem dX4_isAmongAllMoves_58 : decode cX4_isAmongAllMoves 58 = .ok (.if_icmp .ne 11, 3) := by decide +kernel
theorem dX4_isAmongAllMoves_61 : decode cX4_isAmongAllMoves 61 = .ok (.iload 6, 2) := by decide +kernel
theorem dX4_isAmongAllMoves_63 : decode cX4_isAmongAllMoves 63 = .ok (.iload_n 2, 1) := by decide +kernel
theorem dX4_isAmongAllMoves_64 : decode cX4_isAmongAllMoves 64 = .ok (.if_icmp .ne 5, 3) := by decide +kernel
theorem dX4_isAmongAllMoves_67 : decode cX4_isAmongAllMoves 67 = .ok (.iconst 1, 1) := by decide +kernel
theorem dX4_isAmongAllMoves_68 : decode cX4_isAmongAllMoves 68 = .ok (.istore_n 3, 1) := by decide +kernel
theorem dX4_isAmongAllMoves_69 : decode cX4_isAmongAllMoves 69 = .ok (.iinc 6 1, 3) := by decide +kernel
theorem dX4_isAmongAllMoves_72 : decode cX4_isAmongAllMoves 72 = .ok (.goto (-34), 3) := by decide +kernel
theorem dX4_isAmongAllMoves_75 : decode cX4_isAmongAllMoves 75 = .ok (.iinc 4 1, 3) := by decide +kernel
theorem dX4_isAmongAllMoves_78 : decode cX4_isAmongAllMoves 78 = .ok (.goto (-73), 3) := by decide +kernel
theorem dX4_isAmongAllMoves_81 : decode cX4_isAmongAllMoves 81 = .ok (.iload_n 3, 1) := by decide +kernel
theorem dX4_isAmongAllMoves_82 : decode cX4_isAmongAllMoves 82 = .ok (.ireturn, 1) := by decide +kernel
set_option maxRecDepth 20000 in
theorem ggX4_searchWithCuts_X2_hasMove : GoodIn wsX4_searchWithCuts wsX2_hasMove := goodIn_r _ [9, 10, 11, 12, 8, 13, 14, 15, 16, 17, 18, 19, 20, 21, 22, 23, 24, 25, 26, 27, 28, 29, 30, 31, 32, 33, 34, 49, 50, 51, 52, 53, 54, 55] (by decide +kernel) (by decide +kernel)
set_option maxRecDepth 20000 in
theorem gX4_searchWithCuts_X2_hasMove : GoodIn wsX4_searchWithCuts (wsV RX4 102 RX2 yX2_hasMove wsX2_hasMove) := goodIn_app (goodIn_of _ (by decide +kernel)) ggX4_searchWithCuts_X2_hasMove
set_option maxRecDepth 20000 in
theorem ggX4_searchWithCuts_J6_bitCount_0f7a4 : GoodIn wsX4_searchWithCuts wsJ6_bitCount_0f7a4 := goodIn_r _ [38, 39, 40, 41] (by decide +kernel) (by decide +kernel)
set_option maxRecDepth 20000 in
theorem gX4_searchWithCuts_J6_bitCount_0f7a4 : GoodIn wsX4_searchWithCuts (va_wsS RX4 175 yJ6_bitCount_0f7a4 wsJ6_bitCount_0f7a4) := goodIn_app (goodIn_of _ (by decide +kernel)) ggX4_searchWithCuts_J6_bitCount_0f7a4
set_option maxRecDepth 20000 in
theorem ggX4_searchWithCuts_X2_endsFrom : GoodIn wsX4_searchWithCuts wsX2_endsFrom := goodIn_r _ [13, 14, 15, 16, 17, 18, 19, 20, 21, 22, 23, 24, 25, 26, 27, 28, 29, 30, 31, 32, 33, 34, 49, 50, 51, 52, 53, 54, 55] (by decide +kernel) (by decide +kernel)
set_option maxRecDepth 20000 in
theorem gX4_searchWithCuts_X2_endsFrom : GoodIn wsX4_searchWithCuts (wsV RX4 200 RX2 yX2_endsFrom wsX2_endsFrom) := goodIn_app (goodIn_of _ (by decide +kernel)) ggX4_searchWithCuts_X2_endsFrom
set_option maxRecDepth 20000 in
theorem ggX4_searchWithCuts_X4_isIn : GoodIn wsX4_searchWithCuts wsX4_isIn := goodIn_r _ [19] (by decide +kernel) (by decide +kernel)
set_option maxRecDepth 20000 in
theorem gX4_searchWithCuts_X4_isIn : GoodIn wsX4_searchWithCuts (va_wsS RX4 204 yX4_isIn wsX4_isIn) := goodIn_app (goodIn_of _ (by decide +kernel)) ggX4_searchWithCuts_X4_isIn
set_option maxRecDepth 20000 in
theorem ggX4_searchWithCuts_X4_moved : GoodIn wsX4_searchWithCuts wsX4_moved := goodIn_r _ [46] (by decide +kernel) (by decide +kernel)
set_option maxRecDepth 20000 in
theorem gX4_searchWithCuts_X4_moved : GoodIn wsX4_searchWithCuts (va_wsS RX4 207 yX4_moved wsX4_moved) := goodIn_app (goodIn_of _ (by decide +kernel)) ggX4_searchWithCuts_X4_moved
set_option maxRecDepth 20000 in
theorem ggX4_searchWithCuts_X4_searchWithCuts : GoodIn wsX4_searchWithCuts wsX4_searchWithCuts := goodIn_r _ [0, 1, 2, 3, 4, 5, 6, 7, 8, 9, 10, 11, 12, 13, 14, 15, 16, 17, 18, 19, 20, 21, 22, 23, 24, 25, 26, 27, 28, 29, 30, 31, 32, 33, 34, 35, 36, 37, 38, 39, 40, 41, 42, 43, 44, 45, 46, 47, 48, 49, 50, 51, 52, 53, 54, 55] (by decide +kernel) (by decide +kernel)
set_option maxRecDepth 20000 in
theorem gX4_searchWithCuts_X4_searchWithCuts : GoodIn wsX4_searchWithCuts (va_wsS RX4 164 yX4_searchWithCuts wsX4_searchWithCuts) := goodIn_app (goodIn_of _ (by decide +kernel)) ggX4_searchWithCuts_X4_searchWithCuts
theorem dX4_searchWithCuts_0 : decode cX4_searchWithCuts 0 = .ok (.aload_n 0, 1) := by decide +kernel
theorem dX4_searchWithCuts_1 : decode cX4_searchWithCuts 1 = .ok (.iload_n 1, 1) := by decide +kernel
theorem dX4_searchWithCuts_2 : decode cX4_searchWithCuts 2 = .ok (.iload_n 2, 1) := by decide +kernel
theorem dX4_searchWithCuts_3 : decode cX4_searchWithCuts 3 = .ok (.iload_n 3, 1) := by decide +kernel
theorem dX4_searchWithCuts_4 : decode cX4_searchWithCuts 4 = .ok (.invokevirtual 102, 3) := by decide +kernel
theorem dX4_searchWithCuts_7 : decode cX4_searchWithCuts 7 = .ok (.ifCond .ne 6, 3) := by decide +kernel
theorem dX4_searchWithCuts_10 : decode cX4_searchWithCuts 10 = .ok (.bipush (-100), 2) := by decide +kernel
theorem dX4_searchWithCuts_12 : decode cX4_searchWithCuts 12 = .ok (.ireturn, 1) := by decide +kernel
theorem dX4_searchWithCuts_13 : decode cX4_searchWithCuts 13 = .ok (.iload 4, 2) := by decide +kernel
theorem dX4_searchWithCuts_15 : decode cX4_searchWithCuts 15 = .ok (.ifCond .gt 13, 3) := by decide +kernel
theorem dX4_searchWithCuts_18 : decode cX4_searchWithCuts 18 = .ok (.iload_n 1, 1) := by decide +kernel
theorem dX4_searchWithCuts_19 : decode cX4_searchWithCuts 19 = .ok (.invokestatic 175, 3) := by decide +kernel
theorem dX4_searchWithCuts_22 : decode cX4_searchWithCuts 22 = .ok (.iload_n 2, 1) := by decide +kernel
theorem dX4_searchWithCuts_23 : decode cX4_searchWithCuts 23 = .ok (.invokestatic 175, 3) := by decide +kernel
theorem dX4_searchWithCuts_26 : decode cX4_searchWithCuts 26 = .ok (.isub, 1) := by decide +kernel
theorem dX4_searchWithCuts_27 : decode cX4_searchWithCuts 27 = .ok (.ireturn, 1) := by decide +kernel
theorem dX4_searchWithCuts_28 : decode cX4_searchWithCuts 28 = .ok (.bipush (-100), 2) := by decide +kernel
theorem dX4_searchWithCuts_30 : decode cX4_searchWithCuts 30 = .ok (.istore 7, 2) := by decide +kernel
theorem dX4_searchWithCuts_32 : decode cX4_searchWithCuts 32 = .ok (.iconst 0, 1) := by decide +kernel
theorem dX4_searchWithCuts_33 : decode cX4_searchWithCuts 33 = .ok (.istore 8, 2) := by decide +kernel
theorem dX4_searchWithCuts_35 : decode cX4_searchWithCuts 35 = .ok (.iload 8, 2) := by decide +kernel
theorem dX4_searchWithCuts_37 : decode cX4_searchWithCuts 37 = .ok (.bipush 25, 2) := by decide +kernel
theorem dX4_searchWithCuts_39 : decode cX4_searchWithCuts 39 = .ok (.if_icmp .ge 112, 3) := by decide +kernel
theorem dX4_searchWithCuts_42 : decode cX4_searchWithCuts 42 = .ok (.aload_n 0, 1) := by decide +kernel
theorem dX4_searchWithCuts_43 : decode cX4_searchWithCuts 43 = .ok (.iload 8, 2) := by decide +kernel
theorem dX4_searchWithCuts_45 : decode cX4_searchWithCuts 45 = .ok (.iload_n 1, 1) := by decide +kernel
theorem dX4_searchWithCuts_46 : decode cX4_searchWithCuts 46 = .ok (.iload_n 2, 1) := by decide +kernel
theorem dX4_searchWithCuts_47 : decode cX4_searchWithCuts 47 = .ok (.iload_n 3, 1) := by decide +kernel
theorem dX4_searchWithCuts_48 : decode cX4_searchWithCuts 48 = .ok (.invokevirtual 200, 3) := by decide +kernel
theorem dX4_searchWithCuts_51 : decode cX4_searchWithCuts 51 = .ok (.istore 9, 2) := by decide +kernel
theorem dX4_searchWithCuts_53 : decode cX4_searchWithCuts 53 = .ok (.iconst 0, 1) := by decide +kernel
theorem dX4_searchWithCuts_54 : decode cX4_searchWithCuts 54 = .ok (.istore 10, 2) := by decide +kernel
theorem dX4_searchWithCuts_56 : decode cX4_searchWithCuts 56 = .ok (.iload 10, 2) := by decide +kernel
theorem dX4_searchWithCuts_58 : decode cX4_searchWithCuts 58 = .ok (.bipush 25, 2) := by decide +kernel
theorem dX4_searchWithCuts_60 : decode cX4_searchWithCuts 60 = .ok (.if_icmp .ge 85, 3) := by decide +kernel
theorem dX4_searchWithCuts_63 : decode cX4_searchWithCuts 63 = .ok (.iload 9, 2) := by decide +kernel
theorem dX4_searchWithCuts_65 : decode cX4_searchWithCuts 65 = .ok (.iload 10, 2) := by decide +kernel
theorem dX4_searchWithCuts_67 : decode cX4_searchWithCuts 67 = .ok (.invokestatic 204, 3) := by decide +kernel
theorem dX4_searchWithCuts_70 : decode cX4_searchWithCuts 70 = .ok (.ifCond .eq 69, 3) := by decide +kernel
theorem dX4_searchWithCuts_73 : decode cX4_searchWithCuts 73 = .ok (.aload_n 0, 1) := by decide +kernel
theorem dX4_searchWithCuts_74 : decode cX4_searchWithCuts 74 = .ok (.iload_n 2, 1) := by decide +kernel
theorem dX4_searchWithCuts_75 : decode cX4_searchWithCuts 75 = .ok (.iconst 1, 1) := by decide +kernel
theorem dX4_searchWithCuts_76 : decode cX4_searchWithCuts 76 = .ok (.iload 10, 2) := by decide +kernel
theorem dX4_searchWithCuts_78 : decode cX4_searchWithCuts 78 = .ok (.ishl, 1) := by decide +kernel
theorem dX4_searchWithCuts_79 : decode cX4_searchWithCuts 79 = .ok (.iconst (-1), 1) := by decide +kernel
theorem dX4_searchWithCuts_80 : decode cX4_searchWithCuts 80 = .ok (.ixor, 1) := by decide +kernel
theorem dX4_searchWithCuts_81 : decode cX4_searchWithCuts 81 = .ok (.iand, 1) := by decide +kernel
theorem dX4_searchWithCuts_82 : decode cX4_searchWithCuts 82 = .ok (.iload_n 1, 1) := by decide +kernel
theorem dX4_searchWithCuts_83 : decode cX4_searchWithCuts 83 = .ok (.iload 8, 2) := by decide +kernel
theorem dX4_searchWithCuts_85 : decode cX4_searchWithCuts 85 = .ok (.iload 10, 2) := by decide +kernel
theorem dX4_searchWithCuts_87 : decode cX4_searchWithCuts 87 = .ok (.invokestatic 207, 3) := by decide +kernel
theorem dX4_searchWithCuts_90 : decode cX4_searchWithCuts 90 = .ok (.iload_n 3, 1) := by decide +kernel
theorem dX4_searchWithCuts_91 : decode cX4_searchWithCuts 91 = .ok (.ifCond .ne 7, 3) := by decide +kernel
theorem dX4_searchWithCuts_94 : decode cX4_searchWithCuts 94 = .ok (.iconst 1, 1) := by decide +kernel
theorem dX4_searchWithCuts_95 : decode cX4_searchWithCuts 95 = .ok (.goto 4, 3) := by decide +kernel
theorem dX4_searchWithCuts_98 : decode cX4_searchWithCuts 98 = .ok (.iconst 0, 1) := by decide +kernel
theorem dX4_searchWithCuts_99 : decode cX4_searchWithCuts 99 = .ok (.iload 4, 2) := by decide +kernel
theorem dX4_searchWithCuts_101 : decode cX4_searchWithCuts 101 = .ok (.iconst 1, 1) := by decide +kernel
theorem dX4_searchWithCuts_102 : decode cX4_searchWithCuts 102 = .ok (.isub, 1) := by decide +kernel
theorem dX4_searchWithCuts_103 : decode cX4_searchWithCuts 103 = .ok (.iload 6, 2) := by decide +kernel
theorem dX4_searchWithCuts_105 : decode cX4_searchWithCuts 105 = .ok (.ineg, 1) := by decide +kernel
theorem dX4_searchWithCuts_106 : decode cX4_searchWithCuts 106 = .ok (.iload 5, 2) := by decide +kernel
theorem dX4_searchWithCuts_108 : decode cX4_searchWithCuts 108 = .ok (.iload 7, 2) := by decide +kernel
theorem dX4_searchWithCuts_110 : decode cX4_searchWithCuts 110 = .ok (.invokestatic 211, 3) := by decide +kernel
theorem dX4_searchWithCuts_113 : decode cX4_searchWithCuts 113 = .ok (.ineg, 1) := by decide +kernel
theorem dX4_searchWithCuts_114 : decode cX4_searchWithCuts 114 = .ok (.invokestatic 164, 3) := by decide +kernel
theorem dX4_searchWithCuts_117 : decode cX4_searchWithCuts 117 = .ok (.ineg, 1) := by decide +kernel
theorem dX4_searchWithCuts_118 : decode cX4_searchWithCuts 118 = .ok (.istore 11, 2) := by decide +kernel
theorem dX4_searchWithCuts_120 : decode cX4_searchWithCuts 120 = .ok (.iload 7, 2) := by decide +kernel
theorem dX4_searchWithCuts_122 : decode cX4_searchWithCuts 122 = .ok (.iload 11, 2) := by decide +kernel
theorem dX4_searchWithCuts_124 : decode cX4_searchWithCuts 124 = .ok (.invokestatic 211, 3) := by decide +kernel
theorem dX4_searchWithCuts_127 : decode cX4_searchWithCuts 127 = .ok (.istore 7, 2) := by decide +kernel
theorem dX4_searchWithCuts_129 : decode cX4_searchWithCuts 129 = .ok (.iload 7, 2) := by decide +kernel
theorem dX4_searchWithCuts_131 : decode cX4_searchWithCuts 131 = .ok (.iload 6, 2) := by decide +kernel
theorem dX4_searchWithCuts_133 : decode cX4_searchWithCuts 133 = .ok (.if_icmp .lt 6, 3) := by decide +kernel
theorem dX4_searchWithCuts_136 : decode cX4_searchWithCuts 136 = .ok (.iload 7, 2) := by decide +kernel
theorem dX4_searchWithCuts_138 : decode cX4_searchWithCuts 138 = .ok (.ireturn, 1) := by decide +kernel
theorem dX4_searchWithCuts_139 : decode cX4_searchWithCuts 139 = .ok (.iinc 10 1, 3) := by decide +kernel
theorem dX4_searchWithCuts_142 : decode cX4_searchWithCuts 142 = .ok (.goto (-86), 3) := by decide +kernel
theorem dX4_searchWithCuts_145 : decode cX4_searchWithCuts 145 = .ok (.iinc 8 1, 3) := by decide +kernel
theorem dX4_searchWithCuts_148 : decode cX4_searchWithCuts 148 = .ok (.goto (-113), 3) := by decide +kernel
theorem dX4_searchWithCuts_151 : decode cX4_searchWithCuts 151 = .ok (.iload 7, 2) := by decide +kernel
theorem dX4_searchWithCuts_153 : decode cX4_searchWithCuts 153 = .ok (.ireturn, 1) := by decide +kernel
set_option maxRecDepth 20000 in
theorem ggX4_searchAll_X2_hasMove : GoodIn wsX4_searchAll wsX2_hasMove := goodIn_r _ [9, 10, 11, 12, 8, 13, 14, 15, 16, 17, 18, 19, 20, 21, 22, 23, 24, 25, 26, 27, 28, 29, 30, 31, 32, 33, 34, 49, 50, 51, 52, 53, 54, 55] (by decide +kernel) (by decide +kernel)
set_option maxRecDepth 20000 in
theorem gX4_searchAll_X2_hasMove : GoodIn wsX4_searchAll (wsV RX4 102 RX2 yX2_hasMove wsX2_hasMove) := goodIn_app (goodIn_of _ (by decide +kernel)) ggX4_searchAll_X2_hasMove
set_option maxRecDepth 20000 in
theorem ggX4_searchAll_J6_bitCount_0f7a4 : GoodIn wsX4_searchAll wsJ6_bitCount_0f7a4 := goodIn_r _ [38, 39, 40, 41] (by decide +kernel) (by decide +kernel)
set_option maxRecDepth 20000 in
theorem gX4_searchAll_J6_bitCount_0f7a4 : GoodIn wsX4_searchAll (va_wsS RX4 175 yJ6_bitCount_0f7a4 wsJ6_bitCount_0f7a4) := goodIn_app (goodIn_of _ (by decide +kernel)) ggX4_searchAll_J6_bitCount_0f7a4
set_option maxRecDepth 20000 in
theorem ggX4_searchAll_X2_endsFrom : GoodIn wsX4_searchAll wsX2_endsFrom := goodIn_r _ [13, 14, 15, 16, 17, 18, 19, 20, 21, 22, 23, 24, 25, 26, 27, 28, 29, 30, 31, 32, 33, 34, 49, 50, 51, 52, 53, 54, 55] (by decide +kernel) (by decide +kernel)
set_option maxRecDepth 20000 in
theorem gX4_searchAll_X2_endsFrom : GoodIn wsX4_searchAll (wsV RX4 200 RX2 yX2_endsFrom wsX2_endsFrom) := goodIn_app (goodIn_of _ (by decide +kernel)) ggX4_searchAll_X2_endsFrom
set_option maxRecDepth 20000 in
theorem ggX4_searchAll_X4_isIn : GoodIn wsX4_searchAll wsX4_isIn := goodIn_r _ [19] (by decide +kernel) (by decide +kernel)
set_option maxRecDepth 20000 in
theorem gX4_searchAll_X4_isIn : GoodIn wsX4_searchAll (va_wsS RX4 204 yX4_isIn wsX4_isIn) := goodIn_app (goodIn_of _ (by decide +kernel)) ggX4_searchAll_X4_isIn
set_option maxRecDepth 20000 in
theorem ggX4_searchAll_X4_moved : GoodIn wsX4_searchAll wsX4_moved := goodIn_r _ [46] (by decide +kernel) (by decide +kernel)
set_option maxRecDepth 20000 in
theorem gX4_searchAll_X4_moved : GoodIn wsX4_searchAll (va_wsS RX4 207 yX4_moved wsX4_moved) := goodIn_app (goodIn_of _ (by decide +kernel)) ggX4_searchAll_X4_moved
set_option maxRecDepth 20000 in
theorem ggX4_searchAll_X4_searchAll : GoodIn wsX4_searchAll wsX4_searchAll := goodIn_r _ [0, 1, 2, 3, 4, 5, 6, 7, 8, 9, 10, 11, 12, 13, 14, 15, 16, 17, 18, 19, 20, 21, 22, 23, 24, 25, 26, 27, 28, 29, 30, 31, 32, 33, 34, 35, 36, 37, 38, 39, 40, 41, 42, 43, 44, 45, 46, 47, 48, 49, 50, 51, 52, 53, 54, 55] (by decide +kernel) (by decide +kernel)
set_option maxRecDepth 20000 in
theorem gX4_searchAll_X4_searchAll : GoodIn wsX4_searchAll (va_wsS RX4 168 yX4_searchAll wsX4_searchAll) := goodIn_app (goodIn_of _ (by decide +kernel)) ggX4_searchAll_X4_searchAll
theorem dX4_searchAll_0 : decode cX4_searchAll 0 = .ok (.aload_n 0, 1) := by decide +kernel
theorem dX4_searchAll_1 : decode cX4_searchAll 1 = .ok (.iload_n 1, 1) := by decide +kernel
theorem dX4_searchAll_2 : decode cX4_searchAll 2 = .ok (.iload_n 2, 1) := by decide +kernel
theorem dX4_searchAll_3 : decode cX4_searchAll 3 = .ok (.iload_n 3, 1) := by decide +kernel
theorem dX4_searchAll_4 : decode cX4_searchAll 4 = .ok (.invokevirtual 102, 3) := by decide +kernel
theorem dX4_searchAll_7 : decode cX4_searchAll 7 = .ok (.ifCond .ne 6, 3) := by decide +kernel
theorem dX4_searchAll_10 : decode cX4_searchAll 10 = .ok (.bipush (-100), 2) := by decide +kernel
theorem dX4_searchAll_12 : decode cX4_searchAll 12 = .ok (.ireturn, 1) := by decide +kernel
theorem dX4_searchAll_13 : decode cX4_searchAll 13 = .ok (.iload 4, 2) := by decide +kernel
theorem dX4_searchAll_15 : decode cX4_searchAll 15 = .ok (.ifCond .gt 13, 3) := by decide +kernel
theorem dX4_searchAll_18 : decode cX4_searchAll 18 = .ok (.iload_n 1, 1) := by decide +kernel
theorem dX4_searchAll_19 : decode cX4_searchAll 19 = .ok (.invokestatic 175, 3) := by decide +kernel
theorem dX4_searchAll_22 : decode cX4_searchAll 22 = .ok (.iload_n 2, 1) := by decide +kernel
theorem dX4_searchAll_23 : decode cX4_searchAll 23 = .ok (.invokestatic 175, 3) := by decide +kernel
theorem dX4_searchAll_26 : decode cX4_searchAll 26 = .ok (.isub, 1) := by decide +kernel
theorem dX4_searchAll_27 : decode cX4_searchAll 27 = .ok (.ireturn, 1) := by decide +kernel
theorem dX4_searchAll_28 : decode cX4_searchAll 28 = .ok (.bipush (-100), 2) := by decide +kernel
theorem dX4_searchAll_30 : decode cX4_searchAll 30 = .ok (.istore 5, 2) := by decide +kernel
theorem dX4_searchAll_32 : decode cX4_searchAll 32 = .ok (.iconst 0, 1) := by decide +kernel
theorem dX4_searchAll_33 : decode cX4_searchAll 33 = .ok (.istore 6, 2) := by decide +kernel
theorem dX4_searchAll_35 : decode cX4_searchAll 35 = .ok (.iload 6, 2) := by decide +kernel
theorem dX4_searchAll_37 : decode cX4_searchAll 37 = .ok (.bipush 25, 2) := by decide +kernel
theorem dX4_searchAll_39 : decode cX4_searchAll 39 = .ok (.if_icmp .ge 87, 3) := by decide +kernel
theorem dX4_searchAll_42 : decode cX4_searchAll 42 = .ok (.aload_n 0, 1) := by decide +kernel
theorem dX4_searchAll_43 : decode cX4_searchAll 43 = .ok (.iload 6, 2) := by decide +kernel
theorem dX4_searchAll_45 : decode cX4_searchAll 45 = .ok (.iload_n 1, 1) := by decide +kernel
theorem dX4_searchAll_46 : decode cX4_searchAll 46 = .ok (.iload_n 2, 1) := by decide +kernel
theorem dX4_searchAll_47 : decode cX4_searchAll 47 = .ok (.iload_n 3, 1) := by decide +kernel
theorem dX4_searchAll_48 : decode cX4_searchAll 48 = .ok (.invokevirtual 200, 3) := by decide +kernel
theorem dX4_searchAll_51 : decode cX4_searchAll 51 = .ok (.istore 7, 2) := by decide +kernel
theorem dX4_searchAll_53 : decode cX4_searchAll 53 = .ok (.iconst 0, 1) := by decide +kernel
theorem dX4_searchAll_54 : decode cX4_searchAll 54 = .ok (.istore 8, 2) := by decide +kernel
theorem dX4_searchAll_56 : decode cX4_searchAll 56 = .ok (.iload 8, 2) := by decide +kernel
theorem dX4_searchAll_58 : decode cX4_searchAll 58 = .ok (.bipush 25, 2) := by decide +kernel
theorem dX4_searchAll_60 : decode cX4_searchAll 60 = .ok (.if_icmp .ge 60, 3) := by decide +kernel
theorem dX4_searchAll_63 : decode cX4_searchAll 63 = .ok (.iload 7, 2) := by decide +kernel
theorem dX4_searchAll_65 : decode cX4_searchAll 65 = .ok (.iload 8, 2) := by decide +kernel
theorem dX4_searchAll_67 : decode cX4_searchAll 67 = .ok (.invokestatic 204, 3) := by decide +kernel
theorem dX4_searchAll_70 : decode cX4_searchAll 70 = .ok (.ifCond .eq 44, 3) := by decide +kernel
theorem dX4_searchAll_73 : decode cX4_searchAll 73 = .ok (.iload 5, 2) := by decide +kernel
theorem dX4_searchAll_75 : decode cX4_searchAll 75 = .ok (.aload_n 0, 1) := by decide +kernel
theorem dX4_searchAll_76 : decode cX4_searchAll 76 = .ok (.iload_n 2, 1) := by decide +kernel
theorem dX4_searchAll_77 : decode cX4_searchAll 77 = .ok (.iconst 1, 1) := by decide +kernel
theorem dX4_searchAll_78 : decode cX4_searchAll 78 = .ok (.iload 8, 2) := by decide +kernel
theorem dX4_searchAll_80 : decode cX4_searchAll 80 = .ok (.ishl, 1) := by decide +kernel
theorem dX4_searchAll_81 : decode cX4_searchAll 81 = .ok (.iconst (-1), 1) := by decide +kernel
theorem dX4_searchAll_82 : decode cX4_searchAll 82 = .ok (.ixor, 1) := by decide +kernel
theorem dX4_searchAll_83 : decode cX4_searchAll 83 = .ok (.iand, 1) := by decide +kernel
theorem dX4_searchAll_84 : decode cX4_searchAll 84 = .ok (.iload_n 1, 1) := by decide +kernel
theorem dX4_searchAll_85 : decode cX4_searchAll 85 = .ok (.iload 6, 2) := by decide +kernel
theorem dX4_searchAll_87 : decode cX4_searchAll 87 = .ok (.iload 8, 2) := by decide +kernel
theorem dX4_searchAll_89 : decode cX4_searchAll 89 = .ok (.invokestatic 207, 3) := by decide +kernel
theorem dX4_searchAll_92 : decode cX4_searchAll 92 = .ok (.iload_n 3, 1) := by decide +kernel
theorem dX4_searchAll_93 : decode cX4_searchAll 93 = .ok (.ifCond .ne 7, 3) := by decide +kernel
theorem dX4_searchAll_96 : decode cX4_searchAll 96 = .ok (.iconst 1, 1) := by decide +kernel
theorem dX4_searchAll_97 : decode cX4_searchAll 97 = .ok (.goto 4, 3) := by decide +kernel
theorem dX4_searchAll_100 : decode cX4_searchAll 100 = .ok (.iconst 0, 1) := by decide +kernel
theorem dX4_searchAll_101 : decode cX4_searchAll 101 = .ok (.iload 4, 2) := by decide +kernel
theorem dX4_searchAll_103 : decode cX4_searchAll 103 = .ok (.iconst 1, 1) := by decide +kernel
theorem dX4_searchAll_104 : decode cX4_searchAll 104 = .ok (.isub, 1) := by decide +kernel
theorem dX4_searchAll_105 : decode cX4_searchAll 105 = .ok (.invokestatic 168, 3) := by decide +kernel
theorem dX4_searchAll_108 : decode cX4_searchAll 108 = .ok (.ineg, 1) := by decide +kernel
theorem dX4_searchAll_109 : decode cX4_searchAll 109 = .ok (.invokestatic 211, 3) := by decide +kernel
theorem dX4_searchAll_112 : decode cX4_searchAll 112 = .ok (.istore 5, 2) := by decide +kernel
theorem dX4_searchAll_114 : decode cX4_searchAll 114 = .ok (.iinc 8 1, 3) := by decide +kernel
theorem dX4_searchAll_117 : decode cX4_searchAll 117 = .ok (.goto (-61), 3) := by decide +kernel
theorem dX4_searchAll_120 : decode cX4_searchAll 120 = .ok (.iinc 6 1, 3) := by decide +kernel
theorem dX4_searchAll_123 : decode cX4_searchAll 123 = .ok (.goto (-88), 3) := by decide +kernel
theorem dX4_searchAll_126 : decode cX4_searchAll 126 = .ok (.iload 5, 2) := by decide +kernel
theorem dX4_searchAll_128 : decode cX4_searchAll 128 = .ok (.ireturn, 1) := by decide +kernel
theorem dX4_moved_0 : decode cX4_moved 0 = .ok (.iload_n 0, 1) := by decide +kernel
theorem dX4_moved_1 : decode cX4_moved 1 = .ok (.iconst 1, 1) := by decide +kernel
theorem dX4_moved_2 : decode cX4_moved 2 = .ok (.iload_n 1, 1) := by decide +kernel
theorem dX4_moved_3 : decode cX4_moved 3 = .ok (.ishl, 1) := by decide +kernel
theorem dX4_moved_4 : decode cX4_moved 4 = .ok (.iconst (-1), 1) := by decide +kernel
theorem dX4_moved_5 : decode cX4_moved 5 = .ok (.ixor, 1) := by decide +kernel
theorem dX4_moved_6 : decode cX4_moved 6 = .ok (.iand, 1) := by decide +kernel
theorem dX4_moved_7 : decode cX4_moved 7 = .ok (.iconst 1, 1) := by decide +kernel
theorem dX4_moved_8 : decode cX4_moved 8 = .ok (.iload_n 2, 1) := by decide +kernel
theorem dX4_moved_9 : decode cX4_moved 9 = .ok (.ishl, 1) := by decide +kernel
theorem dX4_moved_10 : decode cX4_moved 10 = .ok (.ior, 1) := by decide +kernel
theorem dX4_moved_11 : decode cX4_moved 11 = .ok (.ireturn, 1) := by decide +kernel
theorem dJ6_bitCount_0f7a4_0 : decode cJ6_bitCount_0f7a4 0 = .ok (.iload_n 0, 1) := by decide +kernel
theorem dJ6_bitCount_0f7a4_1 : decode cJ6_bitCount_0f7a4 1 = .ok (.iload_n 0, 1) := by decide +kernel
theorem dJ6_bitCount_0f7a4_2 : decode cJ6_bitCount_0f7a4 2 = .ok (.iconst 1, 1) := by decide +kernel
theorem dJ6_bitCount_0f7a4_3 : decode cJ6_bitCount_0f7a4 3 = .ok (.iushr, 1) := by decide +kernel
theorem dJ6_bitCount_0f7a4_4 : decode cJ6_bitCount_0f7a4 4 = .ok (.ldc_w 265, 3) := by decide +kernel
theorem dJ6_bitCount_0f7a4_7 : decode cJ6_bitCount_0f7a4 7 = .ok (.iand, 1) := by decide +kernel
theorem dJ6_bitCount_0f7a4_8 : decode cJ6_bitCount_0f7a4 8 = .ok (.isub, 1) := by decide +kernel
theorem dJ6_bitCount_0f7a4_9 : decode cJ6_bitCount_0f7a4 9 = .ok (.istore_n 0, 1) := by decide +kernel
theorem dJ6_bitCount_0f7a4_10 : decode cJ6_bitCount_0f7a4 10 = .ok (.iload_n 0, 1) := by decide +kernel
theorem dJ6_bitCount_0f7a4_11 : decode cJ6_bitCount_0f7a4 11 = .ok (.ldc_w 266, 3) := by decide +kernel
theorem dJ6_bitCount_0f7a4_14 : decode cJ6_bitCount_0f7a4 14 = .ok (.iand, 1) := by decide +kernel
theorem dJ6_bitCount_0f7a4_15 : decode cJ6_bitCount_0f7a4 15 = .ok (.iload_n 0, 1) := by decide +kernel
theorem dJ6_bitCount_0f7a4_16 : decode cJ6_bitCount_0f7a4 16 = .ok (.iconst 2, 1) := by decide +kernel
theorem dJ6_bitCount_0f7a4_17 : decode cJ6_bitCount_0f7a4 17 = .ok (.iushr, 1) := by decide +kernel
theorem dJ6_bitCount_0f7a4_18 : decode cJ6_bitCount_0f7a4 18 = .ok (.ldc_w 266, 3) := by decide +kernel
theorem dJ6_bitCount_0f7a4_21 : decode cJ6_bitCount_0f7a4 21 = .ok (.iand, 1) := by decide +kernel
theorem dJ6_bitCount_0f7a4_22 : decode cJ6_bitCount_0f7a4 22 = .ok (.iadd, 1) := by decide +kernel
theorem dJ6_bitCount_0f7a4_23 : decode cJ6_bitCount_0f7a4 23 = .ok (.istore_n 0, 1) := by decide +kernel
theorem dJ6_bitCount_0f7a4_24 : decode cJ6_bitCount_0f7a4 24 = .ok (.iload_n 0, 1) := by decide +kernel
theorem dJ6_bitCount_0f7a4_25 : decode cJ6_bitCount_0f7a4 25 = .ok (.iload_n 0, 1) := by decide +kernel
theorem dJ6_bitCount_0f7a4_26 : decode cJ6_bitCount_0f7a4 26 = .ok (.iconst 4, 1) := by decide +kernel
theorem dJ6_bitCount_0f7a4_27 : decode cJ6_bitCount_0f7a4 27 = .ok (.iushr, 1) := by decide +kernel
theorem dJ6_bitCount_0f7a4_28 : decode cJ6_bitCount_0f7a4 28 = .ok (.iadd, 1) := by decide +kernel
theorem dJ6_bitCount_0f7a4_29 : decode cJ6_bitCount_0f7a4 29 = .ok (.ldc_w 267, 3) := by decide +kernel
theorem dJ6_bitCount_0f7a4_32 : decode cJ6_bitCount_0f7a4 32 = .ok (.iand, 1) := by decide +kernel
theorem dJ6_bitCount_0f7a4_33 : decode cJ6_bitCount_0f7a4 33 = .ok (.istore_n 0, 1) := by decide +kernel
theorem dJ6_bitCount_0f7a4_34 : decode cJ6_bitCount_0f7a4 34 = .ok (.iload_n 0, 1) := by decide +kernel
theorem dJ6_bitCount_0f7a4_35 : decode cJ6_bitCount_0f7a4 35 = .ok (.iload_n 0, 1) := by decide +kernel
theorem dJ6_bitCount_0f7a4_36 : decode cJ6_bitCount_0f7a4 36 = .ok (.bipush 8, 2) := by decide +kernel
theorem dJ6_bitCount_0f7a4_38 : decode cJ6_bitCount_0f7a4 38 = .ok (.iushr, 1) := by decide +kernel
theorem dJ6_bitCount_0f7a4_39 : decode cJ6_bitCount_0f7a4 39 = .ok (.iadd, 1) := by decide +kernel
theorem dJ6_bitCount_0f7a4_40 : decode cJ6_bitCount_0f7a4 40 = .ok (.istore_n 0, 1) := by decide +kernel
theorem dJ6_bitCount_0f7a4_41 : decode cJ6_bitCount_0f7a4 41 = .ok (.iload_n 0, 1) := by decide +kernel
theorem dJ6_bitCount_0f7a4_42 : decode cJ6_bitCount_0f7a4 42 = .ok (.iload_n 0, 1) := by decide +kernel
theorem dJ6_bitCount_0f7a4_43 : decode cJ6_bitCount_0f7a4 43 = .ok (.bipush 16, 2) := by decide +kernel
theorem dJ6_bitCount_0f7a4_45 : decode cJ6_bitCount_0f7a4 45 = .ok (.iushr, 1) := by decide +kernel
theorem dJ6_bitCount_0f7a4_46 : decode cJ6_bitCount_0f7a4 46 = .ok (.iadd, 1) := by decide +kernel
theorem dJ6_bitCount_0f7a4_47 : decode cJ6_bitCount_0f7a4 47 = .ok (.istore_n 0, 1) := by decide +kernel
theorem dJ6_bitCount_0f7a4_48 : decode cJ6_bitCount_0f7a4 48 = .ok (.iload_n 0, 1) := by decide +kernel
theorem dJ6_bitCount_0f7a4_49 : decode cJ6_bitCount_0f7a4 49 = .ok (.bipush 63, 2) := by decide +kernel
theorem dJ6_bitCount_0f7a4_51 : decode cJ6_bitCount_0f7a4 51 = .ok (.iand, 1) := by decide +kernel
theorem dJ6_bitCount_0f7a4_52 : decode cJ6_bitCount_0f7a4 52 = .ok (.ireturn, 1) := by decide +kernel
theorem dJ9_max_7cf53_0 : decode cJ9_max_7cf53 0 = .ok (.iload_n 0, 1) := by decide +kernel
theorem dJ9_max_7cf53_1 : decode cJ9_max_7cf53 1 = .ok (.iload_n 1, 1) := by decide +kernel
theorem dJ9_max_7cf53_2 : decode cJ9_max_7cf53 2 = .ok (.if_icmp .lt 7, 3) := by decide +kernel
theorem dJ9_max_7cf53_5 : decode cJ9_max_7cf53 5 = .ok (.iload_n 0, 1) := by decide +kernel
theorem dJ9_max_7cf53_6 : decode cJ9_max_7cf53 6 = .ok (.goto 4, 3) := by decide +kernel
theorem dJ9_max_7cf53_9 : decode cJ9_max_7cf53 9 = .ok (.iload_n 1, 1) := by decide +kernel
theorem dJ9_max_7cf53_10 : decode cJ9_max_7cf53 10 = .ok (.ireturn, 1) := by decide +kernel
