theorem dL_card_0 : decode cL_card 0 = .ok (.aload 5, 2) := by decide +kernel
theorem dL_card_2 : decode cL_card 2 = .ok (.iconst 0, 1) := by decide +kernel
theorem dL_card_3 : decode cL_card 3 = .ok (.aload_n 0, 1) := by decide +kernel
theorem dL_card_4 : decode cL_card 4 = .ok (.iload_n 1, 1) := by decide +kernel
theorem dL_card_5 : decode cL_card 5 = .ok (.iload_n 2, 1) := by decide +kernel
theorem dL_card_6 : decode cL_card 6 = .ok (.iload_n 3, 1) := by decide +kernel
theorem dL_card_7 : decode cL_card 7 = .ok (.iload 4, 2) := by decide +kernel
theorem dL_card_9 : decode cL_card 9 = .ok (.invokevirtual 7, 3) := by decide +kernel
theorem dL_card_12 : decode cL_card 12 = .ok (.i2l, 1) := by decide +kernel
theorem dL_card_13 : decode cL_card 13 = .ok (.lastore, 1) := by decide +kernel
theorem dL_card_14 : decode cL_card 14 = .ok (.goto 11, 3) := by decide +kernel
theorem dL_card_17 : decode cL_card 17 = .ok (.astore 6, 2) := by decide +kernel
theorem dL_card_19 : decode cL_card 19 = .ok (.iconst 1, 1) := by decide +kernel
theorem dL_card_20 : decode cL_card 20 = .ok (.ireturn, 1) := by decide +kernel
theorem dL_card_21 : decode cL_card 21 = .ok (.astore 6, 2) := by decide +kernel
theorem dL_card_23 : decode cL_card 23 = .ok (.iconst 2, 1) := by decide +kernel
theorem dL_card_24 : decode cL_card 24 = .ok (.ireturn, 1) := by decide +kernel
theorem dL_card_25 : decode cL_card 25 = .ok (.iconst 0, 1) := by decide +kernel
theorem dL_card_26 : decode cL_card 26 = .ok (.ireturn, 1) := by decide +kernel
set_option maxRecDepth 20000 in
theorem ggL_variant_X4_variant : GoodIn wsL_variant wsX4_variant := goodIn_ca (goodIn_ca (goodIn_r _ [7, 8, 9, 10, 11, 12, 13, 14, 15, 16, 17, 18, 19, 20, 21, 22, 23, 24, 6, 25, 26, 27, 28, 29, 30, 31, 32, 33, 34, 35, 36, 37, 38, 39, 40, 41, 42, 43, 44, 45, 46, 47, 48, 49, 50, 51, 52] (by decide +kernel) (by decide +kernel)) (goodIn_sub (fun _ h => List.mem_cons_of_mem _ (List.mem_append_left _ (List.mem_append_right _ h))) (by decide +kernel))) (goodIn_sub (fun _ h => List.mem_cons_of_mem _ (List.mem_append_right _ h)) (by decide +kernel))
set_option maxRecDepth 20000 in
theorem gL_variant_X4_variant : GoodIn wsL_variant (wsV RL 17 RX4 yX4_variant wsX4_variant) := goodIn_app (goodIn_of _ (by decide +kernel)) ggL_variant_X4_variant
theorem dL_variant_0 : decode cL_variant 0 = .ok (.aload_n 3, 1) := by decide +kernel
theorem dL_variant_1 : decode cL_variant 1 = .ok (.iconst 0, 1) := by decide +kernel
theorem dL_variant_2 : decode cL_variant 2 = .ok (.aload_n 0, 1) := by decide +kernel
theorem dL_variant_3 : decode cL_variant 3 = .ok (.iload_n 1, 1) := by decide +kernel
theorem dL_variant_4 : decode cL_variant 4 = .ok (.iload_n 2, 1) := by decide +kernel
theorem dL_variant_5 : decode cL_variant 5 = .ok (.invokevirtual 17, 3) := by decide +kernel
theorem dL_variant_8 : decode cL_variant 8 = .ok (.i2l, 1) := by decide +kernel
theorem dL_variant_9 : decode cL_variant 9 = .ok (.lastore, 1) := by decide +kernel
theorem dL_variant_10 : decode cL_variant 10 = .ok (.goto 11, 3) := by decide +kernel
theorem dL_variant_13 : decode cL_variant 13 = .ok (.astore 4, 2) := by decide +kernel
theorem dL_variant_15 : decode cL_variant 15 = .ok (.iconst 1, 1) := by decide +kernel
theorem dL_variant_16 : decode cL_variant 16 = .ok (.ireturn, 1) := by decide +kernel
theorem dL_variant_17 : decode cL_variant 17 = .ok (.astore 4, 2) := by decide +kernel
theorem dL_variant_19 : decode cL_variant 19 = .ok (.iconst 2, 1) := by decide +kernel
theorem dL_variant_20 : decode cL_variant 20 = .ok (.ireturn, 1) := by decide +kernel
theorem dL_variant_21 : decode cL_variant 21 = .ok (.iconst 0, 1) := by decide +kernel
theorem dL_variant_22 : decode cL_variant 22 = .ok (.ireturn, 1) := by decide +kernel
set_option maxRecDepth 20000 in
theorem ggL_setCards_X4_setCards : GoodIn wsL_setCards wsX4_setCards := goodIn_ca (goodIn_ca (goodIn_r _ [7, 8, 9, 10, 11, 12, 13, 14, 15, 16, 17, 18, 19, 6, 20, 21, 22, 23, 24, 25, 26, 27, 28, 29, 30, 31, 32, 33, 34, 35, 36, 37, 38, 39, 40, 41, 42, 43, 44, 45, 46, 47, 48, 49] (by decide +kernel) (by decide +kernel)) (goodIn_sub (fun _ h => List.mem_cons_of_mem _ (List.mem_append_left _ (List.mem_append_right _ h))) (by decide +kernel))) (goodIn_sub (fun _ h => List.mem_cons_of_mem _ (List.mem_append_right _ h)) (by decide +kernel))
set_option maxRecDepth 20000 in
theorem gL_setCards_X4_setCards : GoodIn wsL_setCards (wsV RL 21 RX4 yX4_setCards wsX4_setCards) := goodIn_app (goodIn_of _ (by decide +kernel)) ggL_setCards_X4_setCards
theorem dL_setCards_0 : decode cL_setCards 0 = .ok (.aload_n 3, 1) := by decide +kernel
theorem dL_setCards_1 : decode cL_setCards 1 = .ok (.iconst 0, 1) := by decide +kernel
theorem dL_setCards_2 : decode cL_setCards 2 = .ok (.aload_n 0, 1) := by decide +kernel
theorem dL_setCards_3 : decode cL_setCards 3 = .ok (.iload_n 1, 1) := by decide +kernel
theorem dL_setCards_4 : decode cL_setCards 4 = .ok (.iload_n 2, 1) := by decide +kernel
theorem dL_setCards_5 : decode cL_setCards 5 = .ok (.invokevirtual 21, 3) := by decide +kernel
theorem dL_setCards_8 : decode cL_setCards 8 = .ok (.i2l, 1) := by decide +kernel
theorem dL_setCards_9 : decode cL_setCards 9 = .ok (.lastore, 1) := by decide +kernel
theorem dL_setCards_10 : decode cL_setCards 10 = .ok (.goto 11, 3) := by decide +kernel
theorem dL_setCards_13 : decode cL_setCards 13 = .ok (.astore 4, 2) := by decide +kernel
theorem dL_setCards_15 : decode cL_setCards 15 = .ok (.iconst 1, 1) := by decide +kernel
theorem dL_setCards_16 : decode cL_setCards 16 = .ok (.ireturn, 1) := by decide +kernel
theorem dL_setCards_17 : decode cL_setCards 17 = .ok (.astore 4, 2) := by decide +kernel
theorem dL_setCards_19 : decode cL_setCards 19 = .ok (.iconst 2, 1) := by decide +kernel
theorem dL_setCards_20 : decode cL_setCards 20 = .ok (.ireturn, 1) := by decide +kernel
theorem dL_setCards_21 : decode cL_setCards 21 = .ok (.iconst 0, 1) := by decide +kernel
theorem dL_setCards_22 : decode cL_setCards 22 = .ok (.ireturn, 1) := by decide +kernel
set_option maxRecDepth 20000 in
theorem ggL_begin_X4_begin : GoodIn wsL_begin wsX4_begin := goodIn_ca (goodIn_ca (goodIn_ca (goodIn_r _ [8, 9, 10, 11, 12, 13, 14, 15, 16, 17, 18, 19, 20, 21, 7, 22, 23, 24, 25, 26, 27, 28, 29, 30, 31, 32, 33, 34, 35, 36, 37, 38, 39, 40, 41, 42, 43, 44, 45, 46, 47, 48, 49, 50, 51, 52, 53, 54, 55, 56, 57, 58, 59, 60, 61, 62, 63, 64, 65, 66, 67, 68, 69, 70, 71, 72, 73, 74, 75, 76, 77, 78, 79, 80, 81, 82, 83, 84, 85, 86, 87, 88, 89, 90, 91, 92, 93, 94, 95, 96, 97, 98, 99, 100, 101, 102, 103, 104, 105, 106, 107, 108, 109, 110, 111, 112, 113, 114, 115, 116, 117, 118, 119, 120, 121] (by decide +kernel) (by decide +kernel)) (goodIn_sub (fun _ h => List.mem_cons_of_mem _ (List.mem_append_left _ (List.mem_append_left _ (List.mem_append_right _ h)))) (by decide +kernel))) (goodIn_sub (fun _ h => List.mem_cons_of_mem _ (List.mem_append_left _ (List.mem_append_right _ h))) (by decide +kernel))) (goodIn_sub (fun _ h => List.mem_cons_of_mem _ (List.mem_append_right _ h)) (by decide +kernel))
set_option maxRecDepth 20000 in
theorem gL_begin_X4_begin : GoodIn wsL_begin (wsV RL 26 RX4 yX4_begin wsX4_begin) := goodIn_app (goodIn_of _ (by decide +kernel)) ggL_begin_X4_begin
theorem dL_begin_0 : decode cL_begin 0 = .ok (.aload 6, 2) := by decide +kernel
theorem dL_begin_2 : decode cL_begin 2 = .ok (.iconst 0, 1) := by decide +kernel
theorem dL_begin_3 : decode cL_begin 3 = .ok (.aload_n 0, 1) := by decide +kernel
theorem dL_begin_4 : decode cL_begin 4 = .ok (.iload_n 1, 1) := by decide +kernel
theorem dL_begin_5 : decode cL_begin 5 = .ok (.iload_n 2, 1) := by decide +kernel
theorem dL_begin_6 : decode cL_begin 6 = .ok (.iload_n 3, 1) := by decide +kernel
theorem dL_begin_7 : decode cL_begin 7 = .ok (.iload 4, 2) := by decide +kernel
theorem dL_begin_9 : decode cL_begin 9 = .ok (.iload 5, 2) := by decide +kernel
theorem dL_begin_11 : decode cL_begin 11 = .ok (.invokevirtual 26, 3) := by decide +kernel
theorem dL_begin_14 : decode cL_begin 14 = .ok (.i2l, 1) := by decide +kernel
theorem dL_begin_15 : decode cL_begin 15 = .ok (.lastore, 1) := by decide +kernel
theorem dL_begin_16 : decode cL_begin 16 = .ok (.goto 15, 3) := by decide +kernel
theorem dL_begin_19 : decode cL_begin 19 = .ok (.astore 7, 2) := by decide +kernel
theorem dL_begin_21 : decode cL_begin 21 = .ok (.iconst 1, 1) := by decide +kernel
theorem dL_begin_22 : decode cL_begin 22 = .ok (.ireturn, 1) := by decide +kernel
theorem dL_begin_23 : decode cL_begin 23 = .ok (.astore 7, 2) := by decide +kernel
theorem dL_begin_25 : decode cL_begin 25 = .ok (.iconst 2, 1) := by decide +kernel
theorem dL_begin_26 : decode cL_begin 26 = .ok (.ireturn, 1) := by decide +kernel
theorem dL_begin_27 : decode cL_begin 27 = .ok (.astore 7, 2) := by decide +kernel
theorem dL_begin_29 : decode cL_begin 29 = .ok (.iconst 3, 1) := by decide +kernel
theorem dL_begin_30 : decode cL_begin 30 = .ok (.ireturn, 1) := by decide +kernel
theorem dL_begin_31 : decode cL_begin 31 = .ok (.iconst 0, 1) := by decide +kernel
theorem dL_begin_32 : decode cL_begin 32 = .ok (.ireturn, 1) := by decide +kernel
set_option maxRecDepth 20000 in
theorem ggL_can_X4_can : GoodIn wsL_can wsX4_can := goodIn_ca (goodIn_r _ [6, 7, 8, 9, 5, 10, 11, 12, 13, 14, 15, 16, 17, 18, 19, 20, 21, 22, 23, 24, 25, 26, 27, 28, 29, 30, 31, 32, 33, 34, 35, 36, 37, 38, 39, 40, 41, 42, 43, 44, 45, 46, 47, 48, 49, 50, 51, 52, 53, 54, 55, 56, 57, 58, 59, 60, 61, 62, 63, 64, 65, 66, 67, 68, 69, 70, 71, 72, 73, 74, 75, 76, 77, 78, 79, 80, 81, 82, 83, 84, 85] (by decide +kernel) (by decide +kernel)) (goodIn_sub (fun _ h => List.mem_cons_of_mem _ (List.mem_append_right _ h)) (by decide +kernel))
set_option maxRecDepth 20000 in
theorem gL_can_X4_can : GoodIn wsL_can (wsV RL 30 RX4 yX4_can wsX4_can) := goodIn_app (goodIn_of _ (by decide +kernel)) ggL_can_X4_can
theorem dL_can_0 : decode cL_can 0 = .ok (.aload 4, 2) := by decide +kernel
theorem dL_can_2 : decode cL_can 2 = .ok (.iconst 0, 1) := by decide +kernel
theorem dL_can_3 : decode cL_can 3 = .ok (.aload_n 0, 1) := by decide +kernel
theorem dL_can_4 : decode cL_can 4 = .ok (.iload_n 1, 1) := by decide +kernel
theorem dL_can_5 : decode cL_can 5 = .ok (.iload_n 2, 1) := by decide +kernel
theorem dL_can_6 : decode cL_can 6 = .ok (.iload_n 3, 1) := by decide +kernel
theorem dL_can_7 : decode cL_can 7 = .ok (.invokevirtual 30, 3) := by decide +kernel
theorem dL_can_10 : decode cL_can 10 = .ok (.ifCond .eq 7, 3) := by decide +kernel
theorem dL_can_13 : decode cL_can 13 = .ok (.lconst 1, 1) := by decide +kernel
theorem dL_can_14 : decode cL_can 14 = .ok (.goto 4, 3) := by decide +kernel
theorem dL_can_17 : decode cL_can 17 = .ok (.lconst 0, 1) := by decide +kernel
theorem dL_can_18 : decode cL_can 18 = .ok (.lastore, 1) := by decide +kernel
theorem dL_can_19 : decode cL_can 19 = .ok (.goto 7, 3) := by decide +kernel
theorem dL_can_22 : decode cL_can 22 = .ok (.astore 5, 2) := by decide +kernel
theorem dL_can_24 : decode cL_can 24 = .ok (.iconst 1, 1) := by decide +kernel
theorem dL_can_25 : decode cL_can 25 = .ok (.ireturn, 1) := by decide +kernel
theorem dL_can_26 : decode cL_can 26 = .ok (.iconst 0, 1) := by decide +kernel
theorem dL_can_27 : decode cL_can 27 = .ok (.ireturn, 1) := by decide +kernel
set_option maxRecDepth 20000 in
theorem ggL_canByAll_X4_canByAll : GoodIn wsL_canByAll wsX4_canByAll := goodIn_ca (goodIn_r _ [6, 7, 8, 9, 10, 5, 11, 12, 13, 14, 15, 16, 17, 18, 19, 20, 21, 22, 23, 24, 25, 26, 27, 28, 29, 30, 31, 32, 33, 34, 35, 36, 37, 38, 39, 40, 41, 42, 43, 44, 45, 46, 47, 48, 49, 50, 51, 52, 53, 54, 55, 56, 57, 58, 59, 60, 61, 62, 63, 64, 65, 66, 67, 68, 69, 70, 71, 72, 73, 74, 75, 76, 77, 78, 79, 80, 81, 82, 83, 84, 85, 86] (by decide +kernel) (by decide +kernel)) (goodIn_sub (fun _ h => List.mem_cons_of_mem _ (List.mem_append_right _ h)) (by decide +kernel))
set_option maxRecDepth 20000 in
theorem gL_canByAll_X4_canByAll : GoodIn wsL_canByAll (wsV RL 34 RX4 yX4_canByAll wsX4_canByAll) := goodIn_app (goodIn_of _ (by decide +kernel)) ggL_canByAll_X4_canByAll
theorem dL_canByAll_0 : decode cL_canByAll 0 = .ok (.aload 4, 2) := by decide +kernel
theorem dL_canByAll_2 : decode cL_canByAll 2 = .ok (.iconst 0, 1) := by decide +kernel
theorem dL_canByAll_3 : decode cL_canByAll 3 = .ok (.aload_n 0, 1) := by decide +kernel
theorem dL_canByAll_4 : decode cL_canByAll 4 = .ok (.iload_n 1, 1) := by decide +kernel
theorem dL_canByAll_5 : decode cL_canByAll 5 = .ok (.iload_n 2, 1) := by decide +kernel
theorem dL_canByAll_6 : decode cL_canByAll 6 = .ok (.iload_n 3, 1) := by decide +kernel
theorem dL_canByAll_7 : decode cL_canByAll 7 = .ok (.invokevirtual 34, 3) := by decide +kernel
theorem dL_canByAll_10 : decode cL_canByAll 10 = .ok (.ifCond .eq 7, 3) := by decide +kernel
theorem dL_canByAll_13 : decode cL_canByAll 13 = .ok (.lconst 1, 1) := by decide +kernel
theorem dL_canByAll_14 : decode cL_canByAll 14 = .ok (.goto 4, 3) := by decide +kernel
theorem dL_canByAll_17 : decode cL_canByAll 17 = .ok (.lconst 0, 1) := by decide +kernel
theorem dL_canByAll_18 : decode cL_canByAll 18 = .ok (.lastore, 1) := by decide +kernel
theorem dL_canByAll_19 : decode cL_canByAll 19 = .ok (.goto 7, 3) := by decide +kernel
theorem dL_canByAll_22 : decode cL_canByAll 22 = .ok (.astore 5, 2) := by decide +kernel
theorem dL_canByAll_24 : decode cL_canByAll 24 = .ok (.iconst 1, 1) := by decide +kernel
theorem dL_canByAll_25 : decode cL_canByAll 25 = .ok (.ireturn, 1) := by decide +kernel
theorem dL_canByAll_26 : decode cL_canByAll 26 = .ok (.iconst 0, 1) := by decide +kernel
theorem dL_canByAll_27 : decode cL_canByAll 27 = .ok (.ireturn, 1) := by decide +kernel
set_option maxRecDepth 20000 in
theorem ggL_move_X4_move : GoodIn wsL_move wsX4_move := goodIn_ca (goodIn_ca (goodIn_r _ [7, 8, 9, 10, 11, 12, 13, 14, 6, 15, 16, 17, 18, 19, 20, 21, 22, 23, 24, 25, 26, 27, 28, 29, 30, 31, 32, 33, 34, 35, 36, 37, 38, 39, 40, 41, 42, 43, 44, 45, 46, 47, 48, 49, 50, 51, 52, 53, 54, 55, 56, 57, 58, 59, 60, 61, 62, 63, 64, 65, 66, 67, 68, 69, 70, 71, 72, 73, 74, 75, 76, 77, 78, 79, 80, 81, 82, 83, 84, 85, 86, 87, 88, 89, 90, 91, 92, 93, 94, 95, 96, 97, 98, 99, 100, 101, 102, 103, 104, 105, 106, 107, 108, 109, 110, 111, 112, 113, 114, 115, 116, 117, 118, 119, 120, 121, 122, 123, 124, 125, 126, 127, 128, 129, 130, 131, 132, 133, 134, 135, 136, 137, 138, 139, 140, 141, 142, 143] (by decide +kernel) (by decide +kernel)) (goodIn_sub (fun _ h => List.mem_cons_of_mem _ (List.mem_append_left _ (List.mem_append_right _ h))) (by decide +kernel))) (goodIn_sub (fun _ h => List.mem_cons_of_mem _ (List.mem_append_right _ h)) (by decide +kernel))
set_option maxRecDepth 20000 in
theorem gL_move_X4_move : GoodIn wsL_move (wsV RL 37 RX4 yX4_move wsX4_move) := goodIn_app (goodIn_of _ (by decide +kernel)) ggL_move_X4_move
theorem dL_move_0 : decode cL_move 0 = .ok (.aload 4, 2) := by decide +kernel
theorem dL_move_2 : decode cL_move 2 = .ok (.iconst 0, 1) := by decide +kernel
theorem dL_move_3 : decode cL_move 3 = .ok (.aload_n 0, 1) := by decide +kernel
theorem dL_move_4 : decode cL_move 4 = .ok (.iload_n 1, 1) := by decide +kernel
theorem dL_move_5 : decode cL_move 5 = .ok (.iload_n 2, 1) := by decide +kernel
theorem dL_move_6 : decode cL_move 6 = .ok (.iload_n 3, 1) := by decide +kernel
theorem dL_move_7 : decode cL_move 7 = .ok (.invokevirtual 37, 3) := by decide +kernel
theorem dL_move_10 : decode cL_move 10 = .ok (.i2l, 1) := by decide +kernel
theorem dL_move_11 : decode cL_move 11 = .ok (.lastore, 1) := by decide +kernel
theorem dL_move_12 : decode cL_move 12 = .ok (.goto 11, 3) := by decide +kernel
theorem dL_move_15 : decode cL_move 15 = .ok (.astore 5, 2) := by decide +kernel
theorem dL_move_17 : decode cL_move 17 = .ok (.iconst 1, 1) := by decide +kernel
theorem dL_move_18 : decode cL_move 18 = .ok (.ireturn, 1) := by decide +kernel
theorem dL_move_19 : decode cL_move 19 = .ok (.astore 5, 2) := by decide +kernel
theorem dL_move_21 : decode cL_move 21 = .ok (.iconst 2, 1) := by decide +kernel
theorem dL_move_22 : decode cL_move 22 = .ok (.ireturn, 1) := by decide +kernel
theorem dL_move_23 : decode cL_move 23 = .ok (.iconst 0, 1) := by decide +kernel
theorem dL_move_24 : decode cL_move 24 = .ok (.ireturn, 1) := by decide +kernel
set_option maxRecDepth 20000 in
theorem ggL_state_X4_state : GoodIn wsL_state wsX4_state := goodIn_ca (goodIn_r _ [6, 7, 8, 9, 10, 5, 11, 12, 13, 14, 15, 16, 17, 18, 19, 20, 21, 22, 23, 24, 25, 26, 27, 28, 29] (by decide +kernel) (by decide +kernel)) (goodIn_sub (fun _ h => List.mem_cons_of_mem _ (List.mem_append_right _ h)) (by decide +kernel))
set_option maxRecDepth 20000 in
theorem gL_state_X4_state : GoodIn wsL_state (wsV RL 41 RX4 yX4_state wsX4_state) := goodIn_app (goodIn_of _ (by decide +kernel)) ggL_state_X4_state
theorem dL_state_0 : decode cL_state 0 = .ok (.aload_n 2, 1) := by decide +kernel
theorem dL_state_1 : decode cL_state 1 = .ok (.iconst 0, 1) := by decide +kernel
theorem dL_state_2 : decode cL_state 2 = .ok (.aload_n 0, 1) := by decide +kernel
theorem dL_state_3 : decode cL_state 3 = .ok (.iload_n 1, 1) := by decide +kernel
theorem dL_state_4 : decode cL_state 4 = .ok (.invokevirtual 41, 3) := by decide +kernel
theorem dL_state_7 : decode cL_state 7 = .ok (.i2l, 1) := by decide +kernel
theorem dL_state_8 : decode cL_state 8 = .ok (.lastore, 1) := by decide +kernel
theorem dL_state_9 : decode cL_state 9 = .ok (.goto 6, 3) := by decide +kernel
theorem dL_state_12 : decode cL_state 12 = .ok (.astore_n 3, 1) := by decide +kernel
theorem dL_state_13 : decode cL_state 13 = .ok (.iconst 1, 1) := by decide +kernel
theorem dL_state_14 : decode cL_state 14 = .ok (.ireturn, 1) := by decide +kernel
theorem dL_state_15 : decode cL_state 15 = .ok (.iconst 0, 1) := by decide +kernel
theorem dL_state_16 : decode cL_state 16 = .ok (.ireturn, 1) := by decide +kernel
set_option maxRecDepth 20000 in
theorem ggL_pieces_X4_pieces : GoodIn wsL_pieces wsX4_pieces := goodIn_ca (goodIn_r _ [6, 7, 8, 9, 10, 11, 5, 12, 13, 14, 15, 16, 17, 18, 19, 20, 21, 22, 23, 24, 25, 26, 27, 28, 29, 30] (by decide +kernel) (by decide +kernel)) (goodIn_sub (fun _ h => List.mem_cons_of_mem _ (List.mem_append_right _ h)) (by decide +kernel))
set_option maxRecDepth 20000 in
theorem gL_pieces_X4_pieces : GoodIn wsL_pieces (wsV RL 45 RX4 yX4_pieces wsX4_pieces) := goodIn_app (goodIn_of _ (by decide +kernel)) ggL_pieces_X4_pieces
theorem dL_pieces_0 : decode cL_pieces 0 = .ok (.aload_n 3, 1) := by decide +kernel
theorem dL_pieces_1 : decode cL_pieces 1 = .ok (.iconst 0, 1) := by decide +kernel
theorem dL_pieces_2 : decode cL_pieces 2 = .ok (.aload_n 0, 1) := by decide +kernel
theorem dL_pieces_3 : decode cL_pieces 3 = .ok (.iload_n 1, 1) := by decide +kernel
theorem dL_pieces_4 : decode cL_pieces 4 = .ok (.iload_n 2, 1) := by decide +kernel
theorem dL_pieces_5 : decode cL_pieces 5 = .ok (.invokevirtual 45, 3) := by decide +kernel
theorem dL_pieces_8 : decode cL_pieces 8 = .ok (.i2l, 1) := by decide +kernel
theorem dL_pieces_9 : decode cL_pieces 9 = .ok (.lastore, 1) := by decide +kernel
theorem dL_pieces_10 : decode cL_pieces 10 = .ok (.goto 7, 3) := by decide +kernel
theorem dL_pieces_13 : decode cL_pieces 13 = .ok (.astore 4, 2) := by decide +kernel
theorem dL_pieces_15 : decode cL_pieces 15 = .ok (.iconst 1, 1) := by decide +kernel
theorem dL_pieces_16 : decode cL_pieces 16 = .ok (.ireturn, 1) := by decide +kernel
theorem dL_pieces_17 : decode cL_pieces 17 = .ok (.iconst 0, 1) := by decide +kernel
theorem dL_pieces_18 : decode cL_pieces 18 = .ok (.ireturn, 1) := by decide +kernel
set_option maxRecDepth 20000 in
theorem ggL_made_X4_made : GoodIn wsL_made wsX4_made := goodIn_ca (goodIn_r _ [6, 7, 8, 9, 10, 5, 11, 12, 13, 14, 15, 16, 17, 18, 19, 20, 21, 22, 23, 24, 25, 26, 27, 28, 29] (by decide +kernel) (by decide +kernel)) (goodIn_sub (fun _ h => List.mem_cons_of_mem _ (List.mem_append_right _ h)) (by decide +kernel))
set_option maxRecDepth 20000 in
theorem gL_made_X4_made : GoodIn wsL_made (wsV RL 49 RX4 yX4_made wsX4_made) := goodIn_app (goodIn_of _ (by decide +kernel)) ggL_made_X4_made
theorem dL_made_0 : decode cL_made 0 = .ok (.aload_n 2, 1) := by decide +kernel
theorem dL_made_1 : decode cL_made 1 = .ok (.iconst 0, 1) := by decide +kernel
theorem dL_made_2 : decode cL_made 2 = .ok (.aload_n 0, 1) := by decide +kernel
theorem dL_made_3 : decode cL_made 3 = .ok (.iload_n 1, 1) := by decide +kernel
theorem dL_made_4 : decode cL_made 4 = .ok (.invokevirtual 49, 3) := by decide +kernel
theorem dL_made_7 : decode cL_made 7 = .ok (.i2l, 1) := by decide +kernel
theorem dL_made_8 : decode cL_made 8 = .ok (.lastore, 1) := by decide +kernel
theorem dL_made_9 : decode cL_made 9 = .ok (.goto 6, 3) := by decide +kernel
theorem dL_made_12 : decode cL_made 12 = .ok (.astore_n 3, 1) := by decide +kernel
theorem dL_made_13 : decode cL_made 13 = .ok (.iconst 1, 1) := by decide +kernel
theorem dL_made_14 : decode cL_made 14 = .ok (.ireturn, 1) := by decide +kernel
theorem dL_made_15 : decode cL_made 15 = .ok (.iconst 0, 1) := by decide +kernel
theorem dL_made_16 : decode cL_made 16 = .ok (.ireturn, 1) := by decide +kernel
set_option maxRecDepth 20000 in
theorem ggL_value_X4_value : GoodIn wsL_value wsX4_value := goodIn_ca (goodIn_ca (goodIn_r _ [7, 8, 9, 10, 11, 6, 12, 13, 14, 15, 16, 17, 18, 19, 20, 21, 22, 23, 24, 25, 26, 27, 28, 29, 30, 31, 32, 33, 34, 35, 36, 37, 38, 39, 40, 41, 42, 43, 44, 45, 46, 47, 48, 49, 50, 51, 52, 53, 54, 55, 56, 57, 58, 59, 60, 61, 62, 63, 64, 65, 66, 67, 68, 69, 70, 71, 72, 73, 74, 75, 76, 77, 78, 79, 80, 81, 82, 83, 84, 85, 86, 87, 88, 89, 90, 91, 92, 93, 94, 95, 96, 97, 98, 99, 100, 101, 102, 103, 104, 105, 106, 107] (by decide +kernel) (by decide +kernel)) (goodIn_sub (fun _ h => List.mem_cons_of_mem _ (List.mem_append_left _ (List.mem_append_right _ h))) (by decide +kernel))) (goodIn_sub (fun _ h => List.mem_cons_of_mem _ (List.mem_append_right _ h)) (by decide +kernel))
set_option maxRecDepth 20000 in
theorem gL_value_X4_value : GoodIn wsL_value (wsV RL 52 RX4 yX4_value wsX4_value) := goodIn_app (goodIn_of _ (by decide +kernel)) ggL_value_X4_value
theorem dL_value_0 : decode cL_value 0 = .ok (.aload_n 3, 1) := by decide +kernel
theorem dL_value_1 : decode cL_value 1 = .ok (.iconst 0, 1) := by decide +kernel
theorem dL_value_2 : decode cL_value 2 = .ok (.aload_n 0, 1) := by decide +kernel
theorem dL_value_3 : decode cL_value 3 = .ok (.iload_n 1, 1) := by decide +kernel
theorem dL_value_4 : decode cL_value 4 = .ok (.iload_n 2, 1) := by decide +kernel
theorem dL_value_5 : decode cL_value 5 = .ok (.invokevirtual 52, 3) := by decide +kernel
theorem dL_value_8 : decode cL_value 8 = .ok (.i2l, 1) := by decide +kernel
theorem dL_value_9 : decode cL_value 9 = .ok (.lastore, 1) := by decide +kernel
theorem dL_value_10 : decode cL_value 10 = .ok (.goto 11, 3) := by decide +kernel
theorem dL_value_13 : decode cL_value 13 = .ok (.astore 4, 2) := by decide +kernel
theorem dL_value_15 : decode cL_value 15 = .ok (.iconst 1, 1) := by decide +kernel
theorem dL_value_16 : decode cL_value 16 = .ok (.ireturn, 1) := by decide +kernel
theorem dL_value_17 : decode cL_value 17 = .ok (.astore 4, 2) := by decide +kernel
theorem dL_value_19 : decode cL_value 19 = .ok (.iconst 2, 1) := by decide +kernel
theorem dL_value_20 : decode cL_value 20 = .ok (.ireturn, 1) := by decide +kernel
theorem dL_value_21 : decode cL_value 21 = .ok (.iconst 0, 1) := by decide +kernel
theorem dL_value_22 : decode cL_value 22 = .ok (.ireturn, 1) := by decide +kernel
set_option maxRecDepth 20000 in
theorem ggL_valueByAll_X4_valueByAll : GoodIn wsL_valueByAll wsX4_valueByAll := goodIn_ca (goodIn_ca (goodIn_r _ [7, 8, 9, 10, 11, 6, 12, 13, 14, 15, 16, 17, 18, 19, 20, 21, 22, 23, 24, 25, 26, 27, 28, 29, 30, 31, 32, 33, 34, 35, 36, 37, 38, 39, 40, 41, 42, 43, 44, 45, 46, 47, 48, 49, 50, 51, 52, 53, 54, 55, 56, 57, 58, 59, 60, 61, 62, 63, 64, 65, 66, 67, 68, 69, 70, 71, 72, 73, 74, 75, 76, 77, 78, 79, 80, 81, 82, 83, 84, 85, 86, 87, 88, 89, 90, 91, 92, 93, 94, 95, 96, 97, 98, 99, 100, 101, 102, 103, 104, 105, 106, 107] (by decide +kernel) (by decide +kernel)) (goodIn_sub (fun _ h => List.mem_cons_of_mem _ (List.mem_append_left _ (List.mem_append_right _ h))) (by decide +kernel))) (goodIn_sub (fun _ h => List.mem_cons_of_mem _ (List.mem_append_right _ h)) (by decide +kernel))
set_option maxRecDepth 20000 in
theorem gL_valueByAll_X4_valueByAll : GoodIn wsL_valueByAll (wsV RL 55 RX4 yX4_valueByAll wsX4_valueByAll) := goodIn_app (goodIn_of _ (by decide +kernel)) ggL_valueByAll_X4_valueByAll
theorem dL_valueByAll_0 : decode cL_valueByAll 0 = .ok (.aload_n 3, 1) := by decide +kernel
theorem dL_valueByAll_1 : decode cL_valueByAll 1 = .ok (.iconst 0, 1) := by decide +kernel
theorem dL_valueByAll_2 : decode cL_valueByAll 2 = .ok (.aload_n 0, 1) := by decide +kernel
theorem dL_valueByAll_3 : decode cL_valueByAll 3 = .ok (.iload_n 1, 1) := by decide +kernel
theorem dL_valueByAll_4 : decode cL_valueByAll 4 = .ok (.iload_n 2, 1) := by decide +kernel
theorem dL_valueByAll_5 : decode cL_valueByAll 5 = .ok (.invokevirtual 55, 3) := by decide +kernel
theorem dL_valueByAll_8 : decode cL_valueByAll 8 = .ok (.i2l, 1) := by decide +kernel
theorem dL_valueByAll_9 : decode cL_valueByAll 9 = .ok (.lastore, 1) := by decide +kernel
theorem dL_valueByAll_10 : decode cL_valueByAll 10 = .ok (.goto 11, 3) := by decide +kernel
theorem dL_valueByAll_13 : decode cL_valueByAll 13 = .ok (.astore 4, 2) := by decide +kernel
theorem dL_valueByAll_15 : decode cL_valueByAll 15 = .ok (.iconst 1, 1) := by decide +kernel
theorem dL_valueByAll_16 : decode cL_valueByAll 16 = .ok (.ireturn, 1) := by decide +kernel
theorem dL_valueByAll_17 : decode cL_valueByAll 17 = .ok (.astore 4, 2) := by decide +kernel
theorem dL_valueByAll_19 : decode cL_valueByAll 19 = .ok (.iconst 2, 1) := by decide +kernel
theorem dL_valueByAll_20 : decode cL_valueByAll 20 = .ok (.ireturn, 1) := by decide +kernel
theorem dL_valueByAll_21 : decode cL_valueByAll 21 = .ok (.iconst 0, 1) := by decide +kernel
theorem dL_valueByAll_22 : decode cL_valueByAll 22 = .ok (.ireturn, 1) := by decide +kernel
set_option maxRecDepth 20000 in
theorem ggL_vote_X4_vote : GoodIn wsL_vote wsX4_vote := goodIn_ca (goodIn_r _ [6, 7, 8, 9, 5, 10, 11, 12, 13, 14, 15, 16, 17, 18, 19, 20, 21, 22, 23, 24, 25, 26, 27, 28, 29, 30, 31, 32, 33] (by decide +kernel) (by decide +kernel)) (goodIn_sub (fun _ h => List.mem_cons_of_mem _ (List.mem_append_right _ h)) (by decide +kernel))
set_option maxRecDepth 20000 in
theorem gL_vote_X4_vote : GoodIn wsL_vote (wsV RL 58 RX4 yX4_vote wsX4_vote) := goodIn_app (goodIn_of _ (by decide +kernel)) ggL_vote_X4_vote
theorem dL_vote_0 : decode cL_vote 0 = .ok (.aload_n 3, 1) := by decide +kernel
theorem dL_vote_1 : decode cL_vote 1 = .ok (.iconst 0, 1) := by decide +kernel
theorem dL_vote_2 : decode cL_vote 2 = .ok (.aload_n 0, 1) := by decide +kernel
theorem dL_vote_3 : decode cL_vote 3 = .ok (.iload_n 1, 1) := by decide +kernel
theorem dL_vote_4 : decode cL_vote 4 = .ok (.iload_n 2, 1) := by decide +kernel
theorem dL_vote_5 : decode cL_vote 5 = .ok (.invokevirtual 58, 3) := by decide +kernel
theorem dL_vote_8 : decode cL_vote 8 = .ok (.i2l, 1) := by decide +kernel
theorem dL_vote_9 : decode cL_vote 9 = .ok (.lastore, 1) := by decide +kernel
theorem dL_vote_10 : decode cL_vote 10 = .ok (.goto 7, 3) := by decide +kernel
theorem dL_vote_13 : decode cL_vote 13 = .ok (.astore 4, 2) := by decide +kernel
theorem dL_vote_15 : decode cL_vote 15 = .ok (.iconst 1, 1) := by decide +kernel
theorem dL_vote_16 : decode cL_vote 16 = .ok (.ireturn, 1) := by decide +kernel
theorem dL_vote_17 : decode cL_vote 17 = .ok (.iconst 0, 1) := by decide +kernel
theorem dL_vote_18 : decode cL_vote 18 = .ok (.ireturn, 1) := by decide +kernel
set_option maxRecDepth 20000 in
theorem ggL_isBanned_X4_isBanned : GoodIn wsL_isBanned wsX4_isBanned := goodIn_ca (goodIn_r _ [6, 7, 8, 9, 5, 10, 11, 12, 13, 14, 15, 16, 17, 18, 19, 20, 21, 22, 23, 24, 25, 26, 27, 28, 29, 30, 31, 32, 33, 34, 35, 36] (by decide +kernel) (by decide +kernel)) (goodIn_sub (fun _ h => List.mem_cons_of_mem _ (List.mem_append_right _ h)) (by decide +kernel))
set_option maxRecDepth 20000 in
theorem gL_isBanned_X4_isBanned : GoodIn wsL_isBanned (wsV RL 61 RX4 yX4_isBanned wsX4_isBanned) := goodIn_app (goodIn_of _ (by decide +kernel)) ggL_isBanned_X4_isBanned
theorem dL_isBanned_0 : decode cL_isBanned 0 = .ok (.aload_n 2, 1) := by decide +kernel
theorem dL_isBanned_1 : decode cL_isBanned 1 = .ok (.iconst 0, 1) := by decide +kernel
theorem dL_isBanned_2 : decode cL_isBanned 2 = .ok (.aload_n 0, 1) := by decide +kernel
theorem dL_isBanned_3 : decode cL_isBanned 3 = .ok (.iload_n 1, 1) := by decide +kernel
theorem dL_isBanned_4 : decode cL_isBanned 4 = .ok (.invokevirtual 61, 3) := by decide +kernel
theorem dL_isBanned_7 : decode cL_isBanned 7 = .ok (.ifCond .eq 7, 3) := by decide +kernel
theorem dL_isBanned_10 : decode cL_isBanned 10 = .ok (.lconst 1, 1) := by decide +kernel
theorem dL_isBanned_11 : decode cL_isBanned 11 = .ok (.goto 4, 3) := by decide +kernel
theorem dL_isBanned_14 : decode cL_isBanned 14 = .ok (.lconst 0, 1) := by decide +kernel
theorem dL_isBanned_15 : decode cL_isBanned 15 = .ok (.lastore, 1) := by decide +kernel
theorem dL_isBanned_16 : decode cL_isBanned 16 = .ok (.goto 6, 3) := by decide +kernel
theorem dL_isBanned_19 : decode cL_isBanned 19 = .ok (.astore_n 3, 1) := by decide +kernel
theorem dL_isBanned_20 : decode cL_isBanned 20 = .ok (.iconst 1, 1) := by decide +kernel
theorem dL_isBanned_21 : decode cL_isBanned 21 = .ok (.ireturn, 1) := by decide +kernel
theorem dL_isBanned_22 : decode cL_isBanned 22 = .ok (.iconst 0, 1) := by decide +kernel
theorem dL_isBanned_23 : decode cL_isBanned 23 = .ok (.ireturn, 1) := by decide +kernel
set_option maxRecDepth 20000 in
theorem ggL_endless_X4_endless : GoodIn wsL_endless wsX4_endless := goodIn_ca (goodIn_r _ [6, 7, 8, 9, 10, 5, 11, 12, 13, 14, 15, 16, 17, 18, 19, 20, 21, 22, 23] (by decide +kernel) (by decide +kernel)) (goodIn_sub (fun _ h => List.mem_cons_of_mem _ (List.mem_append_right _ h)) (by decide +kernel))
set_option maxRecDepth 20000 in
theorem gL_endless_X4_endless : GoodIn wsL_endless (wsV RL 65 RX4 yX4_endless wsX4_endless) := goodIn_app (goodIn_of _ (by decide +kernel)) ggL_endless_X4_endless
theorem dL_endless_0 : decode cL_endless 0 = .ok (.aload_n 2, 1) := by decide +kernel
theorem dL_endless_1 : decode cL_endless 1 = .ok (.iconst 0, 1) := by decide +kernel
theorem dL_endless_2 : decode cL_endless 2 = .ok (.aload_n 0, 1) := by decide +kernel
theorem dL_endless_3 : decode cL_endless 3 = .ok (.iload_n 1, 1) := by decide +kernel
theorem dL_endless_4 : decode cL_endless 4 = .ok (.invokevirtual 65, 3) := by decide +kernel
theorem dL_endless_7 : decode cL_endless 7 = .ok (.i2l, 1) := by decide +kernel
theorem dL_endless_8 : decode cL_endless 8 = .ok (.lastore, 1) := by decide +kernel
theorem dL_endless_9 : decode cL_endless 9 = .ok (.goto 6, 3) := by decide +kernel
theorem dL_endless_12 : decode cL_endless 12 = .ok (.astore_n 3, 1) := by decide +kernel
theorem dL_endless_13 : decode cL_endless 13 = .ok (.iconst 1, 1) := by decide +kernel
theorem dL_endless_14 : decode cL_endless 14 = .ok (.ireturn, 1) := by decide +kernel
theorem dL_endless_15 : decode cL_endless 15 = .ok (.iconst 0, 1) := by decide +kernel
theorem dL_endless_16 : decode cL_endless 16 = .ok (.ireturn, 1) := by decide +kernel
set_option maxRecDepth 20000 in
theorem ggL_points_X4_points : GoodIn wsL_points wsX4_points := goodIn_ca (goodIn_r _ [6, 7, 8, 9, 10, 5, 11, 12, 13, 14, 15, 16, 17, 18, 19, 20, 21, 22, 23, 24, 25, 26, 27, 28, 29, 30, 31, 32, 33, 34, 35, 36, 37, 38, 39, 40, 41, 42, 43, 44, 45, 46, 47, 48, 49, 50, 51, 52, 53, 54, 55, 56, 57, 58] (by decide +kernel) (by decide +kernel)) (goodIn_sub (fun _ h => List.mem_cons_of_mem _ (List.mem_append_right _ h)) (by decide +kernel))
set_option maxRecDepth 20000 in
theorem gL_points_X4_points : GoodIn wsL_points (wsV RL 68 RX4 yX4_points wsX4_points) := goodIn_app (goodIn_of _ (by decide +kernel)) ggL_points_X4_points
theorem dL_points_0 : decode cL_points 0 = .ok (.aload_n 3, 1) := by decide +kernel
theorem dL_points_1 : decode cL_points 1 = .ok (.iconst 0, 1) := by decide +kernel
theorem dL_points_2 : decode cL_points 2 = .ok (.aload_n 0, 1) := by decide +kernel
theorem dL_points_3 : decode cL_points 3 = .ok (.iload_n 1, 1) := by decide +kernel
theorem dL_points_4 : decode cL_points 4 = .ok (.iload_n 2, 1) := by decide +kernel
theorem dL_points_5 : decode cL_points 5 = .ok (.invokevirtual 68, 3) := by decide +kernel
theorem dL_points_8 : decode cL_points 8 = .ok (.i2l, 1) := by decide +kernel
theorem dL_points_9 : decode cL_points 9 = .ok (.lastore, 1) := by decide +kernel
theorem dL_points_10 : decode cL_points 10 = .ok (.goto 7, 3) := by decide +kernel
theorem dL_points_13 : decode cL_points 13 = .ok (.astore 4, 2) := by decide +kernel
theorem dL_points_15 : decode cL_points 15 = .ok (.iconst 1, 1) := by decide +kernel
theorem dL_points_16 : decode cL_points 16 = .ok (.ireturn, 1) := by decide +kernel
theorem dL_points_17 : decode cL_points 17 = .ok (.iconst 0, 1) := by decide +kernel
theorem dL_points_18 : decode cL_points 18 = .ok (.ireturn, 1) := by decide +kernel
