theorem dL_cell_0 : decode cL_cell 0 = .ok (.iload_n 1, 1) := by decide +kernel
theorem dL_cell_1 : decode cL_cell 1 = .ok (.aload_n 0, 1) := by decide +kernel
theorem dL_cell_2 : decode cL_cell 2 = .ok (.arraylength, 1) := by decide +kernel
theorem dL_cell_3 : decode cL_cell 3 = .ok (.if_icmp .ge 9, 3) := by decide +kernel
theorem dL_cell_6 : decode cL_cell 6 = .ok (.aload_n 0, 1) := by decide +kernel
theorem dL_cell_7 : decode cL_cell 7 = .ok (.iload_n 1, 1) := by decide +kernel
theorem dL_cell_8 : decode cL_cell 8 = .ok (.iaload, 1) := by decide +kernel
theorem dL_cell_9 : decode cL_cell 9 = .ok (.goto 11, 3) := by decide +kernel
theorem dL_cell_12 : decode cL_cell 12 = .ok (.sipush 5171, 3) := by decide +kernel
theorem dL_cell_15 : decode cL_cell 15 = .ok (.iload_n 1, 1) := by decide +kernel
theorem dL_cell_16 : decode cL_cell 16 = .ok (.bipush 46, 2) := by decide +kernel
theorem dL_cell_18 : decode cL_cell 18 = .ok (.iadd, 1) := by decide +kernel
theorem dL_cell_19 : decode cL_cell 19 = .ok (.imul, 1) := by decide +kernel
theorem dL_cell_20 : decode cL_cell 20 = .ok (.istore_n 2, 1) := by decide +kernel
theorem dL_cell_21 : decode cL_cell 21 = .ok (.iload_n 2, 1) := by decide +kernel
theorem dL_cell_22 : decode cL_cell 22 = .ok (.iload_n 2, 1) := by decide +kernel
theorem dL_cell_23 : decode cL_cell 23 = .ok (.bipush 14, 2) := by decide +kernel
theorem dL_cell_25 : decode cL_cell 25 = .ok (.iushr, 1) := by decide +kernel
theorem dL_cell_26 : decode cL_cell 26 = .ok (.ixor, 1) := by decide +kernel
theorem dL_cell_27 : decode cL_cell 27 = .ok (.ldc 7, 2) := by decide +kernel
theorem dL_cell_29 : decode cL_cell 29 = .ok (.imul, 1) := by decide +kernel
theorem dL_cell_30 : decode cL_cell 30 = .ok (.sipush 163, 3) := by decide +kernel
theorem dL_cell_33 : decode cL_cell 33 = .ok (.iload_n 1, 1) := by decide +kernel
theorem dL_cell_34 : decode cL_cell 34 = .ok (.imul, 1) := by decide +kernel
theorem dL_cell_35 : decode cL_cell 35 = .ok (.iadd, 1) := by decide +kernel
theorem dL_cell_36 : decode cL_cell 36 = .ok (.ireturn, 1) := by decide +kernel
theorem dL_some_0 : decode cL_some 0 = .ok (.iload_n 0, 1) := by decide +kernel
theorem dL_some_1 : decode cL_some 1 = .ok (.iconst 1, 1) := by decide +kernel
theorem dL_some_2 : decode cL_some 2 = .ok (.iushr, 1) := by decide +kernel
theorem dL_some_3 : decode cL_some 3 = .ok (.iload_n 1, 1) := by decide +kernel
theorem dL_some_4 : decode cL_some 4 = .ok (.irem, 1) := by decide +kernel
theorem dL_some_5 : decode cL_some 5 = .ok (.ireturn, 1) := by decide +kernel
set_option maxRecDepth 20000 in
theorem ggL_call_L_does : GoodIn wsL_call wsL_does := goodIn_ca (goodIn_ca (goodIn_ca (goodIn_r _ [7, 8, 9, 10, 11, 12, 13, 14, 15, 16, 17, 18, 19, 20, 21, 22, 23, 24, 25, 26, 27, 28, 29, 30, 31, 32, 33, 34, 35, 36, 37, 38, 39, 40, 41, 42, 43, 44, 45, 46, 47, 48, 49, 50, 51, 52, 53, 54, 55, 56, 57, 58, 59, 60, 61, 62, 63, 64, 65, 66, 67, 68, 69, 70, 71, 72, 73, 74, 75, 76, 77, 78, 79, 80, 81, 82, 83, 84, 85, 86, 87, 88, 89, 90, 91, 92, 93, 94, 95, 96, 97, 98, 99, 100, 101, 102, 103, 104, 105, 106, 107, 108, 109, 110, 111, 112, 113, 114, 115, 116, 117, 118, 119, 120, 121, 122, 123, 124, 125, 126, 127, 128, 129, 130, 131, 132, 133, 134, 135, 136, 137, 138, 139, 140, 141, 142, 143, 144, 145, 146, 147, 148, 149, 150, 151, 152, 153, 154, 155, 156, 157, 158, 159, 160, 161, 162, 163, 164, 165, 166, 167, 168, 169, 170, 171, 172, 173, 174, 175, 176, 177, 178, 179, 180, 181, 182, 183, 184, 185, 186, 187, 188, 189, 190, 191, 192, 193, 194, 195, 196, 197, 198, 199, 200, 201, 202, 203, 204, 205, 206, 207, 208, 209, 210, 211, 212, 213, 214, 215, 216, 217, 218, 219, 220, 221, 222, 223, 224, 225, 226, 227, 228, 229, 230, 231, 232, 233, 234, 235, 236, 237, 238, 239, 240, 241, 242, 243, 244, 245, 246, 247, 248, 249, 250, 251, 252, 253, 254, 255, 256, 257, 258, 259, 260, 261, 262, 263, 264, 265, 266, 267, 268, 269, 270, 271, 272, 273, 274, 275, 276, 277, 278, 279, 280, 281, 282, 283, 284, 285, 286, 287, 288, 289, 290, 291, 292, 293, 294, 295, 296, 297, 298, 299, 300, 301, 302, 303, 304] (by decide +kernel) (by decide +kernel)) (goodIn_sub (fun _ h => List.mem_cons_of_mem _ (List.mem_append_left _ (List.mem_append_left _ (List.mem_append_right _ h)))) (by decide +kernel))) (goodIn_sub (fun _ h => List.mem_cons_of_mem _ (List.mem_append_left _ (List.mem_append_right _ h))) (by decide +kernel))) (goodIn_sub (fun _ h => List.mem_cons_of_mem _ (List.mem_append_right _ h)) (by decide +kernel))
set_option maxRecDepth 20000 in
theorem gL_call_L_does : GoodIn wsL_call (va_wsS RL 8 yL_does wsL_does) := goodIn_app (goodIn_of _ (by decide +kernel)) ggL_call_L_does
theorem dL_call_0 : decode cL_call 0 = .ok (.aload_n 0, 1) := by decide +kernel
theorem dL_call_1 : decode cL_call 1 = .ok (.iload_n 1, 1) := by decide +kernel
theorem dL_call_2 : decode cL_call 2 = .ok (.iload_n 2, 1) := by decide +kernel
theorem dL_call_3 : decode cL_call 3 = .ok (.iload_n 3, 1) := by decide +kernel
theorem dL_call_4 : decode cL_call 4 = .ok (.iload 4, 2) := by decide +kernel
theorem dL_call_6 : decode cL_call 6 = .ok (.iload 5, 2) := by decide +kernel
theorem dL_call_8 : decode cL_call 8 = .ok (.iload 6, 2) := by decide +kernel
theorem dL_call_10 : decode cL_call 10 = .ok (.invokestatic 8, 3) := by decide +kernel
theorem dL_call_13 : decode cL_call 13 = .ok (.ireturn, 1) := by decide +kernel
theorem dL_call_14 : decode cL_call 14 = .ok (.astore 7, 2) := by decide +kernel
theorem dL_call_16 : decode cL_call 16 = .ok (.sipush (-1021), 3) := by decide +kernel
theorem dL_call_19 : decode cL_call 19 = .ok (.ireturn, 1) := by decide +kernel
theorem dL_call_20 : decode cL_call 20 = .ok (.astore 7, 2) := by decide +kernel
theorem dL_call_22 : decode cL_call 22 = .ok (.sipush (-1022), 3) := by decide +kernel
theorem dL_call_25 : decode cL_call 25 = .ok (.ireturn, 1) := by decide +kernel
theorem dL_call_26 : decode cL_call 26 = .ok (.astore 7, 2) := by decide +kernel
theorem dL_call_28 : decode cL_call 28 = .ok (.sipush (-1023), 3) := by decide +kernel
theorem dL_call_31 : decode cL_call 31 = .ok (.ireturn, 1) := by decide +kernel
set_option maxRecDepth 20000 in
theorem ggL_does_X4_card : GoodIn wsL_does wsX4_card := goodIn_ca (goodIn_ca (goodIn_r _ [5, 6, 7, 8, 9, 10, 11, 12, 13, 14, 15, 16, 4, 17, 18, 19, 20, 21, 22, 23, 24, 25, 26, 27, 273, 274, 275, 276, 277, 278, 279, 280, 281, 282] (by decide +kernel) (by decide +kernel)) (goodIn_sub (fun _ h => List.mem_cons_of_mem _ (List.mem_append_left _ (List.mem_append_left _ (List.mem_append_right _ h)))) (by decide +kernel))) (goodIn_sub (fun _ h => List.mem_cons_of_mem _ (List.mem_append_left _ (List.mem_append_right _ h))) (by decide +kernel))
set_option maxRecDepth 20000 in
theorem gL_does_X4_card : GoodIn wsL_does (wsV RL 20 RX4 yX4_card wsX4_card) := goodIn_app (goodIn_of _ (by decide +kernel)) ggL_does_X4_card
set_option maxRecDepth 20000 in
theorem ggL_does_X4_variant : GoodIn wsL_does wsX4_variant := goodIn_ca (goodIn_ca (goodIn_r _ [31, 6, 7, 8, 9, 32, 33, 34, 35, 36, 37, 38, 39, 40, 11, 41, 42, 43, 4, 44, 10, 45, 46, 47, 48, 22, 23, 49, 50, 51, 52, 53, 54, 55, 56, 273, 274, 275, 276, 277, 278, 283, 284, 285, 286, 287, 288] (by decide +kernel) (by decide +kernel)) (goodIn_sub (fun _ h => List.mem_cons_of_mem _ (List.mem_append_left _ (List.mem_append_left _ (List.mem_append_right _ h)))) (by decide +kernel))) (goodIn_sub (fun _ h => List.mem_cons_of_mem _ (List.mem_append_left _ (List.mem_append_right _ h))) (by decide +kernel))
set_option maxRecDepth 20000 in
theorem gL_does_X4_variant : GoodIn wsL_does (wsV RL 26 RX4 yX4_variant wsX4_variant) := goodIn_app (goodIn_of _ (by decide +kernel)) ggL_does_X4_variant
set_option maxRecDepth 20000 in
theorem ggL_does_X4_setCards : GoodIn wsL_does wsX4_setCards := goodIn_ca (goodIn_ca (goodIn_r _ [60, 6, 7, 61, 38, 39, 40, 11, 62, 63, 64, 65, 66, 4, 67, 68, 69, 34, 41, 42, 43, 44, 10, 45, 46, 47, 48, 22, 23, 49, 50, 51, 283, 284, 285, 286, 287, 288, 273, 274, 275, 276, 277, 278] (by decide +kernel) (by decide +kernel)) (goodIn_sub (fun _ h => List.mem_cons_of_mem _ (List.mem_append_left _ (List.mem_append_left _ (List.mem_append_right _ h)))) (by decide +kernel))) (goodIn_sub (fun _ h => List.mem_cons_of_mem _ (List.mem_append_right _ h)) (by decide +kernel))
set_option maxRecDepth 20000 in
theorem gL_does_X4_setCards : GoodIn wsL_does (wsV RL 30 RX4 yX4_setCards wsX4_setCards) := goodIn_app (goodIn_of _ (by decide +kernel)) ggL_does_X4_setCards
set_option maxRecDepth 20000 in
theorem ggL_does_X4_begin : GoodIn wsL_does wsX4_begin := goodIn_ca (goodIn_ca (goodIn_ca (goodIn_r _ [73, 6, 7, 8, 9, 61, 74, 75, 76, 77, 78, 64, 65, 66, 4, 67, 68, 69, 34, 79, 80, 81, 82, 83, 84, 40, 85, 86, 51, 87, 88, 89, 90, 91, 92, 93, 94, 95, 96, 37, 97, 98, 99, 100, 101, 102, 103, 104, 105, 106, 107, 108, 49, 50, 109, 110, 111, 112, 113, 14, 114, 24, 27, 25, 115, 116, 117, 118, 26, 119, 120, 121, 122, 123, 124, 22, 23, 125, 126, 127, 128, 129, 130, 131, 132, 133, 134, 135, 136, 137, 283, 284, 285, 273, 274, 275, 276, 277, 278, 289, 290, 291, 292, 293, 294, 295, 296, 297, 286, 287, 288, 279, 280, 281, 282] (by decide +kernel) (by decide +kernel)) (goodIn_sub (fun _ h => List.mem_cons_of_mem _ (List.mem_append_left _ (List.mem_append_left _ (List.mem_append_right _ h)))) (by decide +kernel))) (goodIn_sub (fun _ h => List.mem_cons_of_mem _ (List.mem_append_left _ (List.mem_append_right _ h))) (by decide +kernel))) (goodIn_sub (fun _ h => List.mem_cons_of_mem _ (List.mem_append_right _ h)) (by decide +kernel))
set_option maxRecDepth 20000 in
theorem gL_does_X4_begin : GoodIn wsL_does (wsV RL 33 RX4 yX4_begin wsX4_begin) := goodIn_app (goodIn_of _ (by decide +kernel)) ggL_does_X4_begin
set_option maxRecDepth 20000 in
theorem ggL_does_X4_can : GoodIn wsL_does wsX4_can := goodIn_ca (goodIn_r _ [141, 142, 143, 144, 4, 145, 68, 69, 75, 146, 147, 148, 149, 150, 151, 78, 152, 132, 127, 130, 131, 153, 154, 155, 156, 157, 158, 159, 160, 161, 109, 110, 162, 163, 164, 40, 165, 49, 50, 51, 166, 167, 168, 14, 169, 27, 25, 115, 116, 117, 118, 26, 119, 120, 170, 171, 172, 173, 24, 273, 274, 275, 276, 277, 278, 289, 290, 291, 292, 293, 294, 295, 296, 297, 286, 287, 288, 279, 280, 281, 282] (by decide +kernel) (by decide +kernel)) (goodIn_sub (fun _ h => List.mem_cons_of_mem _ (List.mem_append_right _ h)) (by decide +kernel))
set_option maxRecDepth 20000 in
theorem gL_does_X4_can : GoodIn wsL_does (wsV RL 37 RX4 yX4_can wsX4_can) := goodIn_app (goodIn_of _ (by decide +kernel)) ggL_does_X4_can
set_option maxRecDepth 20000 in
theorem ggL_does_X4_canByAll : GoodIn wsL_does wsX4_canByAll := goodIn_ca (goodIn_r _ [177, 178, 142, 143, 144, 4, 145, 68, 69, 75, 146, 147, 148, 179, 180, 181, 182, 183, 154, 155, 78, 156, 131, 130, 157, 158, 159, 160, 161, 184, 185, 186, 187, 188, 189, 106, 107, 40, 108, 49, 50, 51, 109, 110, 111, 112, 113, 14, 114, 24, 27, 25, 115, 116, 117, 118, 26, 119, 120, 190, 289, 290, 291, 292, 293, 294, 295, 296, 297, 273, 274, 275, 276, 277, 278, 286, 287, 288, 279, 280, 281, 282] (by decide +kernel) (by decide +kernel)) (goodIn_sub (fun _ h => List.mem_cons_of_mem _ (List.mem_append_right _ h)) (by decide +kernel))
set_option maxRecDepth 20000 in
theorem gL_does_X4_canByAll : GoodIn wsL_does (wsV RL 41 RX4 yX4_canByAll wsX4_canByAll) := goodIn_app (goodIn_of _ (by decide +kernel)) ggL_does_X4_canByAll
set_option maxRecDepth 20000 in
theorem ggL_does_X4_move : GoodIn wsL_does wsX4_move := goodIn_ca (goodIn_ca (goodIn_r _ [194, 8, 9, 195, 178, 142, 143, 144, 4, 145, 68, 69, 75, 146, 147, 148, 94, 95, 96, 37, 97, 98, 99, 100, 88, 89, 90, 91, 92, 93, 149, 150, 151, 78, 152, 132, 127, 130, 131, 153, 154, 155, 156, 157, 158, 159, 160, 161, 109, 110, 162, 163, 164, 40, 165, 49, 50, 51, 166, 167, 168, 14, 169, 27, 25, 115, 116, 117, 118, 26, 119, 120, 170, 171, 172, 173, 24, 196, 197, 198, 199, 134, 200, 201, 202, 185, 186, 187, 135, 136, 137, 203, 204, 205, 206, 125, 207, 208, 102, 103, 104, 105, 106, 107, 108, 111, 112, 113, 114, 209, 210, 211, 212, 289, 290, 291, 292, 293, 294, 295, 296, 297, 273, 274, 275, 276, 277, 278, 283, 284, 285, 286, 287, 288, 279, 280, 281, 282] (by decide +kernel) (by decide +kernel)) (goodIn_sub (fun _ h => List.mem_cons_of_mem _ (List.mem_append_left _ (List.mem_append_right _ h))) (by decide +kernel))) (goodIn_sub (fun _ h => List.mem_cons_of_mem _ (List.mem_append_right _ h)) (by decide +kernel))
set_option maxRecDepth 20000 in
theorem gL_does_X4_move : GoodIn wsL_does (wsV RL 44 RX4 yX4_move wsX4_move) := goodIn_app (goodIn_of _ (by decide +kernel)) ggL_does_X4_move
set_option maxRecDepth 20000 in
theorem ggL_does_X4_state : GoodIn wsL_does wsX4_state := goodIn_ca (goodIn_r _ [216, 178, 142, 143, 144, 4, 145, 68, 69, 75, 289, 290, 291, 292, 293, 294, 295, 296, 297, 273, 274, 275, 276, 277, 278] (by decide +kernel) (by decide +kernel)) (goodIn_sub (fun _ h => List.mem_cons_of_mem _ (List.mem_append_right _ h)) (by decide +kernel))
set_option maxRecDepth 20000 in
theorem gL_does_X4_state : GoodIn wsL_does (wsV RL 48 RX4 yX4_state wsX4_state) := goodIn_app (goodIn_of _ (by decide +kernel)) ggL_does_X4_state
set_option maxRecDepth 20000 in
theorem ggL_does_X4_pieces : GoodIn wsL_does wsX4_pieces := goodIn_ca (goodIn_r _ [220, 221, 222, 142, 143, 144, 4, 145, 68, 69, 75, 289, 290, 291, 292, 293, 294, 295, 296, 297, 273, 274, 275, 276, 277, 278] (by decide +kernel) (by decide +kernel)) (goodIn_sub (fun _ h => List.mem_cons_of_mem _ (List.mem_append_right _ h)) (by decide +kernel))
set_option maxRecDepth 20000 in
theorem gL_does_X4_pieces : GoodIn wsL_does (wsV RL 52 RX4 yX4_pieces wsX4_pieces) := goodIn_app (goodIn_of _ (by decide +kernel)) ggL_does_X4_pieces
set_option maxRecDepth 20000 in
theorem ggL_does_X4_made : GoodIn wsL_does wsX4_made := goodIn_ca (goodIn_r _ [226, 227, 142, 143, 144, 4, 145, 68, 69, 75, 289, 290, 291, 292, 293, 294, 295, 296, 297, 273, 274, 275, 276, 277, 278] (by decide +kernel) (by decide +kernel)) (goodIn_sub (fun _ h => List.mem_cons_of_mem _ (List.mem_append_right _ h)) (by decide +kernel))
set_option maxRecDepth 20000 in
theorem gL_does_X4_made : GoodIn wsL_does (wsV RL 56 RX4 yX4_made wsX4_made) := goodIn_app (goodIn_of _ (by decide +kernel)) ggL_does_X4_made
set_option maxRecDepth 20000 in
theorem ggL_does_X4_value : GoodIn wsL_does wsX4_value := goodIn_ca (goodIn_ca (goodIn_r _ [231, 182, 142, 143, 144, 4, 145, 68, 69, 75, 232, 233, 234, 6, 7, 183, 154, 155, 78, 156, 131, 130, 157, 158, 159, 160, 161, 184, 185, 186, 187, 188, 235, 236, 237, 238, 239, 240, 241, 101, 102, 103, 40, 104, 105, 106, 107, 108, 49, 50, 51, 109, 110, 111, 112, 113, 14, 114, 24, 27, 25, 115, 116, 117, 118, 26, 119, 120, 242, 88, 89, 90, 91, 92, 93, 189, 190, 243, 200, 201, 289, 290, 291, 292, 293, 294, 295, 296, 297, 273, 274, 275, 276, 277, 278, 286, 287, 288, 279, 280, 281, 282] (by decide +kernel) (by decide +kernel)) (goodIn_sub (fun _ h => List.mem_cons_of_mem _ (List.mem_append_right _ h)) (by decide +kernel))) (goodIn_sub (fun _ h => List.mem_cons_of_mem _ (List.mem_append_left _ (List.mem_append_left _ (List.mem_append_right _ h)))) (by decide +kernel))
set_option maxRecDepth 20000 in
theorem gL_does_X4_value : GoodIn wsL_does (wsV RL 59 RX4 yX4_value wsX4_value) := goodIn_app (goodIn_of _ (by decide +kernel)) ggL_does_X4_value
set_option maxRecDepth 20000 in
theorem ggL_does_X4_valueByAll : GoodIn wsL_does wsX4_valueByAll := goodIn_ca (goodIn_ca (goodIn_r _ [247, 182, 142, 143, 144, 4, 145, 68, 69, 75, 232, 233, 234, 6, 7, 183, 154, 155, 78, 156, 131, 130, 157, 158, 159, 160, 161, 184, 185, 186, 187, 188, 248, 249, 250, 238, 239, 240, 241, 101, 102, 103, 40, 104, 105, 106, 107, 108, 49, 50, 51, 109, 110, 111, 112, 113, 14, 114, 24, 27, 25, 115, 116, 117, 118, 26, 119, 120, 242, 88, 89, 90, 91, 92, 93, 189, 190, 243, 200, 201, 289, 290, 291, 292, 293, 294, 295, 296, 297, 273, 274, 275, 276, 277, 278, 286, 287, 288, 279, 280, 281, 282] (by decide +kernel) (by decide +kernel)) (goodIn_sub (fun _ h => List.mem_cons_of_mem _ (List.mem_append_right _ h)) (by decide +kernel))) (goodIn_sub (fun _ h => List.mem_cons_of_mem _ (List.mem_append_left _ (List.mem_append_left _ (List.mem_append_right _ h)))) (by decide +kernel))
set_option maxRecDepth 20000 in
theorem gL_does_X4_valueByAll : GoodIn wsL_does (wsV RL 62 RX4 yX4_valueByAll wsX4_valueByAll) := goodIn_app (goodIn_of _ (by decide +kernel)) ggL_does_X4_valueByAll
set_option maxRecDepth 20000 in
theorem ggL_does_X4_vote : GoodIn wsL_does wsX4_vote := goodIn_ca (goodIn_r _ [254, 255, 79, 80, 4, 81, 68, 69, 64, 65, 66, 67, 34, 242, 88, 89, 90, 91, 92, 93, 283, 284, 285, 273, 274, 275, 276, 277, 278] (by decide +kernel) (by decide +kernel)) (goodIn_sub (fun _ h => List.mem_cons_of_mem _ (List.mem_append_right _ h)) (by decide +kernel))
set_option maxRecDepth 20000 in
theorem gL_does_X4_vote : GoodIn wsL_does (wsV RL 65 RX4 yX4_vote wsX4_vote) := goodIn_app (goodIn_of _ (by decide +kernel)) ggL_does_X4_vote
set_option maxRecDepth 20000 in
theorem ggL_does_X4_isBanned : GoodIn wsL_does wsX4_isBanned := goodIn_ca (goodIn_r _ [259, 64, 65, 66, 4, 67, 68, 69, 34, 94, 95, 96, 37, 97, 98, 99, 100, 88, 89, 90, 91, 92, 93, 273, 274, 275, 276, 277, 278, 283, 284, 285] (by decide +kernel) (by decide +kernel)) (goodIn_sub (fun _ h => List.mem_cons_of_mem _ (List.mem_append_right _ h)) (by decide +kernel))
set_option maxRecDepth 20000 in
theorem gL_does_X4_isBanned : GoodIn wsL_does (wsV RL 68 RX4 yX4_isBanned wsX4_isBanned) := goodIn_app (goodIn_of _ (by decide +kernel)) ggL_does_X4_isBanned
set_option maxRecDepth 20000 in
theorem ggL_does_X4_endless : GoodIn wsL_does wsX4_endless := goodIn_ca (goodIn_r _ [263, 264, 64, 65, 66, 4, 67, 68, 69, 34, 283, 284, 285, 273, 274, 275, 276, 277, 278] (by decide +kernel) (by decide +kernel)) (goodIn_sub (fun _ h => List.mem_cons_of_mem _ (List.mem_append_right _ h)) (by decide +kernel))
set_option maxRecDepth 20000 in
theorem gL_does_X4_endless : GoodIn wsL_does (wsV RL 72 RX4 yX4_endless wsX4_endless) := goodIn_app (goodIn_of _ (by decide +kernel)) ggL_does_X4_endless
set_option maxRecDepth 20000 in
theorem ggL_does_X4_points : GoodIn wsL_does wsX4_points := goodIn_ca (goodIn_r _ [268, 75, 195, 79, 80, 4, 81, 68, 69, 64, 65, 66, 67, 34, 94, 95, 96, 37, 97, 98, 99, 100, 88, 89, 90, 91, 92, 93, 269, 270, 271, 78, 272, 132, 128, 129, 273, 274, 275, 276, 277, 278, 289, 290, 291, 292, 293, 294, 295, 296, 297, 283, 284, 285] (by decide +kernel) (by decide +kernel)) (goodIn_sub (fun _ h => List.mem_cons_of_mem _ (List.mem_append_right _ h)) (by decide +kernel))
set_option maxRecDepth 20000 in
theorem gL_does_X4_points : GoodIn wsL_does (wsV RL 75 RX4 yX4_points wsX4_points) := goodIn_app (goodIn_of _ (by decide +kernel)) ggL_does_X4_points
theorem dL_does_0 : decode cL_does 0 = .ok (.iload_n 1, 1) := by decide +kernel
theorem dL_does_1 : decode cL_does 1 = .ok (.tableswitch 225 0 14 #[75, 86, 93, 100, 113, 130, 147, 156, 162, 178, 184, 191, 198, 205, 219], 75) := by decide +kernel
theorem dL_does_76 : decode cL_does 76 = .ok (.aload_n 0, 1) := by decide +kernel
theorem dL_does_77 : decode cL_does 77 = .ok (.iload_n 2, 1) := by decide +kernel
theorem dL_does_78 : decode cL_does 78 = .ok (.iload_n 3, 1) := by decide +kernel
theorem dL_does_79 : decode cL_does 79 = .ok (.iload 4, 2) := by decide +kernel
theorem dL_does_81 : decode cL_does 81 = .ok (.iload 5, 2) := by decide +kernel
theorem dL_does_83 : decode cL_does 83 = .ok (.invokevirtual 20, 3) := by decide +kernel
theorem dL_does_86 : decode cL_does 86 = .ok (.ireturn, 1) := by decide +kernel
theorem dL_does_87 : decode cL_does 87 = .ok (.aload_n 0, 1) := by decide +kernel
theorem dL_does_88 : decode cL_does 88 = .ok (.iload_n 2, 1) := by decide +kernel
theorem dL_does_89 : decode cL_does 89 = .ok (.iload_n 3, 1) := by decide +kernel
theorem dL_does_90 : decode cL_does 90 = .ok (.invokevirtual 26, 3) := by decide +kernel
theorem dL_does_93 : decode cL_does 93 = .ok (.ireturn, 1) := by decide +kernel
theorem dL_does_94 : decode cL_does 94 = .ok (.aload_n 0, 1) := by decide +kernel
theorem dL_does_95 : decode cL_does 95 = .ok (.iload_n 2, 1) := by decide +kernel
theorem dL_does_96 : decode cL_does 96 = .ok (.iload_n 3, 1) := by decide +kernel
theorem dL_does_97 : decode cL_does 97 = .ok (.invokevirtual 30, 3) := by decide +kernel
theorem dL_does_100 : decode cL_does 100 = .ok (.ireturn, 1) := by decide +kernel
theorem dL_does_101 : decode cL_does 101 = .ok (.aload_n 0, 1) := by decide +kernel
theorem dL_does_102 : decode cL_does 102 = .ok (.iload_n 2, 1) := by decide +kernel
theorem dL_does_103 : decode cL_does 103 = .ok (.iload_n 3, 1) := by decide +kernel
theorem dL_does_104 : decode cL_does 104 = .ok (.iload 4, 2) := by decide +kernel
theorem dL_does_106 : decode cL_does 106 = .ok (.iload 5, 2) := by decide +kernel
theorem dL_does_108 : decode cL_does 108 = .ok (.iload 6, 2) := by decide +kernel
theorem dL_does_110 : decode cL_does 110 = .ok (.invokevirtual 33, 3) := by decide +kernel
theorem dL_does_113 : decode cL_does 113 = .ok (.ireturn, 1) := by decide +kernel
theorem dL_does_114 : decode cL_does 114 = .ok (.aload_n 0, 1) := by decide +kernel
theorem dL_does_115 : decode cL_does 115 = .ok (.iload_n 2, 1) := by decide +kernel
theorem dL_does_116 : decode cL_does 116 = .ok (.iload_n 3, 1) := by decide +kernel
theorem dL_does_117 : decode cL_does 117 = .ok (.iload 4, 2) := by decide +kernel
theorem dL_does_119 : decode cL_does 119 = .ok (.invokevirtual 37, 3) := by decide +kernel
theorem dL_does_122 : decode cL_does 122 = .ok (.ifCond .eq 7, 3) := by decide +kernel
theorem dL_does_125 : decode cL_does 125 = .ok (.iconst 1, 1) := by decide +kernel
theorem dL_does_126 : decode cL_does 126 = .ok (.goto 4, 3) := by decide +kernel
theorem dL_does_129 : decode cL_does 129 = .ok (.iconst 0, 1) := by decide +kernel
theorem dL_does_130 : decode cL_does 130 = .ok (.ireturn, 1) := by decide +kernel
theorem dL_does_131 : decode cL_does 131 = .ok (.aload_n 0, 1) := by decide +kernel
theorem dL_does_132 : decode cL_does 132 = .ok (.iload_n 2, 1) := by decide +kernel
theorem dL_does_133 : decode cL_does 133 = .ok (.iload_n 3, 1) := by decide +kernel
theorem dL_does_134 : decode cL_does 134 = .ok (.iload 4, 2) := by decide +kernel
theorem dL_does_136 : decode cL_does 136 = .ok (.invokevirtual 41, 3) := by decide +kernel
theorem dL_does_139 : decode cL_does 139 = .ok (.ifCond .eq 7, 3) := by decide +kernel
theorem dL_does_142 : decode cL_does 142 = .ok (.iconst 1, 1) := by decide +kernel
theorem dL_does_143 : decode cL_does 143 = .ok (.goto 4, 3) := by decide +kernel
theorem dL_does_146 : decode cL_does 146 = .ok (.iconst 0, 1) := by decide +kernel
theorem dL_does_147 : decode cL_does 147 = .ok (.ireturn, 1) := by decide +kernel
theorem dL_does_148 : decode cL_does 148 = .ok (.aload_n 0, 1) := by decide +kernel
theorem dL_does_149 : decode cL_does 149 = .ok (.iload_n 2, 1) := by decide +kernel
theorem dL_does_150 : decode cL_does 150 = .ok (.iload_n 3, 1) := by decide +kernel
theorem dL_does_151 : decode cL_does 151 = .ok (.iload 4, 2) := by decide +kernel
theorem dL_does_153 : decode cL_does 153 = .ok (.invokevirtual 44, 3) := by decide +kernel
theorem dL_does_156 : decode cL_does 156 = .ok (.ireturn, 1) := by decide +kernel
theorem dL_does_157 : decode cL_does 157 = .ok (.aload_n 0, 1) := by decide +kernel
theorem dL_does_158 : decode cL_does 158 = .ok (.iload_n 2, 1) := by decide +kernel
theorem dL_does_159 : decode cL_does 159 = .ok (.invokevirtual 48, 3) := by decide +kernel
theorem dL_does_162 : decode cL_does 162 = .ok (.ireturn, 1) := by decide +kernel
theorem dL_does_163 : decode cL_does 163 = .ok (.aload_n 0, 1) := by decide +kernel
theorem dL_does_164 : decode cL_does 164 = .ok (.iload_n 2, 1) := by decide +kernel
theorem dL_does_165 : decode cL_does 165 = .ok (.iload_n 3, 1) := by decide +kernel
theorem dL_does_166 : decode cL_does 166 = .ok (.iconst 1, 1) := by decide +kernel
theorem dL_does_167 : decode cL_does 167 = .ok (.if_icmp .ne 7, 3) := by decide +kernel
theorem dL_does_170 : decode cL_does 170 = .ok (.iconst 1, 1) := by decide +kernel
theorem dL_does_171 : decode cL_does 171 = .ok (.goto 4, 3) := by decide +kernel
theorem dL_does_174 : decode cL_does 174 = .ok (.iconst 0, 1) := by decide +kernel
theorem dL_does_175 : decode cL_does 175 = .ok (.invokevirtual 52, 3) := by decide +kernel
theorem dL_does_178 : decode cL_does 178 = .ok (.ireturn, 1) := by decide +kernel
theorem dL_does_179 : decode cL_does 179 = .ok (.aload_n 0, 1) := by decide +kernel
theorem dL_does_180 : decode cL_does 180 = .ok (.iload_n 2, 1) := by decide +kernel
theorem dL_does_181 : decode cL_does 181 = .ok (.invokevirtual 56, 3) := by decide +kernel
theorem dL_does_184 : decode cL_does 184 = .ok (.ireturn, 1) := by decide +kernel
theorem dL_does_185 : decode cL_does 185 = .ok (.aload_n 0, 1) := by decide +kernel
theorem dL_does_186 : decode cL_does 186 = .ok (.iload_n 2, 1) := by decide +kernel
theorem dL_does_187 : decode cL_does 187 = .ok (.iload_n 3, 1) := by decide +kernel
theorem dL_does_188 : decode cL_does 188 = .ok (.invokevirtual 59, 3) := by decide +kernel
theorem dL_does_191 : decode cL_does 191 = .ok (.ireturn, 1) := by decide +kernel
theorem dL_does_192 : decode cL_does 192 = .ok (.aload_n 0, 1) := by decide +kernel
theorem dL_does_193 : decode cL_does 193 = .ok (.iload_n 2, 1) := by decide +kernel
theorem dL_does_194 : decode cL_does 194 = .ok (.iload_n 3, 1) := by decide +kernel
theorem dL_does_195 : decode cL_does 195 = .ok (.invokevirtual 62, 3) := by decide +kernel
theorem dL_does_198 : decode cL_does 198 = .ok (.ireturn, 1) := by decide +kernel
theorem dL_does_199 : decode cL_does 199 = .ok (.aload_n 0, 1) := by decide +kernel
theorem dL_does_200 : decode cL_does 200 = .ok (.iload_n 2, 1) := by decide +kernel
theorem dL_does_201 : decode cL_does 201 = .ok (.iload_n 3, 1) := by decide +kernel
theorem dL_does_202 : decode cL_does 202 = .ok (.invokevirtual 65, 3) := by decide +kernel
theorem dL_does_205 : decode cL_does 205 = .ok (.ireturn, 1) := by decide +kernel
theorem dL_does_206 : decode cL_does 206 = .ok (.aload_n 0, 1) := by decide +kernel
theorem dL_does_207 : decode cL_does 207 = .ok (.iload_n 2, 1) := by decide +kernel
theorem dL_does_208 : decode cL_does 208 = .ok (.invokevirtual 68, 3) := by decide +kernel
theorem dL_does_211 : decode cL_does 211 = .ok (.ifCond .eq 7, 3) := by decide +kernel
theorem dL_does_214 : decode cL_does 214 = .ok (.iconst 1, 1) := by decide +kernel
theorem dL_does_215 : decode cL_does 215 = .ok (.goto 4, 3) := by decide +kernel
theorem dL_does_218 : decode cL_does 218 = .ok (.iconst 0, 1) := by decide +kernel
theorem dL_does_219 : decode cL_does 219 = .ok (.ireturn, 1) := by decide +kernel
theorem dL_does_220 : decode cL_does 220 = .ok (.aload_n 0, 1) := by decide +kernel
theorem dL_does_221 : decode cL_does 221 = .ok (.iload_n 2, 1) := by decide +kernel
theorem dL_does_222 : decode cL_does 222 = .ok (.invokevirtual 72, 3) := by decide +kernel
theorem dL_does_225 : decode cL_does 225 = .ok (.ireturn, 1) := by decide +kernel
theorem dL_does_226 : decode cL_does 226 = .ok (.aload_n 0, 1) := by decide +kernel
theorem dL_does_227 : decode cL_does 227 = .ok (.iload_n 2, 1) := by decide +kernel
theorem dL_does_228 : decode cL_does 228 = .ok (.iload_n 3, 1) := by decide +kernel
theorem dL_does_229 : decode cL_does 229 = .ok (.invokevirtual 75, 3) := by decide +kernel
theorem dL_does_232 : decode cL_does 232 = .ok (.ireturn, 1) := by decide +kernel
theorem dL_ones_0 : decode cL_ones 0 = .ok (.iconst 0, 1) := by decide +kernel
theorem dL_ones_1 : decode cL_ones 1 = .ok (.istore_n 1, 1) := by decide +kernel
theorem dL_ones_2 : decode cL_ones 2 = .ok (.iload_n 0, 1) := by decide +kernel
theorem dL_ones_3 : decode cL_ones 3 = .ok (.istore_n 2, 1) := by decide +kernel
theorem dL_ones_4 : decode cL_ones 4 = .ok (.iload_n 2, 1) := by decide +kernel
theorem dL_ones_5 : decode cL_ones 5 = .ok (.ifCond .eq 15, 3) := by decide +kernel
theorem dL_ones_8 : decode cL_ones 8 = .ok (.iinc 1 1, 3) := by decide +kernel
theorem dL_ones_11 : decode cL_ones 11 = .ok (.iload_n 2, 1) := by decide +kernel
theorem dL_ones_12 : decode cL_ones 12 = .ok (.iload_n 2, 1) := by decide +kernel
theorem dL_ones_13 : decode cL_ones 13 = .ok (.iconst 1, 1) := by decide +kernel
theorem dL_ones_14 : decode cL_ones 14 = .ok (.isub, 1) := by decide +kernel
theorem dL_ones_15 : decode cL_ones 15 = .ok (.iand, 1) := by decide +kernel
theorem dL_ones_16 : decode cL_ones 16 = .ok (.istore_n 2, 1) := by decide +kernel
theorem dL_ones_17 : decode cL_ones 17 = .ok (.goto (-13), 3) := by decide +kernel
theorem dL_ones_20 : decode cL_ones 20 = .ok (.iload_n 1, 1) := by decide +kernel
theorem dL_ones_21 : decode cL_ones 21 = .ok (.ireturn, 1) := by decide +kernel
set_option maxRecDepth 20000 in
theorem ggL_all_X4_state : GoodIn wsL_all wsX4_state := goodIn_ca (goodIn_r _ [12, 13, 14, 15, 16, 11, 17, 18, 19, 20, 76, 77, 78, 79, 80, 81, 82, 83, 84, 85, 86, 87, 88, 89, 90] (by decide +kernel) (by decide +kernel)) (goodIn_sub (fun _ h => List.mem_cons_of_mem _ (List.mem_append_right _ h)) (by decide +kernel))
set_option maxRecDepth 20000 in
theorem gL_all_X4_state : GoodIn wsL_all (wsV RL 48 RX4 yX4_state wsX4_state) := goodIn_app (goodIn_of _ (by decide +kernel)) ggL_all_X4_state
set_option maxRecDepth 20000 in
theorem ggL_all_X4_made : GoodIn wsL_all wsX4_made := goodIn_ca (goodIn_r _ [24, 25, 14, 15, 16, 11, 17, 18, 19, 20, 76, 77, 78, 79, 80, 81, 82, 83, 84, 85, 86, 87, 88, 89, 90] (by decide +kernel) (by decide +kernel)) (goodIn_sub (fun _ h => List.mem_cons_of_mem _ (List.mem_append_right _ h)) (by decide +kernel))
set_option maxRecDepth 20000 in
theorem gL_all_X4_made : GoodIn wsL_all (wsV RL 56 RX4 yX4_made wsX4_made) := goodIn_app (goodIn_of _ (by decide +kernel)) ggL_all_X4_made
set_option maxRecDepth 20000 in
theorem ggL_all_X4_pieces : GoodIn wsL_all wsX4_pieces := goodIn_ca (goodIn_r _ [29, 30, 31, 14, 15, 16, 11, 17, 18, 19, 20, 76, 77, 78, 79, 80, 81, 82, 83, 84, 85, 86, 87, 88, 89, 90] (by decide +kernel) (by decide +kernel)) (goodIn_sub (fun _ h => List.mem_cons_of_mem _ (List.mem_append_right _ h)) (by decide +kernel))
set_option maxRecDepth 20000 in
theorem gL_all_X4_pieces : GoodIn wsL_all (wsV RL 52 RX4 yX4_pieces wsX4_pieces) := goodIn_app (goodIn_of _ (by decide +kernel)) ggL_all_X4_pieces
set_option maxRecDepth 20000 in
theorem ggL_all_X4_isBanned : GoodIn wsL_all wsX4_isBanned := goodIn_ca (goodIn_r _ [35, 36, 37, 38, 11, 39, 18, 19, 40, 41, 42, 43, 44, 45, 46, 47, 48, 49, 50, 51, 52, 53, 54, 85, 86, 87, 88, 89, 90, 91, 92, 93] (by decide +kernel) (by decide +kernel)) (goodIn_sub (fun _ h => List.mem_cons_of_mem _ (List.mem_append_right _ h)) (by decide +kernel))
set_option maxRecDepth 20000 in
theorem gL_all_X4_isBanned : GoodIn wsL_all (wsV RL 68 RX4 yX4_isBanned wsX4_isBanned) := goodIn_app (goodIn_of _ (by decide +kernel)) ggL_all_X4_isBanned
set_option maxRecDepth 20000 in
theorem ggL_all_X4_endless : GoodIn wsL_all wsX4_endless := goodIn_ca (goodIn_r _ [58, 59, 36, 37, 38, 11, 39, 18, 19, 40, 91, 92, 93, 85, 86, 87, 88, 89, 90] (by decide +kernel) (by decide +kernel)) (goodIn_sub (fun _ h => List.mem_cons_of_mem _ (List.mem_append_right _ h)) (by decide +kernel))
set_option maxRecDepth 20000 in
theorem gL_all_X4_endless : GoodIn wsL_all (wsV RL 72 RX4 yX4_endless wsX4_endless) := goodIn_app (goodIn_of _ (by decide +kernel)) ggL_all_X4_endless
set_option maxRecDepth 20000 in
theorem ggL_all_X4_points : GoodIn wsL_all wsX4_points := goodIn_ca (goodIn_r _ [63, 20, 64, 65, 66, 11, 67, 18, 19, 36, 37, 38, 39, 40, 41, 42, 43, 44, 45, 46, 47, 48, 49, 50, 51, 52, 53, 54, 68, 69, 70, 71, 72, 73, 74, 75, 85, 86, 87, 88, 89, 90, 76, 77, 78, 79, 80, 81, 82, 83, 84, 91, 92, 93] (by decide +kernel) (by decide +kernel)) (goodIn_sub (fun _ h => List.mem_cons_of_mem _ (List.mem_append_right _ h)) (by decide +kernel))
set_option maxRecDepth 20000 in
theorem gL_all_X4_points : GoodIn wsL_all (wsV RL 75 RX4 yX4_points wsX4_points) := goodIn_app (goodIn_of _ (by decide +kernel)) ggL_all_X4_points
theorem dL_all_0 : decode cL_all 0 = .ok (.ldc2_w 78, 3) := by decide +kernel
theorem dL_all_3 : decode cL_all 3 = .ok (.lstore_n 2, 1) := by decide +kernel
theorem dL_all_4 : decode cL_all 4 = .ok (.iconst 0, 1) := by decide +kernel
theorem dL_all_5 : decode cL_all 5 = .ok (.istore 4, 2) := by decide +kernel
theorem dL_all_7 : decode cL_all 7 = .ok (.iload 4, 2) := by decide +kernel
theorem dL_all_9 : decode cL_all 9 = .ok (.aload_n 1, 1) := by decide +kernel
theorem dL_all_10 : decode cL_all 10 = .ok (.iconst 2, 1) := by decide +kernel
theorem dL_all_11 : decode cL_all 11 = .ok (.iaload, 1) := by decide +kernel
theorem dL_all_12 : decode cL_all 12 = .ok (.if_icmp .ge 63, 3) := by decide +kernel
theorem dL_all_15 : decode cL_all 15 = .ok (.lload_n 2, 1) := by decide +kernel
theorem dL_all_16 : decode cL_all 16 = .ok (.ldc2_w 80, 3) := by decide +kernel
theorem dL_all_19 : decode cL_all 19 = .ok (.lmul, 1) := by decide +kernel
theorem dL_all_20 : decode cL_all 20 = .ok (.aload_n 0, 1) := by decide +kernel
theorem dL_all_21 : decode cL_all 21 = .ok (.iload 4, 2) := by decide +kernel
theorem dL_all_23 : decode cL_all 23 = .ok (.invokevirtual 48, 3) := by decide +kernel
theorem dL_all_26 : decode cL_all 26 = .ok (.i2l, 1) := by decide +kernel
theorem dL_all_27 : decode cL_all 27 = .ok (.ladd, 1) := by decide +kernel
theorem dL_all_28 : decode cL_all 28 = .ok (.ldc2_w 82, 3) := by decide +kernel
theorem dL_all_31 : decode cL_all 31 = .ok (.lmul, 1) := by decide +kernel
theorem dL_all_32 : decode cL_all 32 = .ok (.aload_n 0, 1) := by decide +kernel
theorem dL_all_33 : decode cL_all 33 = .ok (.iload 4, 2) := by decide +kernel
theorem dL_all_35 : decode cL_all 35 = .ok (.invokevirtual 56, 3) := by decide +kernel
theorem dL_all_38 : decode cL_all 38 = .ok (.i2l, 1) := by decide +kernel
theorem dL_all_39 : decode cL_all 39 = .ok (.ladd, 1) := by decide +kernel
theorem dL_all_40 : decode cL_all 40 = .ok (.ldc2_w 84, 3) := by decide +kernel
theorem dL_all_43 : decode cL_all 43 = .ok (.lmul, 1) := by decide +kernel
theorem dL_all_44 : decode cL_all 44 = .ok (.aload_n 0, 1) := by decide +kernel
theorem dL_all_45 : decode cL_all 45 = .ok (.iload 4, 2) := by decide +kernel
theorem dL_all_47 : decode cL_all 47 = .ok (.iconst 0, 1) := by decide +kernel
theorem dL_all_48 : decode cL_all 48 = .ok (.invokevirtual 52, 3) := by decide +kernel
theorem dL_all_51 : decode cL_all 51 = .ok (.i2l, 1) := by decide +kernel
theorem dL_all_52 : decode cL_all 52 = .ok (.ladd, 1) := by decide +kernel
theorem dL_all_53 : decode cL_all 53 = .ok (.lstore_n 2, 1) := by decide +kernel
theorem dL_all_54 : decode cL_all 54 = .ok (.lload_n 2, 1) := by decide +kernel
theorem dL_all_55 : decode cL_all 55 = .ok (.ldc2_w 84, 3) := by decide +kernel
theorem dL_all_58 : decode cL_all 58 = .ok (.lmul, 1) := by decide +kernel
theorem dL_all_59 : decode cL_all 59 = .ok (.aload_n 0, 1) := by decide +kernel
theorem dL_all_60 : decode cL_all 60 = .ok (.iload 4, 2) := by decide +kernel
theorem dL_all_62 : decode cL_all 62 = .ok (.iconst 1, 1) := by decide +kernel
theorem dL_all_63 : decode cL_all 63 = .ok (.invokevirtual 52, 3) := by decide +kernel
theorem dL_all_66 : decode cL_all 66 = .ok (.i2l, 1) := by decide +kernel
theorem dL_all_67 : decode cL_all 67 = .ok (.ladd, 1) := by decide +kernel
theorem dL_all_68 : decode cL_all 68 = .ok (.lstore_n 2, 1) := by decide +kernel
theorem dL_all_69 : decode cL_all 69 = .ok (.iinc 4 1, 3) := by decide +kernel
theorem dL_all_72 : decode cL_all 72 = .ok (.goto (-65), 3) := by decide +kernel
theorem dL_all_75 : decode cL_all 75 = .ok (.iconst 0, 1) := by decide +kernel
theorem dL_all_76 : decode cL_all 76 = .ok (.istore 4, 2) := by decide +kernel
theorem dL_all_78 : decode cL_all 78 = .ok (.iload 4, 2) := by decide +kernel
theorem dL_all_80 : decode cL_all 80 = .ok (.aload_n 1, 1) := by decide +kernel
theorem dL_all_81 : decode cL_all 81 = .ok (.iconst 1, 1) := by decide +kernel
theorem dL_all_82 : decode cL_all 82 = .ok (.iaload, 1) := by decide +kernel
theorem dL_all_83 : decode cL_all 83 = .ok (.if_icmp .ge 74, 3) := by decide +kernel
theorem dL_all_86 : decode cL_all 86 = .ok (.lload_n 2, 1) := by decide +kernel
theorem dL_all_87 : decode cL_all 87 = .ok (.ldc2_w 86, 3) := by decide +kernel
theorem dL_all_90 : decode cL_all 90 = .ok (.lmul, 1) := by decide +kernel
theorem dL_all_91 : decode cL_all 91 = .ok (.aload_n 0, 1) := by decide +kernel
theorem dL_all_92 : decode cL_all 92 = .ok (.iload 4, 2) := by decide +kernel
theorem dL_all_94 : decode cL_all 94 = .ok (.invokevirtual 68, 3) := by decide +kernel
theorem dL_all_97 : decode cL_all 97 = .ok (.ifCond .eq 7, 3) := by decide +kernel
theorem dL_all_100 : decode cL_all 100 = .ok (.iconst 1, 1) := by decide +kernel
theorem dL_all_101 : decode cL_all 101 = .ok (.goto 4, 3) := by decide +kernel
theorem dL_all_104 : decode cL_all 104 = .ok (.iconst 0, 1) := by decide +kernel
theorem dL_all_105 : decode cL_all 105 = .ok (.i2l, 1) := by decide +kernel
theorem dL_all_106 : decode cL_all 106 = .ok (.ladd, 1) := by decide +kernel
theorem dL_all_107 : decode cL_all 107 = .ok (.ldc2_w 88, 3) := by decide +kernel
theorem dL_all_110 : decode cL_all 110 = .ok (.lmul, 1) := by decide +kernel
theorem dL_all_111 : decode cL_all 111 = .ok (.aload_n 0, 1) := by decide +kernel
theorem dL_all_112 : decode cL_all 112 = .ok (.iload 4, 2) := by decide +kernel
theorem dL_all_114 : decode cL_all 114 = .ok (.invokevirtual 72, 3) := by decide +kernel
theorem dL_all_117 : decode cL_all 117 = .ok (.i2l, 1) := by decide +kernel
theorem dL_all_118 : decode cL_all 118 = .ok (.ladd, 1) := by decide +kernel
theorem dL_all_119 : decode cL_all 119 = .ok (.lstore_n 2, 1) := by decide +kernel
theorem dL_all_120 : decode cL_all 120 = .ok (.iconst 0, 1) := by decide +kernel
theorem dL_all_121 : decode cL_all 121 = .ok (.istore 5, 2) := by decide +kernel
theorem dL_all_123 : decode cL_all 123 = .ok (.iload 5, 2) := by decide +kernel
theorem dL_all_125 : decode cL_all 125 = .ok (.iconst 5, 1) := by decide +kernel
theorem dL_all_126 : decode cL_all 126 = .ok (.if_icmp .ge 25, 3) := by decide +kernel
theorem dL_all_129 : decode cL_all 129 = .ok (.lload_n 2, 1) := by decide +kernel
theorem dL_all_130 : decode cL_all 130 = .ok (.ldc2_w 90, 3) := by decide +kernel
theorem dL_all_133 : decode cL_all 133 = .ok (.lmul, 1) := by decide +kernel
theorem dL_all_134 : decode cL_all 134 = .ok (.aload_n 0, 1) := by decide +kernel
theorem dL_all_135 : decode cL_all 135 = .ok (.iload 5, 2) := by decide +kernel
theorem dL_all_137 : decode cL_all 137 = .ok (.iload 4, 2) := by decide +kernel
theorem dL_all_139 : decode cL_all 139 = .ok (.invokevirtual 75, 3) := by decide +kernel
theorem dL_all_142 : decode cL_all 142 = .ok (.i2l, 1) := by decide +kernel
theorem dL_all_143 : decode cL_all 143 = .ok (.ladd, 1) := by decide +kernel
theorem dL_all_144 : decode cL_all 144 = .ok (.lstore_n 2, 1) := by decide +kernel
theorem dL_all_145 : decode cL_all 145 = .ok (.iinc 5 1, 3) := by decide +kernel
theorem dL_all_148 : decode cL_all 148 = .ok (.goto (-25), 3) := by decide +kernel
theorem dL_all_151 : decode cL_all 151 = .ok (.iinc 4 1, 3) := by decide +kernel
theorem dL_all_154 : decode cL_all 154 = .ok (.goto (-76), 3) := by decide +kernel
theorem dL_all_157 : decode cL_all 157 = .ok (.lload_n 2, 1) := by decide +kernel
theorem dL_all_158 : decode cL_all 158 = .ok (.lreturn, 1) := by decide +kernel
set_option maxRecDepth 20000 in
theorem ggL_kept_L_call : GoodIn wsL_kept wsL_call := goodIn_ca (goodIn_ca (goodIn_ca (goodIn_r _ [5, 6, 7, 8, 9, 10, 4, 11, 12, 13, 14, 15, 16, 17, 18, 19, 20, 21, 22, 23, 24, 25, 26, 27, 28, 29, 30, 31, 32, 33, 34, 35, 36, 37, 38, 39, 40, 41, 42, 43, 44, 45, 46, 47, 48, 49, 50, 51, 52, 53, 54, 55, 56, 57, 58, 59, 60, 61, 62, 63, 64, 65, 66, 67, 68, 69, 70, 71, 72, 73, 74, 75, 76, 77, 78, 79, 80, 81, 82, 83, 84, 85, 86, 87, 88, 89, 90, 91, 92, 93, 94, 95, 96, 97, 98, 99, 100, 101, 102, 103, 104, 105, 106, 107, 108, 109, 110, 111, 112, 113, 114, 115, 116, 117, 118, 119, 120, 121, 122, 123, 124, 125, 126, 127, 128, 129, 130, 131, 132, 133, 134, 135, 136, 137, 138, 139, 140, 141, 142, 143, 144, 145, 146, 147, 148, 149, 150, 151, 152, 153, 154, 155, 156, 157, 158, 159, 160, 161, 162, 163, 164, 165, 166, 167, 168, 169, 170, 171, 172, 173, 174, 175, 176, 177, 178, 179, 180, 181, 182, 183, 184, 185, 186, 187, 188, 189, 190, 191, 192, 193, 194, 195, 196, 197, 198, 199, 200, 201, 202, 203, 204, 205, 206, 207, 208, 209, 210, 211, 212, 213, 214, 215, 216, 217, 218, 219, 220, 221, 222, 223, 224, 225, 226, 227, 228, 229, 230, 231, 232, 233, 234, 235, 236, 237, 238, 239, 240, 241, 242, 243, 244, 245, 246, 247, 248, 249, 250, 251, 252, 253, 254, 255, 256, 257, 258, 259, 260, 261, 262, 263, 264, 265, 266, 267, 268, 269, 270, 271, 272, 273, 274, 275, 276, 277, 278, 279, 280, 281, 282, 283, 287, 288, 289, 290, 291, 292, 293, 294, 295, 296, 297, 298, 299, 300, 301, 302, 303, 304, 305, 306, 307, 308, 309, 310, 311] (by decide +kernel) (by decide +kernel)) (goodIn_sub (fun _ h => List.mem_cons_of_mem _ (List.mem_append_left _ (List.mem_append_left _ (List.mem_append_right _ h)))) (by decide +kernel))) (goodIn_sub (fun _ h => List.mem_cons_of_mem _ (List.mem_append_left _ (List.mem_append_right _ h))) (by decide +kernel))) (goodIn_sub (fun _ h => List.mem_cons_of_mem _ (List.mem_append_right _ h)) (by decide +kernel))
set_option maxRecDepth 20000 in
theorem gL_kept_L_call : GoodIn wsL_kept (va_wsS RL 92 yL_call wsL_call) := goodIn_app (goodIn_of _ (by decide +kernel)) ggL_kept_L_call
set_option maxRecDepth 20000 in
theorem ggL_kept_X4_pieces : GoodIn wsL_kept wsX4_pieces := goodIn_ca (goodIn_r _ [231, 232, 233, 153, 154, 155, 15, 156, 79, 80, 86, 303, 304, 305, 306, 307, 308, 309, 310, 311, 287, 288, 289, 290, 291, 292] (by decide +kernel) (by decide +kernel)) (goodIn_sub (fun _ h => List.mem_cons_of_mem _ (List.mem_append_right _ h)) (by decide +kernel))
set_option maxRecDepth 20000 in
theorem gL_kept_X4_pieces : GoodIn wsL_kept (wsV RL 52 RX4 yX4_pieces wsX4_pieces) := goodIn_app (goodIn_of _ (by decide +kernel)) ggL_kept_X4_pieces
set_option maxRecDepth 20000 in
theorem ggL_kept_X4_state : GoodIn wsL_kept wsX4_state := goodIn_ca (goodIn_r _ [227, 189, 153, 154, 155, 15, 156, 79, 80, 86, 303, 304, 305, 306, 307, 308, 309, 310, 311, 287, 288, 289, 290, 291, 292] (by decide +kernel) (by decide +kernel)) (goodIn_sub (fun _ h => List.mem_cons_of_mem _ (List.mem_append_right _ h)) (by decide +kernel))
set_option maxRecDepth 20000 in
theorem gL_kept_X4_state : GoodIn wsL_kept (wsV RL 48 RX4 yX4_state wsX4_state) := goodIn_app (goodIn_of _ (by decide +kernel)) ggL_kept_X4_state
set_option maxRecDepth 20000 in
theorem ggL_kept_X4_made : GoodIn wsL_kept wsX4_made := goodIn_ca (goodIn_r _ [237, 238, 153, 154, 155, 15, 156, 79, 80, 86, 303, 304, 305, 306, 307, 308, 309, 310, 311, 287, 288, 289, 290, 291, 292] (by decide +kernel) (by decide +kernel)) (goodIn_sub (fun _ h => List.mem_cons_of_mem _ (List.mem_append_right _ h)) (by decide +kernel))
set_option maxRecDepth 20000 in
theorem gL_kept_X4_made : GoodIn wsL_kept (wsV RL 56 RX4 yX4_made wsX4_made) := goodIn_app (goodIn_of _ (by decide +kernel)) ggL_kept_X4_made
set_option maxRecDepth 20000 in
theorem ggL_kept_L_ones : GoodIn wsL_kept wsL_ones := goodIn_r _ [286] (by decide +kernel) (by decide +kernel)
set_option maxRecDepth 20000 in
theorem gL_kept_L_ones : GoodIn wsL_kept (va_wsS RL 96 yL_ones wsL_ones) := goodIn_app (goodIn_of _ (by decide +kernel)) ggL_kept_L_ones
set_option maxRecDepth 20000 in
theorem ggL_kept_X4_value : GoodIn wsL_kept wsX4_value := goodIn_ca (goodIn_ca (goodIn_r _ [242, 193, 153, 154, 155, 15, 156, 79, 80, 86, 243, 244, 245, 17, 18, 194, 165, 166, 89, 167, 142, 141, 168, 169, 170, 171, 172, 195, 196, 197, 198, 199, 246, 247, 248, 249, 250, 251, 252, 112, 113, 114, 51, 115, 116, 117, 118, 119, 60, 61, 62, 120, 121, 122, 123, 124, 25, 125, 35, 38, 36, 126, 127, 128, 129, 37, 130, 131, 253, 99, 100, 101, 102, 103, 104, 200, 201, 254, 211, 212, 303, 304, 305, 306, 307, 308, 309, 310, 311, 287, 288, 289, 290, 291, 292, 300, 301, 302, 293, 294, 295, 296] (by decide +kernel) (by decide +kernel)) (goodIn_sub (fun _ h => List.mem_cons_of_mem _ (List.mem_append_right _ h)) (by decide +kernel))) (goodIn_sub (fun _ h => List.mem_cons_of_mem _ (List.mem_append_left _ (List.mem_append_left _ (List.mem_append_right _ h)))) (by decide +kernel))
set_option maxRecDepth 20000 in
theorem gL_kept_X4_value : GoodIn wsL_kept (wsV RL 59 RX4 yX4_value wsX4_value) := goodIn_app (goodIn_of _ (by decide +kernel)) ggL_kept_X4_value
set_option maxRecDepth 20000 in
theorem ggL_kept_X4_valueByAll : GoodIn wsL_kept wsX4_valueByAll := goodIn_ca (goodIn_ca (goodIn_r _ [258, 193, 153, 154, 155, 15, 156, 79, 80, 86, 243, 244, 245, 17, 18, 194, 165, 166, 89, 167, 142, 141, 168, 169, 170, 171, 172, 195, 196, 197, 198, 199, 259, 260, 261, 249, 250, 251, 252, 112, 113, 114, 51, 115, 116, 117, 118, 119, 60, 61, 62, 120, 121, 122, 123, 124, 25, 125, 35, 38, 36, 126, 127, 128, 129, 37, 130, 131, 253, 99, 100, 101, 102, 103, 104, 200, 201, 254, 211, 212, 303, 304, 305, 306, 307, 308, 309, 310, 311, 287, 288, 289, 290, 291, 292, 300, 301, 302, 293, 294, 295, 296] (by decide +kernel) (by decide +kernel)) (goodIn_sub (fun _ h => List.mem_cons_of_mem _ (List.mem_append_right _ h)) (by decide +kernel))) (goodIn_sub (fun _ h => List.mem_cons_of_mem _ (List.mem_append_left _ (List.mem_append_left _ (List.mem_append_right _ h)))) (by decide +kernel))
set_option maxRecDepth 20000 in
theorem gL_kept_X4_valueByAll : GoodIn wsL_kept (wsV RL 62 RX4 yX4_valueByAll wsX4_valueByAll) := goodIn_app (goodIn_of _ (by decide +kernel)) ggL_kept_X4_valueByAll
set_option maxRecDepth 20000 in
theorem ggL_kept_X4_endless : GoodIn wsL_kept wsX4_endless := goodIn_ca (goodIn_r _ [274, 275, 75, 76, 77, 15, 78, 79, 80, 45, 297, 298, 299, 287, 288, 289, 290, 291, 292] (by decide +kernel) (by decide +kernel)) (goodIn_sub (fun _ h => List.mem_cons_of_mem _ (List.mem_append_right _ h)) (by decide +kernel))
set_option maxRecDepth 20000 in
theorem gL_kept_X4_endless : GoodIn wsL_kept (wsV RL 72 RX4 yX4_endless wsX4_endless) := goodIn_app (goodIn_of _ (by decide +kernel)) ggL_kept_X4_endless
set_option maxRecDepth 20000 in
theorem ggL_kept_X4_points : GoodIn wsL_kept wsX4_points := goodIn_ca (goodIn_r _ [279, 86, 206, 90, 91, 15, 92, 79, 80, 75, 76, 77, 78, 45, 105, 106, 107, 48, 108, 109, 110, 111, 99, 100, 101, 102, 103, 104, 280, 281, 282, 89, 283, 143, 139, 140, 287, 288, 289, 290, 291, 292, 303, 304, 305, 306, 307, 308, 309, 310, 311, 297, 298, 299] (by decide +kernel) (by decide +kernel)) (goodIn_sub (fun _ h => List.mem_cons_of_mem _ (List.mem_append_right _ h)) (by decide +kernel))
set_option maxRecDepth 20000 in
theorem gL_kept_X4_points : GoodIn wsL_kept (wsV RL 75 RX4 yX4_points wsX4_points) := goodIn_app (goodIn_of _ (by decide +kernel)) ggL_kept_X4_points
set_option maxRecDepth 20000 in
theorem ggL_kept_X4_isBanned : GoodIn wsL_kept wsX4_isBanned := goodIn_ca (goodIn_r _ [270, 75, 76, 77, 15, 78, 79, 80, 45, 105, 106, 107, 48, 108, 109, 110, 111, 99, 100, 101, 102, 103, 104, 287, 288, 289, 290, 291, 292, 297, 298, 299] (by decide +kernel) (by decide +kernel)) (goodIn_sub (fun _ h => List.mem_cons_of_mem _ (List.mem_append_right _ h)) (by decide +kernel))
set_option maxRecDepth 20000 in
theorem gL_kept_X4_isBanned : GoodIn wsL_kept (wsV RL 68 RX4 yX4_isBanned wsX4_isBanned) := goodIn_app (goodIn_of _ (by decide +kernel)) ggL_kept_X4_isBanned
theorem dL_kept_0 : decode cL_kept 0 = .ok (.aload_n 0, 1) := by decide +kernel
theorem dL_kept_1 : decode cL_kept 1 = .ok (.iconst 4, 1) := by decide +kernel
theorem dL_kept_2 : decode cL_kept 2 = .ok (.aload_n 1, 1) := by decide +kernel
theorem dL_kept_3 : decode cL_kept 3 = .ok (.iconst 2, 1) := by decide +kernel
theorem dL_kept_4 : decode cL_kept 4 = .ok (.iaload, 1) := by decide +kernel
theorem dL_kept_5 : decode cL_kept 5 = .ok (.iconst 0, 1) := by decide +kernel
theorem dL_kept_6 : decode cL_kept 6 = .ok (.iconst 0, 1) := by decide +kernel
theorem dL_kept_7 : decode cL_kept 7 = .ok (.iconst 0, 1) := by decide +kernel
theorem dL_kept_8 : decode cL_kept 8 = .ok (.iconst 0, 1) := by decide +kernel
theorem dL_kept_9 : decode cL_kept 9 = .ok (.invokestatic 92, 3) := by decide +kernel
theorem dL_kept_12 : decode cL_kept 12 = .ok (.sipush (-1021), 3) := by decide +kernel
theorem dL_kept_15 : decode cL_kept 15 = .ok (.if_icmp .ne 116, 3) := by decide +kernel
theorem dL_kept_18 : decode cL_kept 18 = .ok (.aload_n 0, 1) := by decide +kernel
theorem dL_kept_19 : decode cL_kept 19 = .ok (.iconst 5, 1) := by decide +kernel
theorem dL_kept_20 : decode cL_kept 20 = .ok (.iconst (-1), 1) := by decide +kernel
theorem dL_kept_21 : decode cL_kept 21 = .ok (.iconst 0, 1) := by decide +kernel
theorem dL_kept_22 : decode cL_kept 22 = .ok (.iconst 0, 1) := by decide +kernel
theorem dL_kept_23 : decode cL_kept 23 = .ok (.iconst 0, 1) := by decide +kernel
theorem dL_kept_24 : decode cL_kept 24 = .ok (.iconst 0, 1) := by decide +kernel
theorem dL_kept_25 : decode cL_kept 25 = .ok (.invokestatic 92, 3) := by decide +kernel
theorem dL_kept_28 : decode cL_kept 28 = .ok (.sipush (-1021), 3) := by decide +kernel
theorem dL_kept_31 : decode cL_kept 31 = .ok (.if_icmp .ne 100, 3) := by decide +kernel
theorem dL_kept_34 : decode cL_kept 34 = .ok (.aload_n 0, 1) := by decide +kernel
theorem dL_kept_35 : decode cL_kept 35 = .ok (.bipush 7, 2) := by decide +kernel
theorem dL_kept_37 : decode cL_kept 37 = .ok (.aload_n 1, 1) := by decide +kernel
theorem dL_kept_38 : decode cL_kept 38 = .ok (.iconst 2, 1) := by decide +kernel
theorem dL_kept_39 : decode cL_kept 39 = .ok (.iaload, 1) := by decide +kernel
theorem dL_kept_40 : decode cL_kept 40 = .ok (.iconst 0, 1) := by decide +kernel
theorem dL_kept_41 : decode cL_kept 41 = .ok (.iconst 0, 1) := by decide +kernel
theorem dL_kept_42 : decode cL_kept 42 = .ok (.iconst 0, 1) := by decide +kernel
theorem dL_kept_43 : decode cL_kept 43 = .ok (.iconst 0, 1) := by decide +kernel
theorem dL_kept_44 : decode cL_kept 44 = .ok (.invokestatic 92, 3) := by decide +kernel
theorem dL_kept_47 : decode cL_kept 47 = .ok (.sipush (-1021), 3) := by decide +kernel
theorem dL_kept_50 : decode cL_kept 50 = .ok (.if_icmp .ne 81, 3) := by decide +kernel
theorem dL_kept_53 : decode cL_kept 53 = .ok (.aload_n 0, 1) := by decide +kernel
theorem dL_kept_54 : decode cL_kept 54 = .ok (.bipush 10, 2) := by decide +kernel
theorem dL_kept_56 : decode cL_kept 56 = .ok (.aload_n 1, 1) := by decide +kernel
theorem dL_kept_57 : decode cL_kept 57 = .ok (.iconst 2, 1) := by decide +kernel
theorem dL_kept_58 : decode cL_kept 58 = .ok (.iaload, 1) := by decide +kernel
theorem dL_kept_59 : decode cL_kept 59 = .ok (.iconst 0, 1) := by decide +kernel
theorem dL_kept_60 : decode cL_kept 60 = .ok (.iconst 0, 1) := by decide +kernel
theorem dL_kept_61 : decode cL_kept 61 = .ok (.iconst 0, 1) := by decide +kernel
theorem dL_kept_62 : decode cL_kept 62 = .ok (.iconst 0, 1) := by decide +kernel
theorem dL_kept_63 : decode cL_kept 63 = .ok (.invokestatic 92, 3) := by decide +kernel
theorem dL_kept_66 : decode cL_kept 66 = .ok (.sipush (-1021), 3) := by decide +kernel
theorem dL_kept_69 : decode cL_kept 69 = .ok (.if_icmp .ne 62, 3) := by decide +kernel
theorem dL_kept_72 : decode cL_kept 72 = .ok (.aload_n 0, 1) := by decide +kernel
theorem dL_kept_73 : decode cL_kept 73 = .ok (.bipush 13, 2) := by decide +kernel
theorem dL_kept_75 : decode cL_kept 75 = .ok (.aload_n 1, 1) := by decide +kernel
theorem dL_kept_76 : decode cL_kept 76 = .ok (.iconst 1, 1) := by decide +kernel
theorem dL_kept_77 : decode cL_kept 77 = .ok (.iaload, 1) := by decide +kernel
theorem dL_kept_78 : decode cL_kept 78 = .ok (.iconst 0, 1) := by decide +kernel
theorem dL_kept_79 : decode cL_kept 79 = .ok (.iconst 0, 1) := by decide +kernel
theorem dL_kept_80 : decode cL_kept 80 = .ok (.iconst 0, 1) := by decide +kernel
theorem dL_kept_81 : decode cL_kept 81 = .ok (.iconst 0, 1) := by decide +kernel
theorem dL_kept_82 : decode cL_kept 82 = .ok (.invokestatic 92, 3) := by decide +kernel
theorem dL_kept_85 : decode cL_kept 85 = .ok (.sipush (-1021), 3) := by decide +kernel
theorem dL_kept_88 : decode cL_kept 88 = .ok (.if_icmp .ne 43, 3) := by decide +kernel
theorem dL_kept_91 : decode cL_kept 91 = .ok (.aload_n 0, 1) := by decide +kernel
theorem dL_kept_92 : decode cL_kept 92 = .ok (.bipush 14, 2) := by decide +kernel
theorem dL_kept_94 : decode cL_kept 94 = .ok (.iconst (-1), 1) := by decide +kernel
theorem dL_kept_95 : decode cL_kept 95 = .ok (.iconst 0, 1) := by decide +kernel
theorem dL_kept_96 : decode cL_kept 96 = .ok (.iconst 0, 1) := by decide +kernel
theorem dL_kept_97 : decode cL_kept 97 = .ok (.iconst 0, 1) := by decide +kernel
theorem dL_kept_98 : decode cL_kept 98 = .ok (.iconst 0, 1) := by decide +kernel
theorem dL_kept_99 : decode cL_kept 99 = .ok (.invokestatic 92, 3) := by decide +kernel
theorem dL_kept_102 : decode cL_kept 102 = .ok (.sipush (-1021), 3) := by decide +kernel
theorem dL_kept_105 : decode cL_kept 105 = .ok (.if_icmp .ne 26, 3) := by decide +kernel
theorem dL_kept_108 : decode cL_kept 108 = .ok (.aload_n 0, 1) := by decide +kernel
theorem dL_kept_109 : decode cL_kept 109 = .ok (.bipush 15, 2) := by decide +kernel
theorem dL_kept_111 : decode cL_kept 111 = .ok (.iconst 0, 1) := by decide +kernel
theorem dL_kept_112 : decode cL_kept 112 = .ok (.aload_n 1, 1) := by decide +kernel
theorem dL_kept_113 : decode cL_kept 113 = .ok (.iconst 1, 1) := by decide +kernel
theorem dL_kept_114 : decode cL_kept 114 = .ok (.iaload, 1) := by decide +kernel
theorem dL_kept_115 : decode cL_kept 115 = .ok (.iconst 0, 1) := by decide +kernel
theorem dL_kept_116 : decode cL_kept 116 = .ok (.iconst 0, 1) := by decide +kernel
theorem dL_kept_117 : decode cL_kept 117 = .ok (.iconst 0, 1) := by decide +kernel
theorem dL_kept_118 : decode cL_kept 118 = .ok (.invokestatic 92, 3) := by decide +kernel
theorem dL_kept_121 : decode cL_kept 121 = .ok (.sipush (-1021), 3) := by decide +kernel
theorem dL_kept_124 : decode cL_kept 124 = .ok (.if_icmp .ne 7, 3) := by decide +kernel
theorem dL_kept_127 : decode cL_kept 127 = .ok (.iconst 1, 1) := by decide +kernel
theorem dL_kept_128 : decode cL_kept 128 = .ok (.goto 4, 3) := by decide +kernel
theorem dL_kept_131 : decode cL_kept 131 = .ok (.iconst 0, 1) := by decide +kernel
theorem dL_kept_132 : decode cL_kept 132 = .ok (.istore_n 2, 1) := by decide +kernel
theorem dL_kept_133 : decode cL_kept 133 = .ok (.iconst 0, 1) := by decide +kernel
theorem dL_kept_134 : decode cL_kept 134 = .ok (.istore_n 3, 1) := by decide +kernel
theorem dL_kept_135 : decode cL_kept 135 = .ok (.iconst 0, 1) := by decide +kernel
theorem dL_kept_136 : decode cL_kept 136 = .ok (.istore 4, 2) := by decide +kernel
theorem dL_kept_138 : decode cL_kept 138 = .ok (.iload 4, 2) := by decide +kernel
theorem dL_kept_140 : decode cL_kept 140 = .ok (.aload_n 1, 1) := by decide +kernel
theorem dL_kept_141 : decode cL_kept 141 = .ok (.iconst 2, 1) := by decide +kernel
theorem dL_kept_142 : decode cL_kept 142 = .ok (.iaload, 1) := by decide +kernel
theorem dL_kept_143 : decode cL_kept 143 = .ok (.if_icmp .ge 364, 3) := by decide +kernel
theorem dL_kept_146 : decode cL_kept 146 = .ok (.iload_n 2, 1) := by decide +kernel
theorem dL_kept_147 : decode cL_kept 147 = .ok (.ifCond .eq 360, 3) := by decide +kernel
theorem dL_kept_150 : decode cL_kept 150 = .ok (.aload_n 0, 1) := by decide +kernel
theorem dL_kept_151 : decode cL_kept 151 = .ok (.iload 4, 2) := by decide +kernel
theorem dL_kept_153 : decode cL_kept 153 = .ok (.iconst 0, 1) := by decide +kernel
theorem dL_kept_154 : decode cL_kept 154 = .ok (.invokevirtual 52, 3) := by decide +kernel
theorem dL_kept_157 : decode cL_kept 157 = .ok (.istore 5, 2) := by decide +kernel
theorem dL_kept_159 : decode cL_kept 159 = .ok (.aload_n 0, 1) := by decide +kernel
theorem dL_kept_160 : decode cL_kept 160 = .ok (.iload 4, 2) := by decide +kernel
theorem dL_kept_162 : decode cL_kept 162 = .ok (.iconst 1, 1) := by decide +kernel
theorem dL_kept_163 : decode cL_kept 163 = .ok (.invokevirtual 52, 3) := by decide +kernel
theorem dL_kept_166 : decode cL_kept 166 = .ok (.istore 6, 2) := by decide +kernel
theorem dL_kept_168 : decode cL_kept 168 = .ok (.aload_n 0, 1) := by decide +kernel
theorem dL_kept_169 : decode cL_kept 169 = .ok (.iload 4, 2) := by decide +kernel
theorem dL_kept_171 : decode cL_kept 171 = .ok (.invokevirtual 48, 3) := by decide +kernel
theorem dL_kept_174 : decode cL_kept 174 = .ok (.istore 7, 2) := by decide +kernel
theorem dL_kept_176 : decode cL_kept 176 = .ok (.iload_n 3, 1) := by decide +kernel
theorem dL_kept_177 : decode cL_kept 177 = .ok (.iload 7, 2) := by decide +kernel
theorem dL_kept_179 : decode cL_kept 179 = .ok (.iconst 3, 1) := by decide +kernel
theorem dL_kept_180 : decode cL_kept 180 = .ok (.if_icmp .ne 7, 3) := by decide +kernel
theorem dL_kept_183 : decode cL_kept 183 = .ok (.iconst 1, 1) := by decide +kernel
theorem dL_kept_184 : decode cL_kept 184 = .ok (.goto 4, 3) := by decide +kernel
theorem dL_kept_187 : decode cL_kept 187 = .ok (.iconst 0, 1) := by decide +kernel
theorem dL_kept_188 : decode cL_kept 188 = .ok (.iadd, 1) := by decide +kernel
theorem dL_kept_189 : decode cL_kept 189 = .ok (.istore_n 3, 1) := by decide +kernel
theorem dL_kept_190 : decode cL_kept 190 = .ok (.iload 7, 2) := by decide +kernel
theorem dL_kept_192 : decode cL_kept 192 = .ok (.ifCond .lt 107, 3) := by decide +kernel
theorem dL_kept_195 : decode cL_kept 195 = .ok (.iload 7, 2) := by decide +kernel
theorem dL_kept_197 : decode cL_kept 197 = .ok (.iconst 4, 1) := by decide +kernel
theorem dL_kept_198 : decode cL_kept 198 = .ok (.if_icmp .ge 101, 3) := by decide +kernel
theorem dL_kept_201 : decode cL_kept 201 = .ok (.aload_n 0, 1) := by decide +kernel
theorem dL_kept_202 : decode cL_kept 202 = .ok (.iload 4, 2) := by decide +kernel
theorem dL_kept_204 : decode cL_kept 204 = .ok (.invokevirtual 56, 3) := by decide +kernel
theorem dL_kept_207 : decode cL_kept 207 = .ok (.ifCond .lt 92, 3) := by decide +kernel
theorem dL_kept_210 : decode cL_kept 210 = .ok (.aload_n 0, 1) := by decide +kernel
theorem dL_kept_211 : decode cL_kept 211 = .ok (.iload 4, 2) := by decide +kernel
theorem dL_kept_213 : decode cL_kept 213 = .ok (.invokevirtual 56, 3) := by decide +kernel
theorem dL_kept_216 : decode cL_kept 216 = .ok (.bipush 61, 2) := by decide +kernel
theorem dL_kept_218 : decode cL_kept 218 = .ok (.if_icmp .ge 81, 3) := by decide +kernel
theorem dL_kept_221 : decode cL_kept 221 = .ok (.iload 5, 2) := by decide +kernel
theorem dL_kept_223 : decode cL_kept 223 = .ok (.ifCond .lt 76, 3) := by decide +kernel
theorem dL_kept_226 : decode cL_kept 226 = .ok (.iload 5, 2) := by decide +kernel
theorem dL_kept_228 : decode cL_kept 228 = .ok (.ldc 95, 2) := by decide +kernel
theorem dL_kept_230 : decode cL_kept 230 = .ok (.if_icmp .ge 69, 3) := by decide +kernel
theorem dL_kept_233 : decode cL_kept 233 = .ok (.iload 6, 2) := by decide +kernel
theorem dL_kept_235 : decode cL_kept 235 = .ok (.ifCond .lt 64, 3) := by decide +kernel
theorem dL_kept_238 : decode cL_kept 238 = .ok (.iload 6, 2) := by decide +kernel
theorem dL_kept_240 : decode cL_kept 240 = .ok (.ldc 95, 2) := by decide +kernel
theorem dL_kept_242 : decode cL_kept 242 = .ok (.if_icmp .ge 57, 3) := by decide +kernel
theorem dL_kept_245 : decode cL_kept 245 = .ok (.iload 5, 2) := by decide +kernel
theorem dL_kept_247 : decode cL_kept 247 = .ok (.iload 6, 2) := by decide +kernel
theorem dL_kept_249 : decode cL_kept 249 = .ok (.iand, 1) := by decide +kernel
theorem dL_kept_250 : decode cL_kept 250 = .ok (.ifCond .ne 49, 3) := by decide +kernel
theorem dL_kept_253 : decode cL_kept 253 = .ok (.iload 5, 2) := by decide +kernel
theorem dL_kept_255 : decode cL_kept 255 = .ok (.invokestatic 96, 3) := by decide +kernel
theorem dL_kept_258 : decode cL_kept 258 = .ok (.bipush 7, 2) := by decide +kernel
theorem dL_kept_260 : decode cL_kept 260 = .ok (.if_icmp .ge 39, 3) := by decide +kernel
theorem dL_kept_263 : decode cL_kept 263 = .ok (.iload 6, 2) := by decide +kernel
theorem dL_kept_265 : decode cL_kept 265 = .ok (.invokestatic 96, 3) := by decide +kernel
theorem dL_kept_268 : decode cL_kept 268 = .ok (.bipush 7, 2) := by decide +kernel
theorem dL_kept_270 : decode cL_kept 270 = .ok (.if_icmp .ge 29, 3) := by decide +kernel
theorem dL_kept_273 : decode cL_kept 273 = .ok (.iload 5, 2) := by decide +kernel
theorem dL_kept_275 : decode cL_kept 275 = .ok (.ifCond .gt 9, 3) := by decide +kernel
theorem dL_kept_278 : decode cL_kept 278 = .ok (.iload 7, 2) := by decide +kernel
theorem dL_kept_280 : decode cL_kept 280 = .ok (.iconst 2, 1) := by decide +kernel
theorem dL_kept_281 : decode cL_kept 281 = .ok (.if_icmp .ne 18, 3) := by decide +kernel
theorem dL_kept_284 : decode cL_kept 284 = .ok (.iload 6, 2) := by decide +kernel
theorem dL_kept_286 : decode cL_kept 286 = .ok (.ifCond .gt 9, 3) := by decide +kernel
theorem dL_kept_289 : decode cL_kept 289 = .ok (.iload 7, 2) := by decide +kernel
theorem dL_kept_291 : decode cL_kept 291 = .ok (.iconst 1, 1) := by decide +kernel
theorem dL_kept_292 : decode cL_kept 292 = .ok (.if_icmp .ne 7, 3) := by decide +kernel
theorem dL_kept_295 : decode cL_kept 295 = .ok (.iconst 1, 1) := by decide +kernel
theorem dL_kept_296 : decode cL_kept 296 = .ok (.goto 4, 3) := by decide +kernel
theorem dL_kept_299 : decode cL_kept 299 = .ok (.iconst 0, 1) := by decide +kernel
theorem dL_kept_300 : decode cL_kept 300 = .ok (.istore_n 2, 1) := by decide +kernel
theorem dL_kept_301 : decode cL_kept 301 = .ok (.aload_n 0, 1) := by decide +kernel
theorem dL_kept_302 : decode cL_kept 302 = .ok (.iload 4, 2) := by decide +kernel
theorem dL_kept_304 : decode cL_kept 304 = .ok (.invokevirtual 56, 3) := by decide +kernel
theorem dL_kept_307 : decode cL_kept 307 = .ok (.iconst 2, 1) := by decide +kernel
theorem dL_kept_308 : decode cL_kept 308 = .ok (.irem, 1) := by decide +kernel
theorem dL_kept_309 : decode cL_kept 309 = .ok (.iconst 1, 1) := by decide +kernel
theorem dL_kept_310 : decode cL_kept 310 = .ok (.if_icmp .ne 7, 3) := by decide +kernel
theorem dL_kept_313 : decode cL_kept 313 = .ok (.iconst 1, 1) := by decide +kernel
theorem dL_kept_314 : decode cL_kept 314 = .ok (.goto 4, 3) := by decide +kernel
theorem dL_kept_317 : decode cL_kept 317 = .ok (.iconst 0, 1) := by decide +kernel
theorem dL_kept_318 : decode cL_kept 318 = .ok (.istore 8, 2) := by decide +kernel
theorem dL_kept_320 : decode cL_kept 320 = .ok (.aload_n 0, 1) := by decide +kernel
theorem dL_kept_321 : decode cL_kept 321 = .ok (.iload 4, 2) := by decide +kernel
theorem dL_kept_323 : decode cL_kept 323 = .ok (.iconst 0, 1) := by decide +kernel
theorem dL_kept_324 : decode cL_kept 324 = .ok (.invokevirtual 59, 3) := by decide +kernel
theorem dL_kept_327 : decode cL_kept 327 = .ok (.istore 9, 2) := by decide +kernel
theorem dL_kept_329 : decode cL_kept 329 = .ok (.iload_n 2, 1) := by decide +kernel
theorem dL_kept_330 : decode cL_kept 330 = .ok (.ifCond .eq 96, 3) := by decide +kernel
theorem dL_kept_333 : decode cL_kept 333 = .ok (.iload 9, 2) := by decide +kernel
theorem dL_kept_335 : decode cL_kept 335 = .ok (.bipush (-100), 2) := by decide +kernel
theorem dL_kept_337 : decode cL_kept 337 = .ok (.if_icmp .eq 38, 3) := by decide +kernel
theorem dL_kept_340 : decode cL_kept 340 = .ok (.iload 9, 2) := by decide +kernel
theorem dL_kept_342 : decode cL_kept 342 = .ok (.iload 8, 2) := by decide +kernel
theorem dL_kept_344 : decode cL_kept 344 = .ok (.ifCond .eq 17, 3) := by decide +kernel
theorem dL_kept_347 : decode cL_kept 347 = .ok (.iload 6, 2) := by decide +kernel
theorem dL_kept_349 : decode cL_kept 349 = .ok (.invokestatic 96, 3) := by decide +kernel
theorem dL_kept_352 : decode cL_kept 352 = .ok (.iload 5, 2) := by decide +kernel
theorem dL_kept_354 : decode cL_kept 354 = .ok (.invokestatic 96, 3) := by decide +kernel
theorem dL_kept_357 : decode cL_kept 357 = .ok (.isub, 1) := by decide +kernel
theorem dL_kept_358 : decode cL_kept 358 = .ok (.goto 14, 3) := by decide +kernel
theorem dL_kept_361 : decode cL_kept 361 = .ok (.iload 5, 2) := by decide +kernel
theorem dL_kept_363 : decode cL_kept 363 = .ok (.invokestatic 96, 3) := by decide +kernel
theorem dL_kept_366 : decode cL_kept 366 = .ok (.iload 6, 2) := by decide +kernel
theorem dL_kept_368 : decode cL_kept 368 = .ok (.invokestatic 96, 3) := by decide +kernel
theorem dL_kept_371 : decode cL_kept 371 = .ok (.isub, 1) := by decide +kernel
theorem dL_kept_372 : decode cL_kept 372 = .ok (.if_icmp .ne 54, 3) := by decide +kernel
theorem dL_kept_375 : decode cL_kept 375 = .ok (.iload 7, 2) := by decide +kernel
theorem dL_kept_377 : decode cL_kept 377 = .ok (.ifCond .ne 10, 3) := by decide +kernel
theorem dL_kept_380 : decode cL_kept 380 = .ok (.iload 9, 2) := by decide +kernel
theorem dL_kept_382 : decode cL_kept 382 = .ok (.bipush (-100), 2) := by decide +kernel
theorem dL_kept_384 : decode cL_kept 384 = .ok (.if_icmp .le 42, 3) := by decide +kernel
theorem dL_kept_387 : decode cL_kept 387 = .ok (.iload 7, 2) := by decide +kernel
theorem dL_kept_389 : decode cL_kept 389 = .ok (.iconst 1, 1) := by decide +kernel
theorem dL_kept_390 : decode cL_kept 390 = .ok (.if_icmp .eq 9, 3) := by decide +kernel
theorem dL_kept_393 : decode cL_kept 393 = .ok (.iload 7, 2) := by decide +kernel
theorem dL_kept_395 : decode cL_kept 395 = .ok (.iconst 2, 1) := by decide +kernel
theorem dL_kept_396 : decode cL_kept 396 = .ok (.if_icmp .ne 26, 3) := by decide +kernel
theorem dL_kept_399 : decode cL_kept 399 = .ok (.iload 9, 2) := by decide +kernel
theorem dL_kept_401 : decode cL_kept 401 = .ok (.bipush (-100), 2) := by decide +kernel
theorem dL_kept_403 : decode cL_kept 403 = .ok (.if_icmp .ne 23, 3) := by decide +kernel
theorem dL_kept_406 : decode cL_kept 406 = .ok (.iload 8, 2) := by decide +kernel
theorem dL_kept_408 : decode cL_kept 408 = .ok (.iload 7, 2) := by decide +kernel
theorem dL_kept_410 : decode cL_kept 410 = .ok (.iconst 1, 1) := by decide +kernel
theorem dL_kept_411 : decode cL_kept 411 = .ok (.if_icmp .ne 7, 3) := by decide +kernel
theorem dL_kept_414 : decode cL_kept 414 = .ok (.iconst 1, 1) := by decide +kernel
theorem dL_kept_415 : decode cL_kept 415 = .ok (.goto 4, 3) := by decide +kernel
theorem dL_kept_418 : decode cL_kept 418 = .ok (.iconst 0, 1) := by decide +kernel
theorem dL_kept_419 : decode cL_kept 419 = .ok (.if_icmp .ne 7, 3) := by decide +kernel
theorem dL_kept_422 : decode cL_kept 422 = .ok (.iconst 1, 1) := by decide +kernel
theorem dL_kept_423 : decode cL_kept 423 = .ok (.goto 4, 3) := by decide +kernel
theorem dL_kept_426 : decode cL_kept 426 = .ok (.iconst 0, 1) := by decide +kernel
theorem dL_kept_427 : decode cL_kept 427 = .ok (.istore_n 2, 1) := by decide +kernel
theorem dL_kept_428 : decode cL_kept 428 = .ok (.iload_n 2, 1) := by decide +kernel
theorem dL_kept_429 : decode cL_kept 429 = .ok (.ifCond .eq 70, 3) := by decide +kernel
theorem dL_kept_432 : decode cL_kept 432 = .ok (.aload_n 0, 1) := by decide +kernel
theorem dL_kept_433 : decode cL_kept 433 = .ok (.iload 4, 2) := by decide +kernel
theorem dL_kept_435 : decode cL_kept 435 = .ok (.iconst 0, 1) := by decide +kernel
theorem dL_kept_436 : decode cL_kept 436 = .ok (.invokevirtual 62, 3) := by decide +kernel
theorem dL_kept_439 : decode cL_kept 439 = .ok (.iload 9, 2) := by decide +kernel
theorem dL_kept_441 : decode cL_kept 441 = .ok (.if_icmp .ne 58, 3) := by decide +kernel
theorem dL_kept_444 : decode cL_kept 444 = .ok (.iload 9, 2) := by decide +kernel
theorem dL_kept_446 : decode cL_kept 446 = .ok (.bipush (-100), 2) := by decide +kernel
theorem dL_kept_448 : decode cL_kept 448 = .ok (.if_icmp .ne 18, 3) := by decide +kernel
theorem dL_kept_451 : decode cL_kept 451 = .ok (.aload_n 0, 1) := by decide +kernel
theorem dL_kept_452 : decode cL_kept 452 = .ok (.iload 4, 2) := by decide +kernel
theorem dL_kept_454 : decode cL_kept 454 = .ok (.iconst 1, 1) := by decide +kernel
theorem dL_kept_455 : decode cL_kept 455 = .ok (.invokevirtual 59, 3) := by decide +kernel
theorem dL_kept_458 : decode cL_kept 458 = .ok (.bipush (-100), 2) := by decide +kernel
theorem dL_kept_460 : decode cL_kept 460 = .ok (.if_icmp .ne 39, 3) := by decide +kernel
theorem dL_kept_463 : decode cL_kept 463 = .ok (.goto 15, 3) := by decide +kernel
theorem dL_kept_466 : decode cL_kept 466 = .ok (.aload_n 0, 1) := by decide +kernel
theorem dL_kept_467 : decode cL_kept 467 = .ok (.iload 4, 2) := by decide +kernel
theorem dL_kept_469 : decode cL_kept 469 = .ok (.iconst 1, 1) := by decide +kernel
theorem dL_kept_470 : decode cL_kept 470 = .ok (.invokevirtual 59, 3) := by decide +kernel
theorem dL_kept_473 : decode cL_kept 473 = .ok (.iload 9, 2) := by decide +kernel
theorem dL_kept_475 : decode cL_kept 475 = .ok (.if_icmp .lt 24, 3) := by decide +kernel
theorem dL_kept_478 : decode cL_kept 478 = .ok (.aload_n 0, 1) := by decide +kernel
theorem dL_kept_479 : decode cL_kept 479 = .ok (.iload 4, 2) := by decide +kernel
theorem dL_kept_481 : decode cL_kept 481 = .ok (.iconst 1, 1) := by decide +kernel
theorem dL_kept_482 : decode cL_kept 482 = .ok (.invokevirtual 62, 3) := by decide +kernel
theorem dL_kept_485 : decode cL_kept 485 = .ok (.aload_n 0, 1) := by decide +kernel
theorem dL_kept_486 : decode cL_kept 486 = .ok (.iload 4, 2) := by decide +kernel
theorem dL_kept_488 : decode cL_kept 488 = .ok (.iconst 1, 1) := by decide +kernel
theorem dL_kept_489 : decode cL_kept 489 = .ok (.invokevirtual 59, 3) := by decide +kernel
theorem dL_kept_492 : decode cL_kept 492 = .ok (.if_icmp .ne 7, 3) := by decide +kernel
theorem dL_kept_495 : decode cL_kept 495 = .ok (.iconst 1, 1) := by decide +kernel
theorem dL_kept_496 : decode cL_kept 496 = .ok (.goto 4, 3) := by decide +kernel
theorem dL_kept_499 : decode cL_kept 499 = .ok (.iconst 0, 1) := by decide +kernel
theorem dL_kept_500 : decode cL_kept 500 = .ok (.istore_n 2, 1) := by decide +kernel
theorem dL_kept_501 : decode cL_kept 501 = .ok (.iinc 4 1, 3) := by decide +kernel
theorem dL_kept_504 : decode cL_kept 504 = .ok (.goto (-366), 3) := by decide +kernel
theorem dL_kept_507 : decode cL_kept 507 = .ok (.iconst 0, 1) := by decide +kernel
theorem dL_kept_508 : decode cL_kept 508 = .ok (.istore 4, 2) := by decide +kernel
theorem dL_kept_510 : decode cL_kept 510 = .ok (.iconst 0, 1) := by decide +kernel
theorem dL_kept_511 : decode cL_kept 511 = .ok (.istore 5, 2) := by decide +kernel
theorem dL_kept_513 : decode cL_kept 513 = .ok (.iload 5, 2) := by decide +kernel
theorem dL_kept_515 : decode cL_kept 515 = .ok (.aload_n 1, 1) := by decide +kernel
theorem dL_kept_516 : decode cL_kept 516 = .ok (.iconst 1, 1) := by decide +kernel
theorem dL_kept_517 : decode cL_kept 517 = .ok (.iaload, 1) := by decide +kernel
theorem dL_kept_518 : decode cL_kept 518 = .ok (.if_icmp .ge 110, 3) := by decide +kernel
theorem dL_kept_521 : decode cL_kept 521 = .ok (.iload_n 2, 1) := by decide +kernel
theorem dL_kept_522 : decode cL_kept 522 = .ok (.ifCond .eq 106, 3) := by decide +kernel
theorem dL_kept_525 : decode cL_kept 525 = .ok (.iload 4, 2) := by decide +kernel
theorem dL_kept_527 : decode cL_kept 527 = .ok (.aload_n 0, 1) := by decide +kernel
theorem dL_kept_528 : decode cL_kept 528 = .ok (.iload 5, 2) := by decide +kernel
theorem dL_kept_530 : decode cL_kept 530 = .ok (.invokevirtual 72, 3) := by decide +kernel
theorem dL_kept_533 : decode cL_kept 533 = .ok (.iadd, 1) := by decide +kernel
theorem dL_kept_534 : decode cL_kept 534 = .ok (.istore 4, 2) := by decide +kernel
theorem dL_kept_536 : decode cL_kept 536 = .ok (.iconst 0, 1) := by decide +kernel
theorem dL_kept_537 : decode cL_kept 537 = .ok (.istore 6, 2) := by decide +kernel
theorem dL_kept_539 : decode cL_kept 539 = .ok (.iconst 0, 1) := by decide +kernel
theorem dL_kept_540 : decode cL_kept 540 = .ok (.istore 7, 2) := by decide +kernel
theorem dL_kept_542 : decode cL_kept 542 = .ok (.iload 7, 2) := by decide +kernel
theorem dL_kept_544 : decode cL_kept 544 = .ok (.iconst 5, 1) := by decide +kernel
theorem dL_kept_545 : decode cL_kept 545 = .ok (.if_icmp .ge 22, 3) := by decide +kernel
theorem dL_kept_548 : decode cL_kept 548 = .ok (.iload 6, 2) := by decide +kernel
theorem dL_kept_550 : decode cL_kept 550 = .ok (.aload_n 0, 1) := by decide +kernel
theorem dL_kept_551 : decode cL_kept 551 = .ok (.iload 7, 2) := by decide +kernel
theorem dL_kept_553 : decode cL_kept 553 = .ok (.iload 5, 2) := by decide +kernel
theorem dL_kept_555 : decode cL_kept 555 = .ok (.invokevirtual 75, 3) := by decide +kernel
theorem dL_kept_558 : decode cL_kept 558 = .ok (.iadd, 1) := by decide +kernel
theorem dL_kept_559 : decode cL_kept 559 = .ok (.istore 6, 2) := by decide +kernel
theorem dL_kept_561 : decode cL_kept 561 = .ok (.iinc 7 1, 3) := by decide +kernel
theorem dL_kept_564 : decode cL_kept 564 = .ok (.goto (-22), 3) := by decide +kernel
theorem dL_kept_567 : decode cL_kept 567 = .ok (.aload_n 0, 1) := by decide +kernel
theorem dL_kept_568 : decode cL_kept 568 = .ok (.iload 5, 2) := by decide +kernel
theorem dL_kept_570 : decode cL_kept 570 = .ok (.invokevirtual 72, 3) := by decide +kernel
theorem dL_kept_573 : decode cL_kept 573 = .ok (.ifCond .lt 47, 3) := by decide +kernel
theorem dL_kept_576 : decode cL_kept 576 = .ok (.aload_n 0, 1) := by decide +kernel
theorem dL_kept_577 : decode cL_kept 577 = .ok (.iload 5, 2) := by decide +kernel
theorem dL_kept_579 : decode cL_kept 579 = .ok (.invokevirtual 68, 3) := by decide +kernel
theorem dL_kept_582 : decode cL_kept 582 = .ok (.ifCond .eq 8, 3) := by decide +kernel
theorem dL_kept_585 : decode cL_kept 585 = .ok (.iload 6, 2) := by decide +kernel
theorem dL_kept_587 : decode cL_kept 587 = .ok (.ifCond .ne 33, 3) := by decide +kernel
theorem dL_kept_590 : decode cL_kept 590 = .ok (.aload_n 0, 1) := by decide +kernel
theorem dL_kept_591 : decode cL_kept 591 = .ok (.iload 5, 2) := by decide +kernel
theorem dL_kept_593 : decode cL_kept 593 = .ok (.invokevirtual 72, 3) := by decide +kernel
theorem dL_kept_596 : decode cL_kept 596 = .ok (.iconst 2, 1) := by decide +kernel
theorem dL_kept_597 : decode cL_kept 597 = .ok (.if_icmp .lt 12, 3) := by decide +kernel
theorem dL_kept_600 : decode cL_kept 600 = .ok (.aload_n 0, 1) := by decide +kernel
theorem dL_kept_601 : decode cL_kept 601 = .ok (.iload 5, 2) := by decide +kernel
theorem dL_kept_603 : decode cL_kept 603 = .ok (.invokevirtual 68, 3) := by decide +kernel
theorem dL_kept_606 : decode cL_kept 606 = .ok (.ifCond .eq 14, 3) := by decide +kernel
theorem dL_kept_609 : decode cL_kept 609 = .ok (.iload 6, 2) := by decide +kernel
theorem dL_kept_611 : decode cL_kept 611 = .ok (.bipush 36, 2) := by decide +kernel
theorem dL_kept_613 : decode cL_kept 613 = .ok (.if_icmp .gt 7, 3) := by decide +kernel
theorem dL_kept_616 : decode cL_kept 616 = .ok (.iconst 1, 1) := by decide +kernel
theorem dL_kept_617 : decode cL_kept 617 = .ok (.goto 4, 3) := by decide +kernel
theorem dL_kept_620 : decode cL_kept 620 = .ok (.iconst 0, 1) := by decide +kernel
theorem dL_kept_621 : decode cL_kept 621 = .ok (.istore_n 2, 1) := by decide +kernel
theorem dL_kept_622 : decode cL_kept 622 = .ok (.iinc 5 1, 3) := by decide +kernel
theorem dL_kept_625 : decode cL_kept 625 = .ok (.goto (-112), 3) := by decide +kernel
theorem dL_kept_628 : decode cL_kept 628 = .ok (.iload_n 2, 1) := by decide +kernel
theorem dL_kept_629 : decode cL_kept 629 = .ok (.ifCond .eq 13, 3) := by decide +kernel
theorem dL_kept_632 : decode cL_kept 632 = .ok (.iload 4, 2) := by decide +kernel
theorem dL_kept_634 : decode cL_kept 634 = .ok (.iload_n 3, 1) := by decide +kernel
theorem dL_kept_635 : decode cL_kept 635 = .ok (.if_icmp .gt 7, 3) := by decide +kernel
theorem dL_kept_638 : decode cL_kept 638 = .ok (.iconst 1, 1) := by decide +kernel
theorem dL_kept_639 : decode cL_kept 639 = .ok (.goto 4, 3) := by decide +kernel
theorem dL_kept_642 : decode cL_kept 642 = .ok (.iconst 0, 1) := by decide +kernel
theorem dL_kept_643 : decode cL_kept 643 = .ok (.ireturn, 1) := by decide +kernel
set_option maxRecDepth 20000 in
theorem ggL_refused_L_all : GoodIn wsL_refused wsL_all := goodIn_ca (goodIn_r _ [4, 5, 6, 7, 8, 9, 10, 11, 12, 13, 14, 15, 16, 17, 18, 19, 20, 21, 22, 23, 24, 25, 26, 27, 28, 29, 30, 31, 32, 33, 34, 35, 36, 37, 38, 39, 40, 41, 42, 43, 44, 45, 46, 47, 48, 49, 50, 51, 52, 53, 54, 55, 56, 57, 58, 59, 60, 61, 62, 63, 64, 65, 66, 67, 68, 69, 70, 71, 72, 73, 74, 75, 76, 77, 78, 79, 293, 294, 295, 296, 297, 298, 299, 300, 301, 302, 303, 304, 305, 306, 307, 308, 309, 310] (by decide +kernel) (by decide +kernel)) (goodIn_sub (fun _ h => List.mem_cons_of_mem _ (List.mem_append_left _ (List.mem_append_left _ (List.mem_append_right _ h)))) (by decide +kernel))
set_option maxRecDepth 20000 in
theorem gL_refused_L_all : GoodIn wsL_refused (va_wsS RL 99 yL_all wsL_all) := goodIn_app (goodIn_of _ (by decide +kernel)) ggL_refused_L_all
set_option maxRecDepth 20000 in
theorem ggL_refused_L_call : GoodIn wsL_refused wsL_call := goodIn_ca (goodIn_ca (goodIn_ca (goodIn_r _ [82, 83, 84, 85, 86, 87, 3, 88, 89, 90, 91, 15, 92, 93, 94, 95, 96, 97, 98, 99, 100, 101, 102, 103, 104, 105, 106, 107, 108, 109, 110, 111, 112, 113, 114, 115, 116, 117, 118, 119, 120, 44, 121, 122, 48, 123, 124, 125, 126, 127, 128, 129, 130, 131, 132, 133, 134, 135, 136, 137, 138, 139, 140, 141, 142, 143, 144, 145, 146, 147, 148, 40, 41, 42, 43, 22, 23, 149, 150, 151, 152, 153, 24, 154, 155, 75, 69, 70, 71, 156, 157, 158, 159, 160, 161, 53, 54, 55, 56, 57, 58, 45, 46, 47, 49, 50, 51, 52, 162, 163, 164, 165, 166, 167, 168, 169, 170, 171, 172, 173, 174, 175, 176, 177, 178, 179, 180, 181, 182, 183, 184, 185, 186, 187, 188, 78, 79, 189, 190, 77, 191, 192, 193, 194, 195, 196, 197, 198, 199, 18, 19, 20, 21, 200, 201, 202, 203, 204, 205, 206, 207, 208, 209, 210, 211, 212, 213, 214, 215, 216, 217, 218, 219, 220, 221, 222, 223, 224, 225, 226, 227, 228, 229, 230, 231, 17, 232, 233, 234, 235, 236, 237, 238, 239, 240, 241, 242, 243, 244, 245, 246, 247, 68, 248, 249, 250, 251, 252, 253, 254, 255, 256, 257, 258, 259, 260, 261, 262, 263, 264, 12, 13, 14, 16, 30, 31, 32, 33, 34, 35, 25, 26, 27, 28, 29, 265, 266, 267, 268, 269, 270, 271, 272, 273, 274, 275, 276, 277, 278, 279, 280, 281, 282, 283, 284, 285, 286, 287, 288, 289, 290, 291, 292, 36, 37, 38, 39, 59, 60, 61, 62, 63, 64, 65, 66, 67, 72, 73, 74, 76, 302, 303, 304, 305, 306, 307, 311, 312, 313, 314, 308, 309, 310, 315, 316, 317, 293, 294, 295, 296, 297, 298, 299, 300, 301] (by decide +kernel) (by decide +kernel)) (goodIn_sub (fun _ h => List.mem_cons_of_mem _ (List.mem_append_left _ (List.mem_append_right _ h))) (by decide +kernel))) (goodIn_sub (fun _ h => List.mem_cons_of_mem _ (List.mem_append_right _ h)) (by decide +kernel))) (goodIn_sub (fun _ h => List.mem_cons_of_mem _ (List.mem_append_left _ (List.mem_append_left _ (List.mem_append_right _ h)))) (by decide +kernel))
set_option maxRecDepth 20000 in
theorem gL_refused_L_call : GoodIn wsL_refused (va_wsS RL 92 yL_call wsL_call) := goodIn_app (goodIn_of _ (by decide +kernel)) ggL_refused_L_call
theorem dL_refused_0 : decode cL_refused 0 = .ok (.aload_n 0, 1) := by decide +kernel
theorem dL_refused_1 : decode cL_refused 1 = .ok (.aload_n 1, 1) := by decide +kernel
theorem dL_refused_2 : decode cL_refused 2 = .ok (.invokestatic 99, 3) := by decide +kernel
theorem dL_refused_5 : decode cL_refused 5 = .ok (.lstore_n 2, 1) := by decide +kernel
theorem dL_refused_6 : decode cL_refused 6 = .ok (.aload_n 0, 1) := by decide +kernel
theorem dL_refused_7 : decode cL_refused 7 = .ok (.iconst 0, 1) := by decide +kernel
theorem dL_refused_8 : decode cL_refused 8 = .ok (.iconst 3, 1) := by decide +kernel
theorem dL_refused_9 : decode cL_refused 9 = .ok (.iconst 1, 1) := by decide +kernel
theorem dL_refused_10 : decode cL_refused 10 = .ok (.iconst 0, 1) := by decide +kernel
theorem dL_refused_11 : decode cL_refused 11 = .ok (.iconst 1, 1) := by decide +kernel
theorem dL_refused_12 : decode cL_refused 12 = .ok (.iconst 0, 1) := by decide +kernel
theorem dL_refused_13 : decode cL_refused 13 = .ok (.invokestatic 92, 3) := by decide +kernel
theorem dL_refused_16 : decode cL_refused 16 = .ok (.sipush (-1022), 3) := by decide +kernel
theorem dL_refused_19 : decode cL_refused 19 = .ok (.if_icmp .ne 370, 3) := by decide +kernel
theorem dL_refused_22 : decode cL_refused 22 = .ok (.aload_n 0, 1) := by decide +kernel
theorem dL_refused_23 : decode cL_refused 23 = .ok (.iconst 0, 1) := by decide +kernel
theorem dL_refused_24 : decode cL_refused 24 = .ok (.iconst 0, 1) := by decide +kernel
theorem dL_refused_25 : decode cL_refused 25 = .ok (.iconst 0, 1) := by decide +kernel
theorem dL_refused_26 : decode cL_refused 26 = .ok (.iconst 0, 1) := by decide +kernel
theorem dL_refused_27 : decode cL_refused 27 = .ok (.iconst 1, 1) := by decide +kernel
theorem dL_refused_28 : decode cL_refused 28 = .ok (.iconst 0, 1) := by decide +kernel
theorem dL_refused_29 : decode cL_refused 29 = .ok (.invokestatic 92, 3) := by decide +kernel
theorem dL_refused_32 : decode cL_refused 32 = .ok (.sipush (-1022), 3) := by decide +kernel
theorem dL_refused_35 : decode cL_refused 35 = .ok (.if_icmp .ne 354, 3) := by decide +kernel
theorem dL_refused_38 : decode cL_refused 38 = .ok (.aload_n 0, 1) := by decide +kernel
theorem dL_refused_39 : decode cL_refused 39 = .ok (.iconst 0, 1) := by decide +kernel
theorem dL_refused_40 : decode cL_refused 40 = .ok (.iconst 1, 1) := by decide +kernel
theorem dL_refused_41 : decode cL_refused 41 = .ok (.iconst 1, 1) := by decide +kernel
theorem dL_refused_42 : decode cL_refused 42 = .ok (.iconst 1, 1) := by decide +kernel
theorem dL_refused_43 : decode cL_refused 43 = .ok (.iconst 5, 1) := by decide +kernel
theorem dL_refused_44 : decode cL_refused 44 = .ok (.iconst 0, 1) := by decide +kernel
theorem dL_refused_45 : decode cL_refused 45 = .ok (.invokestatic 92, 3) := by decide +kernel
theorem dL_refused_48 : decode cL_refused 48 = .ok (.sipush (-1022), 3) := by decide +kernel
theorem dL_refused_51 : decode cL_refused 51 = .ok (.if_icmp .ne 338, 3) := by decide +kernel
theorem dL_refused_54 : decode cL_refused 54 = .ok (.aload_n 0, 1) := by decide +kernel
theorem dL_refused_55 : decode cL_refused 55 = .ok (.iconst 1, 1) := by decide +kernel
theorem dL_refused_56 : decode cL_refused 56 = .ok (.iconst (-1), 1) := by decide +kernel
theorem dL_refused_57 : decode cL_refused 57 = .ok (.iconst 1, 1) := by decide +kernel
theorem dL_refused_58 : decode cL_refused 58 = .ok (.iconst 0, 1) := by decide +kernel
theorem dL_refused_59 : decode cL_refused 59 = .ok (.iconst 0, 1) := by decide +kernel
theorem dL_refused_60 : decode cL_refused 60 = .ok (.iconst 0, 1) := by decide +kernel
theorem dL_refused_61 : decode cL_refused 61 = .ok (.invokestatic 92, 3) := by decide +kernel
theorem dL_refused_64 : decode cL_refused 64 = .ok (.sipush (-1022), 3) := by decide +kernel
theorem dL_refused_67 : decode cL_refused 67 = .ok (.if_icmp .ne 322, 3) := by decide +kernel
theorem dL_refused_70 : decode cL_refused 70 = .ok (.aload_n 0, 1) := by decide +kernel
theorem dL_refused_71 : decode cL_refused 71 = .ok (.iconst 1, 1) := by decide +kernel
theorem dL_refused_72 : decode cL_refused 72 = .ok (.iconst 0, 1) := by decide +kernel
theorem dL_refused_73 : decode cL_refused 73 = .ok (.iconst 0, 1) := by decide +kernel
theorem dL_refused_74 : decode cL_refused 74 = .ok (.iconst 0, 1) := by decide +kernel
theorem dL_refused_75 : decode cL_refused 75 = .ok (.iconst 0, 1) := by decide +kernel
theorem dL_refused_76 : decode cL_refused 76 = .ok (.iconst 0, 1) := by decide +kernel
theorem dL_refused_77 : decode cL_refused 77 = .ok (.invokestatic 92, 3) := by decide +kernel
theorem dL_refused_80 : decode cL_refused 80 = .ok (.sipush (-1022), 3) := by decide +kernel
theorem dL_refused_83 : decode cL_refused 83 = .ok (.if_icmp .ne 306, 3) := by decide +kernel
theorem dL_refused_86 : decode cL_refused 86 = .ok (.aload_n 0, 1) := by decide +kernel
theorem dL_refused_87 : decode cL_refused 87 = .ok (.iconst 1, 1) := by decide +kernel
theorem dL_refused_88 : decode cL_refused 88 = .ok (.iconst 0, 1) := by decide +kernel
theorem dL_refused_89 : decode cL_refused 89 = .ok (.iconst 1, 1) := by decide +kernel
theorem dL_refused_90 : decode cL_refused 90 = .ok (.aload_n 1, 1) := by decide +kernel
theorem dL_refused_91 : decode cL_refused 91 = .ok (.iconst 0, 1) := by decide +kernel
theorem dL_refused_92 : decode cL_refused 92 = .ok (.iaload, 1) := by decide +kernel
theorem dL_refused_93 : decode cL_refused 93 = .ok (.ishl, 1) := by decide +kernel
theorem dL_refused_94 : decode cL_refused 94 = .ok (.iconst 0, 1) := by decide +kernel
theorem dL_refused_95 : decode cL_refused 95 = .ok (.iconst 0, 1) := by decide +kernel
theorem dL_refused_96 : decode cL_refused 96 = .ok (.iconst 0, 1) := by decide +kernel
theorem dL_refused_97 : decode cL_refused 97 = .ok (.invokestatic 92, 3) := by decide +kernel
theorem dL_refused_100 : decode cL_refused 100 = .ok (.sipush (-1022), 3) := by decide +kernel
theorem dL_refused_103 : decode cL_refused 103 = .ok (.if_icmp .ne 286, 3) := by decide +kernel
theorem dL_refused_106 : decode cL_refused 106 = .ok (.aload_n 0, 1) := by decide +kernel
theorem dL_refused_107 : decode cL_refused 107 = .ok (.iconst 2, 1) := by decide +kernel
theorem dL_refused_108 : decode cL_refused 108 = .ok (.aload_n 1, 1) := by decide +kernel
theorem dL_refused_109 : decode cL_refused 109 = .ok (.iconst 1, 1) := by decide +kernel
theorem dL_refused_110 : decode cL_refused 110 = .ok (.iaload, 1) := by decide +kernel
theorem dL_refused_111 : decode cL_refused 111 = .ok (.iconst 1, 1) := by decide +kernel
theorem dL_refused_112 : decode cL_refused 112 = .ok (.iconst 0, 1) := by decide +kernel
theorem dL_refused_113 : decode cL_refused 113 = .ok (.iconst 0, 1) := by decide +kernel
theorem dL_refused_114 : decode cL_refused 114 = .ok (.iconst 0, 1) := by decide +kernel
theorem dL_refused_115 : decode cL_refused 115 = .ok (.invokestatic 92, 3) := by decide +kernel
theorem dL_refused_118 : decode cL_refused 118 = .ok (.sipush (-1021), 3) := by decide +kernel
theorem dL_refused_121 : decode cL_refused 121 = .ok (.if_icmp .ne 268, 3) := by decide +kernel
theorem dL_refused_124 : decode cL_refused 124 = .ok (.aload_n 0, 1) := by decide +kernel
theorem dL_refused_125 : decode cL_refused 125 = .ok (.iconst 3, 1) := by decide +kernel
theorem dL_refused_126 : decode cL_refused 126 = .ok (.aload_n 1, 1) := by decide +kernel
theorem dL_refused_127 : decode cL_refused 127 = .ok (.iconst 1, 1) := by decide +kernel
theorem dL_refused_128 : decode cL_refused 128 = .ok (.iaload, 1) := by decide +kernel
theorem dL_refused_129 : decode cL_refused 129 = .ok (.iconst 0, 1) := by decide +kernel
theorem dL_refused_130 : decode cL_refused 130 = .ok (.iconst 1, 1) := by decide +kernel
theorem dL_refused_131 : decode cL_refused 131 = .ok (.iconst 1, 1) := by decide +kernel
theorem dL_refused_132 : decode cL_refused 132 = .ok (.iconst 2, 1) := by decide +kernel
theorem dL_refused_133 : decode cL_refused 133 = .ok (.invokestatic 92, 3) := by decide +kernel
theorem dL_refused_136 : decode cL_refused 136 = .ok (.sipush (-1021), 3) := by decide +kernel
theorem dL_refused_139 : decode cL_refused 139 = .ok (.if_icmp .ne 250, 3) := by decide +kernel
theorem dL_refused_142 : decode cL_refused 142 = .ok (.aload_n 1, 1) := by decide +kernel
theorem dL_refused_143 : decode cL_refused 143 = .ok (.iconst 1, 1) := by decide +kernel
theorem dL_refused_144 : decode cL_refused 144 = .ok (.iaload, 1) := by decide +kernel
theorem dL_refused_145 : decode cL_refused 145 = .ok (.ifCond .eq 100, 3) := by decide +kernel
theorem dL_refused_148 : decode cL_refused 148 = .ok (.aload_n 0, 1) := by decide +kernel
theorem dL_refused_149 : decode cL_refused 149 = .ok (.iconst 3, 1) := by decide +kernel
theorem dL_refused_150 : decode cL_refused 150 = .ok (.iconst 0, 1) := by decide +kernel
theorem dL_refused_151 : decode cL_refused 151 = .ok (.iconst 5, 1) := by decide +kernel
theorem dL_refused_152 : decode cL_refused 152 = .ok (.iconst 0, 1) := by decide +kernel
theorem dL_refused_153 : decode cL_refused 153 = .ok (.iconst 1, 1) := by decide +kernel
theorem dL_refused_154 : decode cL_refused 154 = .ok (.iconst 2, 1) := by decide +kernel
theorem dL_refused_155 : decode cL_refused 155 = .ok (.invokestatic 92, 3) := by decide +kernel
theorem dL_refused_158 : decode cL_refused 158 = .ok (.sipush (-1021), 3) := by decide +kernel
theorem dL_refused_161 : decode cL_refused 161 = .ok (.if_icmp .ne 228, 3) := by decide +kernel
theorem dL_refused_164 : decode cL_refused 164 = .ok (.aload_n 0, 1) := by decide +kernel
theorem dL_refused_165 : decode cL_refused 165 = .ok (.iconst 3, 1) := by decide +kernel
theorem dL_refused_166 : decode cL_refused 166 = .ok (.iconst 0, 1) := by decide +kernel
theorem dL_refused_167 : decode cL_refused 167 = .ok (.iconst 1, 1) := by decide +kernel
theorem dL_refused_168 : decode cL_refused 168 = .ok (.iconst 1, 1) := by decide +kernel
theorem dL_refused_169 : decode cL_refused 169 = .ok (.iconst 1, 1) := by decide +kernel
theorem dL_refused_170 : decode cL_refused 170 = .ok (.iconst 2, 1) := by decide +kernel
theorem dL_refused_171 : decode cL_refused 171 = .ok (.invokestatic 92, 3) := by decide +kernel
theorem dL_refused_174 : decode cL_refused 174 = .ok (.sipush (-1022), 3) := by decide +kernel
theorem dL_refused_177 : decode cL_refused 177 = .ok (.if_icmp .ne 212, 3) := by decide +kernel
theorem dL_refused_180 : decode cL_refused 180 = .ok (.aload_n 0, 1) := by decide +kernel
theorem dL_refused_181 : decode cL_refused 181 = .ok (.iconst 3, 1) := by decide +kernel
theorem dL_refused_182 : decode cL_refused 182 = .ok (.iconst 0, 1) := by decide +kernel
theorem dL_refused_183 : decode cL_refused 183 = .ok (.iconst 0, 1) := by decide +kernel
theorem dL_refused_184 : decode cL_refused 184 = .ok (.iconst 1, 1) := by decide +kernel
theorem dL_refused_185 : decode cL_refused 185 = .ok (.iconst 0, 1) := by decide +kernel
theorem dL_refused_186 : decode cL_refused 186 = .ok (.iconst 2, 1) := by decide +kernel
theorem dL_refused_187 : decode cL_refused 187 = .ok (.invokestatic 92, 3) := by decide +kernel
theorem dL_refused_190 : decode cL_refused 190 = .ok (.sipush (-1022), 3) := by decide +kernel
theorem dL_refused_193 : decode cL_refused 193 = .ok (.if_icmp .ne 196, 3) := by decide +kernel
theorem dL_refused_196 : decode cL_refused 196 = .ok (.aload_n 0, 1) := by decide +kernel
theorem dL_refused_197 : decode cL_refused 197 = .ok (.iconst 3, 1) := by decide +kernel
theorem dL_refused_198 : decode cL_refused 198 = .ok (.iconst 0, 1) := by decide +kernel
theorem dL_refused_199 : decode cL_refused 199 = .ok (.iconst 0, 1) := by decide +kernel
theorem dL_refused_200 : decode cL_refused 200 = .ok (.iconst 1, 1) := by decide +kernel
theorem dL_refused_201 : decode cL_refused 201 = .ok (.iconst 4, 1) := by decide +kernel
theorem dL_refused_202 : decode cL_refused 202 = .ok (.iconst 4, 1) := by decide +kernel
theorem dL_refused_203 : decode cL_refused 203 = .ok (.invokestatic 92, 3) := by decide +kernel
theorem dL_refused_206 : decode cL_refused 206 = .ok (.sipush (-1022), 3) := by decide +kernel
theorem dL_refused_209 : decode cL_refused 209 = .ok (.if_icmp .ne 180, 3) := by decide +kernel
theorem dL_refused_212 : decode cL_refused 212 = .ok (.aload_n 0, 1) := by decide +kernel
theorem dL_refused_213 : decode cL_refused 213 = .ok (.iconst 2, 1) := by decide +kernel
theorem dL_refused_214 : decode cL_refused 214 = .ok (.iconst 0, 1) := by decide +kernel
theorem dL_refused_215 : decode cL_refused 215 = .ok (.iconst 0, 1) := by decide +kernel
theorem dL_refused_216 : decode cL_refused 216 = .ok (.iconst 0, 1) := by decide +kernel
theorem dL_refused_217 : decode cL_refused 217 = .ok (.iconst 0, 1) := by decide +kernel
theorem dL_refused_218 : decode cL_refused 218 = .ok (.iconst 0, 1) := by decide +kernel
theorem dL_refused_219 : decode cL_refused 219 = .ok (.invokestatic 92, 3) := by decide +kernel
theorem dL_refused_222 : decode cL_refused 222 = .ok (.sipush (-1022), 3) := by decide +kernel
theorem dL_refused_225 : decode cL_refused 225 = .ok (.if_icmp .ne 164, 3) := by decide +kernel
theorem dL_refused_228 : decode cL_refused 228 = .ok (.aload_n 0, 1) := by decide +kernel
theorem dL_refused_229 : decode cL_refused 229 = .ok (.bipush 12, 2) := by decide +kernel
theorem dL_refused_231 : decode cL_refused 231 = .ok (.iconst 5, 1) := by decide +kernel
theorem dL_refused_232 : decode cL_refused 232 = .ok (.iconst 0, 1) := by decide +kernel
theorem dL_refused_233 : decode cL_refused 233 = .ok (.iconst 0, 1) := by decide +kernel
theorem dL_refused_234 : decode cL_refused 234 = .ok (.iconst 0, 1) := by decide +kernel
theorem dL_refused_235 : decode cL_refused 235 = .ok (.iconst 0, 1) := by decide +kernel
theorem dL_refused_236 : decode cL_refused 236 = .ok (.invokestatic 92, 3) := by decide +kernel
theorem dL_refused_239 : decode cL_refused 239 = .ok (.sipush (-1021), 3) := by decide +kernel
theorem dL_refused_242 : decode cL_refused 242 = .ok (.if_icmp .ne 147, 3) := by decide +kernel
theorem dL_refused_245 : decode cL_refused 245 = .ok (.aload_n 0, 1) := by decide +kernel
theorem dL_refused_246 : decode cL_refused 246 = .ok (.bipush 6, 2) := by decide +kernel
theorem dL_refused_248 : decode cL_refused 248 = .ok (.aload_n 1, 1) := by decide +kernel
theorem dL_refused_249 : decode cL_refused 249 = .ok (.iconst 2, 1) := by decide +kernel
theorem dL_refused_250 : decode cL_refused 250 = .ok (.iaload, 1) := by decide +kernel
theorem dL_refused_251 : decode cL_refused 251 = .ok (.iconst 0, 1) := by decide +kernel
theorem dL_refused_252 : decode cL_refused 252 = .ok (.iconst 1, 1) := by decide +kernel
theorem dL_refused_253 : decode cL_refused 253 = .ok (.iconst 0, 1) := by decide +kernel
theorem dL_refused_254 : decode cL_refused 254 = .ok (.iconst 0, 1) := by decide +kernel
theorem dL_refused_255 : decode cL_refused 255 = .ok (.invokestatic 92, 3) := by decide +kernel
theorem dL_refused_258 : decode cL_refused 258 = .ok (.sipush (-1021), 3) := by decide +kernel
theorem dL_refused_261 : decode cL_refused 261 = .ok (.if_icmp .ne 128, 3) := by decide +kernel
theorem dL_refused_264 : decode cL_refused 264 = .ok (.aload_n 0, 1) := by decide +kernel
theorem dL_refused_265 : decode cL_refused 265 = .ok (.bipush 12, 2) := by decide +kernel
theorem dL_refused_267 : decode cL_refused 267 = .ok (.iconst 0, 1) := by decide +kernel
theorem dL_refused_268 : decode cL_refused 268 = .ok (.iconst (-1), 1) := by decide +kernel
theorem dL_refused_269 : decode cL_refused 269 = .ok (.iconst 0, 1) := by decide +kernel
theorem dL_refused_270 : decode cL_refused 270 = .ok (.iconst 0, 1) := by decide +kernel
theorem dL_refused_271 : decode cL_refused 271 = .ok (.iconst 0, 1) := by decide +kernel
theorem dL_refused_272 : decode cL_refused 272 = .ok (.invokestatic 92, 3) := by decide +kernel
theorem dL_refused_275 : decode cL_refused 275 = .ok (.sipush (-1021), 3) := by decide +kernel
theorem dL_refused_278 : decode cL_refused 278 = .ok (.if_icmp .ne 111, 3) := by decide +kernel
theorem dL_refused_281 : decode cL_refused 281 = .ok (.aload_n 1, 1) := by decide +kernel
theorem dL_refused_282 : decode cL_refused 282 = .ok (.iconst 2, 1) := by decide +kernel
theorem dL_refused_283 : decode cL_refused 283 = .ok (.iaload, 1) := by decide +kernel
theorem dL_refused_284 : decode cL_refused 284 = .ok (.ifCond .eq 91, 3) := by decide +kernel
theorem dL_refused_287 : decode cL_refused 287 = .ok (.aload_n 0, 1) := by decide +kernel
theorem dL_refused_288 : decode cL_refused 288 = .ok (.bipush 6, 2) := by decide +kernel
theorem dL_refused_290 : decode cL_refused 290 = .ok (.iconst 0, 1) := by decide +kernel
theorem dL_refused_291 : decode cL_refused 291 = .ok (.bipush 25, 2) := by decide +kernel
theorem dL_refused_293 : decode cL_refused 293 = .ok (.iconst 0, 1) := by decide +kernel
theorem dL_refused_294 : decode cL_refused 294 = .ok (.iconst 0, 1) := by decide +kernel
theorem dL_refused_295 : decode cL_refused 295 = .ok (.iconst 0, 1) := by decide +kernel
theorem dL_refused_296 : decode cL_refused 296 = .ok (.invokestatic 92, 3) := by decide +kernel
theorem dL_refused_299 : decode cL_refused 299 = .ok (.sipush (-1021), 3) := by decide +kernel
theorem dL_refused_302 : decode cL_refused 302 = .ok (.if_icmp .ne 87, 3) := by decide +kernel
theorem dL_refused_305 : decode cL_refused 305 = .ok (.aload_n 0, 1) := by decide +kernel
theorem dL_refused_306 : decode cL_refused 306 = .ok (.iconst 4, 1) := by decide +kernel
theorem dL_refused_307 : decode cL_refused 307 = .ok (.iconst 0, 1) := by decide +kernel
theorem dL_refused_308 : decode cL_refused 308 = .ok (.iconst 0, 1) := by decide +kernel
theorem dL_refused_309 : decode cL_refused 309 = .ok (.bipush 25, 2) := by decide +kernel
theorem dL_refused_311 : decode cL_refused 311 = .ok (.iconst 0, 1) := by decide +kernel
theorem dL_refused_312 : decode cL_refused 312 = .ok (.iconst 0, 1) := by decide +kernel
theorem dL_refused_313 : decode cL_refused 313 = .ok (.invokestatic 92, 3) := by decide +kernel
theorem dL_refused_316 : decode cL_refused 316 = .ok (.sipush (-1021), 3) := by decide +kernel
theorem dL_refused_319 : decode cL_refused 319 = .ok (.if_icmp .ne 70, 3) := by decide +kernel
theorem dL_refused_322 : decode cL_refused 322 = .ok (.aload_n 0, 1) := by decide +kernel
theorem dL_refused_323 : decode cL_refused 323 = .ok (.bipush 10, 2) := by decide +kernel
theorem dL_refused_325 : decode cL_refused 325 = .ok (.iconst 0, 1) := by decide +kernel
theorem dL_refused_326 : decode cL_refused 326 = .ok (.iconst 3, 1) := by decide +kernel
theorem dL_refused_327 : decode cL_refused 327 = .ok (.iconst 0, 1) := by decide +kernel
theorem dL_refused_328 : decode cL_refused 328 = .ok (.iconst 0, 1) := by decide +kernel
theorem dL_refused_329 : decode cL_refused 329 = .ok (.iconst 0, 1) := by decide +kernel
theorem dL_refused_330 : decode cL_refused 330 = .ok (.invokestatic 92, 3) := by decide +kernel
theorem dL_refused_333 : decode cL_refused 333 = .ok (.sipush (-1022), 3) := by decide +kernel
theorem dL_refused_336 : decode cL_refused 336 = .ok (.if_icmp .ne 53, 3) := by decide +kernel
theorem dL_refused_339 : decode cL_refused 339 = .ok (.aload_n 0, 1) := by decide +kernel
theorem dL_refused_340 : decode cL_refused 340 = .ok (.bipush 11, 2) := by decide +kernel
theorem dL_refused_342 : decode cL_refused 342 = .ok (.iconst 0, 1) := by decide +kernel
theorem dL_refused_343 : decode cL_refused 343 = .ok (.iconst (-1), 1) := by decide +kernel
theorem dL_refused_344 : decode cL_refused 344 = .ok (.iconst 0, 1) := by decide +kernel
theorem dL_refused_345 : decode cL_refused 345 = .ok (.iconst 0, 1) := by decide +kernel
theorem dL_refused_346 : decode cL_refused 346 = .ok (.iconst 0, 1) := by decide +kernel
theorem dL_refused_347 : decode cL_refused 347 = .ok (.invokestatic 92, 3) := by decide +kernel
theorem dL_refused_350 : decode cL_refused 350 = .ok (.sipush (-1022), 3) := by decide +kernel
theorem dL_refused_353 : decode cL_refused 353 = .ok (.if_icmp .ne 36, 3) := by decide +kernel
theorem dL_refused_356 : decode cL_refused 356 = .ok (.aload_n 0, 1) := by decide +kernel
theorem dL_refused_357 : decode cL_refused 357 = .ok (.bipush 6, 2) := by decide +kernel
theorem dL_refused_359 : decode cL_refused 359 = .ok (.iconst 0, 1) := by decide +kernel
theorem dL_refused_360 : decode cL_refused 360 = .ok (.bipush 7, 2) := by decide +kernel
theorem dL_refused_362 : decode cL_refused 362 = .ok (.bipush 7, 2) := by decide +kernel
theorem dL_refused_364 : decode cL_refused 364 = .ok (.iconst 0, 1) := by decide +kernel
theorem dL_refused_365 : decode cL_refused 365 = .ok (.iconst 0, 1) := by decide +kernel
theorem dL_refused_366 : decode cL_refused 366 = .ok (.invokestatic 92, 3) := by decide +kernel
theorem dL_refused_369 : decode cL_refused 369 = .ok (.sipush (-1023), 3) := by decide +kernel
theorem dL_refused_372 : decode cL_refused 372 = .ok (.if_icmp .ne 17, 3) := by decide +kernel
theorem dL_refused_375 : decode cL_refused 375 = .ok (.aload_n 0, 1) := by decide +kernel
theorem dL_refused_376 : decode cL_refused 376 = .ok (.aload_n 1, 1) := by decide +kernel
theorem dL_refused_377 : decode cL_refused 377 = .ok (.invokestatic 99, 3) := by decide +kernel
theorem dL_refused_380 : decode cL_refused 380 = .ok (.lload_n 2, 1) := by decide +kernel
theorem dL_refused_381 : decode cL_refused 381 = .ok (.lcmp, 1) := by decide +kernel
theorem dL_refused_382 : decode cL_refused 382 = .ok (.ifCond .ne 7, 3) := by decide +kernel
theorem dL_refused_385 : decode cL_refused 385 = .ok (.iconst 1, 1) := by decide +kernel
theorem dL_refused_386 : decode cL_refused 386 = .ok (.goto 4, 3) := by decide +kernel
theorem dL_refused_389 : decode cL_refused 389 = .ok (.iconst 0, 1) := by decide +kernel
theorem dL_refused_390 : decode cL_refused 390 = .ok (.ireturn, 1) := by decide +kernel
