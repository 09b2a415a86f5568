set_option maxRecDepth 20000 in
theorem ggL_plays_L_call : GoodIn wsL_plays wsL_call := goodIn_ca (goodIn_ca (goodIn_ca (goodIn_r _ [4, 5, 6, 7, 8, 9, 3, 10, 11, 12, 13, 14, 15, 16, 17, 18, 19, 20, 21, 22, 23, 24, 25, 26, 27, 28, 29, 30, 31, 32, 33, 34, 35, 36, 37, 38, 39, 40, 41, 42, 43, 44, 45, 46, 47, 48, 49, 50, 51, 52, 53, 54, 55, 56, 57, 58, 59, 60, 61, 62, 63, 64, 65, 66, 67, 68, 69, 70, 71, 72, 73, 74, 75, 76, 77, 78, 79, 80, 81, 82, 83, 84, 85, 86, 87, 88, 89, 90, 91, 92, 93, 94, 95, 96, 97, 98, 99, 100, 101, 102, 103, 104, 105, 106, 107, 108, 109, 110, 111, 112, 113, 114, 115, 116, 117, 118, 119, 120, 121, 122, 123, 124, 125, 126, 127, 128, 129, 130, 131, 132, 133, 134, 135, 136, 137, 138, 139, 140, 141, 142, 143, 144, 145, 146, 147, 148, 149, 150, 151, 152, 153, 154, 155, 156, 157, 158, 159, 160, 161, 162, 163, 164, 165, 166, 167, 168, 169, 170, 171, 172, 173, 174, 175, 176, 177, 178, 179, 180, 181, 182, 183, 184, 185, 186, 187, 188, 189, 190, 191, 192, 193, 194, 195, 196, 197, 198, 199, 200, 201, 202, 203, 204, 205, 206, 207, 208, 209, 210, 211, 212, 213, 214, 215, 216, 217, 218, 219, 220, 221, 222, 223, 224, 225, 226, 227, 228, 229, 230, 231, 232, 233, 234, 235, 236, 237, 238, 239, 240, 241, 242, 243, 244, 245, 246, 247, 248, 249, 250, 251, 252, 253, 254, 255, 256, 257, 258, 259, 260, 261, 262, 263, 264, 265, 266, 267, 268, 269, 270, 271, 272, 273, 274, 275, 276, 277, 278, 279, 280, 281, 282, 296, 297, 298, 299, 300, 301, 302, 303, 304, 305, 306, 307, 308, 309, 310, 311, 312, 313, 314, 315, 316, 317, 318, 319, 320] (by decide +kernel) (by decide +kernel)) (goodIn_sub (fun _ h => List.mem_cons_of_mem _ (List.mem_append_left _ (List.mem_append_left _ (List.mem_append_right _ h)))) (by decide +kernel))) (goodIn_sub (fun _ h => List.mem_cons_of_mem _ (List.mem_append_left _ (List.mem_append_right _ h))) (by decide +kernel))) (goodIn_sub (fun _ h => List.mem_cons_of_mem _ (List.mem_append_right _ h)) (by decide +kernel))
set_option maxRecDepth 20000 in
theorem gL_plays_L_call : GoodIn wsL_plays (va_wsS RL 92 yL_call wsL_call) := goodIn_app (goodIn_of _ (by decide +kernel)) ggL_plays_L_call
set_option maxRecDepth 20000 in
theorem ggL_plays_L_all : GoodIn wsL_plays wsL_all := goodIn_ca (goodIn_r _ [285, 286, 287, 288, 289, 290, 291, 292, 223, 224, 225, 14, 226, 188, 152, 153, 154, 155, 78, 79, 85, 233, 234, 235, 236, 237, 227, 228, 229, 230, 231, 232, 266, 267, 268, 269, 74, 75, 76, 77, 44, 104, 105, 106, 47, 107, 108, 109, 110, 98, 99, 100, 101, 102, 103, 270, 271, 272, 273, 274, 275, 276, 277, 278, 205, 89, 90, 91, 279, 280, 281, 88, 282, 142, 138, 139, 312, 313, 314, 315, 316, 317, 318, 319, 320, 296, 297, 298, 299, 300, 301, 306, 307, 308] (by decide +kernel) (by decide +kernel)) (goodIn_sub (fun _ h => List.mem_cons_of_mem _ (List.mem_append_right _ h)) (by decide +kernel))
set_option maxRecDepth 20000 in
theorem gL_plays_L_all : GoodIn wsL_plays (va_wsS RL 99 yL_all wsL_all) := goodIn_app (goodIn_of _ (by decide +kernel)) ggL_plays_L_all
set_option maxRecDepth 20000 in
theorem ggL_plays_L_some : GoodIn wsL_plays wsL_some := goodIn_r _ [295] (by decide +kernel) (by decide +kernel)
set_option maxRecDepth 20000 in
theorem gL_plays_L_some : GoodIn wsL_plays (va_wsS RL 103 yL_some wsL_some) := goodIn_app (goodIn_of _ (by decide +kernel)) ggL_plays_L_some
set_option maxRecDepth 20000 in
theorem ggL_plays_X4_made : GoodIn wsL_plays wsX4_made := goodIn_ca (goodIn_r _ [236, 237, 152, 153, 154, 14, 155, 78, 79, 85, 312, 313, 314, 315, 316, 317, 318, 319, 320, 296, 297, 298, 299, 300, 301] (by decide +kernel) (by decide +kernel)) (goodIn_sub (fun _ h => List.mem_cons_of_mem _ (List.mem_append_right _ h)) (by decide +kernel))
set_option maxRecDepth 20000 in
theorem gL_plays_X4_made : GoodIn wsL_plays (wsV RL 56 RX4 yX4_made wsX4_made) := goodIn_app (goodIn_of _ (by decide +kernel)) ggL_plays_X4_made
set_option maxRecDepth 20000 in
theorem ggL_plays_X4_pieces : GoodIn wsL_plays wsX4_pieces := goodIn_ca (goodIn_r _ [230, 231, 232, 152, 153, 154, 14, 155, 78, 79, 85, 312, 313, 314, 315, 316, 317, 318, 319, 320, 296, 297, 298, 299, 300, 301] (by decide +kernel) (by decide +kernel)) (goodIn_sub (fun _ h => List.mem_cons_of_mem _ (List.mem_append_right _ h)) (by decide +kernel))
set_option maxRecDepth 20000 in
theorem gL_plays_X4_pieces : GoodIn wsL_plays (wsV RL 52 RX4 yX4_pieces wsX4_pieces) := goodIn_app (goodIn_of _ (by decide +kernel)) ggL_plays_X4_pieces
set_option maxRecDepth 20000 in
theorem ggL_plays_X4_state : GoodIn wsL_plays wsX4_state := goodIn_ca (goodIn_r _ [226, 188, 152, 153, 154, 14, 155, 78, 79, 85, 312, 313, 314, 315, 316, 317, 318, 319, 320, 296, 297, 298, 299, 300, 301] (by decide +kernel) (by decide +kernel)) (goodIn_sub (fun _ h => List.mem_cons_of_mem _ (List.mem_append_right _ h)) (by decide +kernel))
set_option maxRecDepth 20000 in
theorem gL_plays_X4_state : GoodIn wsL_plays (wsV RL 48 RX4 yX4_state wsX4_state) := goodIn_app (goodIn_of _ (by decide +kernel)) ggL_plays_X4_state
set_option maxRecDepth 20000 in
theorem ggL_plays_X4_can : GoodIn wsL_plays wsX4_can := goodIn_ca (goodIn_r _ [151, 152, 153, 154, 14, 155, 78, 79, 85, 156, 157, 158, 159, 160, 161, 88, 162, 142, 137, 140, 141, 163, 164, 165, 166, 167, 168, 169, 170, 171, 119, 120, 172, 173, 174, 50, 175, 59, 60, 61, 176, 177, 178, 24, 179, 37, 35, 125, 126, 127, 128, 36, 129, 130, 180, 181, 182, 183, 34, 296, 297, 298, 299, 300, 301, 312, 313, 314, 315, 316, 317, 318, 319, 320, 309, 310, 311, 302, 303, 304, 305] (by decide +kernel) (by decide +kernel)) (goodIn_sub (fun _ h => List.mem_cons_of_mem _ (List.mem_append_right _ h)) (by decide +kernel))
set_option maxRecDepth 20000 in
theorem gL_plays_X4_can : GoodIn wsL_plays (wsV RL 37 RX4 yX4_can wsX4_can) := goodIn_app (goodIn_of _ (by decide +kernel)) ggL_plays_X4_can
set_option maxRecDepth 20000 in
theorem ggL_plays_X4_canByAll : GoodIn wsL_plays wsX4_canByAll := goodIn_ca (goodIn_r _ [187, 188, 152, 153, 154, 14, 155, 78, 79, 85, 156, 157, 158, 189, 190, 191, 192, 193, 164, 165, 88, 166, 141, 140, 167, 168, 169, 170, 171, 194, 195, 196, 197, 198, 199, 116, 117, 50, 118, 59, 60, 61, 119, 120, 121, 122, 123, 24, 124, 34, 37, 35, 125, 126, 127, 128, 36, 129, 130, 200, 312, 313, 314, 315, 316, 317, 318, 319, 320, 296, 297, 298, 299, 300, 301, 309, 310, 311, 302, 303, 304, 305] (by decide +kernel) (by decide +kernel)) (goodIn_sub (fun _ h => List.mem_cons_of_mem _ (List.mem_append_right _ h)) (by decide +kernel))
set_option maxRecDepth 20000 in
theorem gL_plays_X4_canByAll : GoodIn wsL_plays (wsV RL 41 RX4 yX4_canByAll wsX4_canByAll) := goodIn_app (goodIn_of _ (by decide +kernel)) ggL_plays_X4_canByAll
set_option maxRecDepth 20000 in
theorem ggL_plays_X4_value : GoodIn wsL_plays wsX4_value := goodIn_ca (goodIn_ca (goodIn_r _ [241, 192, 152, 153, 154, 14, 155, 78, 79, 85, 242, 243, 244, 16, 17, 193, 164, 165, 88, 166, 141, 140, 167, 168, 169, 170, 171, 194, 195, 196, 197, 198, 245, 246, 247, 248, 249, 250, 251, 111, 112, 113, 50, 114, 115, 116, 117, 118, 59, 60, 61, 119, 120, 121, 122, 123, 24, 124, 34, 37, 35, 125, 126, 127, 128, 36, 129, 130, 252, 98, 99, 100, 101, 102, 103, 199, 200, 253, 210, 211, 312, 313, 314, 315, 316, 317, 318, 319, 320, 296, 297, 298, 299, 300, 301, 309, 310, 311, 302, 303, 304, 305] (by decide +kernel) (by decide +kernel)) (goodIn_sub (fun _ h => List.mem_cons_of_mem _ (List.mem_append_right _ h)) (by decide +kernel))) (goodIn_sub (fun _ h => List.mem_cons_of_mem _ (List.mem_append_left _ (List.mem_append_left _ (List.mem_append_right _ h)))) (by decide +kernel))
set_option maxRecDepth 20000 in
theorem gL_plays_X4_value : GoodIn wsL_plays (wsV RL 59 RX4 yX4_value wsX4_value) := goodIn_app (goodIn_of _ (by decide +kernel)) ggL_plays_X4_value
set_option maxRecDepth 20000 in
theorem ggL_plays_X4_isBanned : GoodIn wsL_plays wsX4_isBanned := goodIn_ca (goodIn_r _ [269, 74, 75, 76, 14, 77, 78, 79, 44, 104, 105, 106, 47, 107, 108, 109, 110, 98, 99, 100, 101, 102, 103, 296, 297, 298, 299, 300, 301, 306, 307, 308] (by decide +kernel) (by decide +kernel)) (goodIn_sub (fun _ h => List.mem_cons_of_mem _ (List.mem_append_right _ h)) (by decide +kernel))
set_option maxRecDepth 20000 in
theorem gL_plays_X4_isBanned : GoodIn wsL_plays (wsV RL 68 RX4 yX4_isBanned wsX4_isBanned) := goodIn_app (goodIn_of _ (by decide +kernel)) ggL_plays_X4_isBanned
theorem dL_plays_0 : decode cL_plays 0 = .ok (.aload_n 2, 1) := by decide +kernel
theorem dL_plays_1 : decode cL_plays 1 = .ok (.iconst 2, 1) := by decide +kernel
theorem dL_plays_2 : decode cL_plays 2 = .ok (.iaload, 1) := by decide +kernel
theorem dL_plays_3 : decode cL_plays 3 = .ok (.ifCond .ne 26, 3) := by decide +kernel
theorem dL_plays_6 : decode cL_plays 6 = .ok (.aload_n 0, 1) := by decide +kernel
theorem dL_plays_7 : decode cL_plays 7 = .ok (.bipush 6, 2) := by decide +kernel
theorem dL_plays_9 : decode cL_plays 9 = .ok (.iconst 0, 1) := by decide +kernel
theorem dL_plays_10 : decode cL_plays 10 = .ok (.iconst 0, 1) := by decide +kernel
theorem dL_plays_11 : decode cL_plays 11 = .ok (.iconst 1, 1) := by decide +kernel
theorem dL_plays_12 : decode cL_plays 12 = .ok (.iconst 0, 1) := by decide +kernel
theorem dL_plays_13 : decode cL_plays 13 = .ok (.iconst 0, 1) := by decide +kernel
theorem dL_plays_14 : decode cL_plays 14 = .ok (.invokestatic 92, 3) := by decide +kernel
theorem dL_plays_17 : decode cL_plays 17 = .ok (.sipush (-1021), 3) := by decide +kernel
theorem dL_plays_20 : decode cL_plays 20 = .ok (.if_icmp .ne 7, 3) := by decide +kernel
theorem dL_plays_23 : decode cL_plays 23 = .ok (.iconst 1, 1) := by decide +kernel
theorem dL_plays_24 : decode cL_plays 24 = .ok (.goto 4, 3) := by decide +kernel
theorem dL_plays_27 : decode cL_plays 27 = .ok (.iconst 0, 1) := by decide +kernel
theorem dL_plays_28 : decode cL_plays 28 = .ok (.ireturn, 1) := by decide +kernel
theorem dL_plays_29 : decode cL_plays 29 = .ok (.aload_n 0, 1) := by decide +kernel
theorem dL_plays_30 : decode cL_plays 30 = .ok (.aload_n 2, 1) := by decide +kernel
theorem dL_plays_31 : decode cL_plays 31 = .ok (.invokestatic 99, 3) := by decide +kernel
theorem dL_plays_34 : decode cL_plays 34 = .ok (.lstore 5, 2) := by decide +kernel
theorem dL_plays_36 : decode cL_plays 36 = .ok (.iload_n 3, 1) := by decide +kernel
theorem dL_plays_37 : decode cL_plays 37 = .ok (.iconst 4, 1) := by decide +kernel
theorem dL_plays_38 : decode cL_plays 38 = .ok (.invokestatic 103, 3) := by decide +kernel
theorem dL_plays_41 : decode cL_plays 41 = .ok (.ifCond .ne 15, 3) := by decide +kernel
theorem dL_plays_44 : decode cL_plays 44 = .ok (.iload_n 3, 1) := by decide +kernel
theorem dL_plays_45 : decode cL_plays 45 = .ok (.iconst 3, 1) := by decide +kernel
theorem dL_plays_46 : decode cL_plays 46 = .ok (.ishr, 1) := by decide +kernel
theorem dL_plays_47 : decode cL_plays 47 = .ok (.aload_n 2, 1) := by decide +kernel
theorem dL_plays_48 : decode cL_plays 48 = .ok (.iconst 2, 1) := by decide +kernel
theorem dL_plays_49 : decode cL_plays 49 = .ok (.iaload, 1) := by decide +kernel
theorem dL_plays_50 : decode cL_plays 50 = .ok (.invokestatic 103, 3) := by decide +kernel
theorem dL_plays_53 : decode cL_plays 53 = .ok (.goto 8, 3) := by decide +kernel
theorem dL_plays_56 : decode cL_plays 56 = .ok (.aload_n 2, 1) := by decide +kernel
theorem dL_plays_57 : decode cL_plays 57 = .ok (.iconst 2, 1) := by decide +kernel
theorem dL_plays_58 : decode cL_plays 58 = .ok (.iaload, 1) := by decide +kernel
theorem dL_plays_59 : decode cL_plays 59 = .ok (.iconst 1, 1) := by decide +kernel
theorem dL_plays_60 : decode cL_plays 60 = .ok (.isub, 1) := by decide +kernel
theorem dL_plays_61 : decode cL_plays 61 = .ok (.istore 7, 2) := by decide +kernel
theorem dL_plays_63 : decode cL_plays 63 = .ok (.aload_n 0, 1) := by decide +kernel
theorem dL_plays_64 : decode cL_plays 64 = .ok (.iload 7, 2) := by decide +kernel
theorem dL_plays_66 : decode cL_plays 66 = .ok (.invokevirtual 56, 3) := by decide +kernel
theorem dL_plays_69 : decode cL_plays 69 = .ok (.istore 8, 2) := by decide +kernel
theorem dL_plays_71 : decode cL_plays 71 = .ok (.iload 8, 2) := by decide +kernel
theorem dL_plays_73 : decode cL_plays 73 = .ok (.iconst 2, 1) := by decide +kernel
theorem dL_plays_74 : decode cL_plays 74 = .ok (.irem, 1) := by decide +kernel
theorem dL_plays_75 : decode cL_plays 75 = .ok (.iconst 1, 1) := by decide +kernel
theorem dL_plays_76 : decode cL_plays 76 = .ok (.if_icmp .ne 7, 3) := by decide +kernel
theorem dL_plays_79 : decode cL_plays 79 = .ok (.iconst 1, 1) := by decide +kernel
theorem dL_plays_80 : decode cL_plays 80 = .ok (.goto 4, 3) := by decide +kernel
theorem dL_plays_83 : decode cL_plays 83 = .ok (.iconst 0, 1) := by decide +kernel
theorem dL_plays_84 : decode cL_plays 84 = .ok (.istore 9, 2) := by decide +kernel
theorem dL_plays_86 : decode cL_plays 86 = .ok (.aload_n 0, 1) := by decide +kernel
theorem dL_plays_87 : decode cL_plays 87 = .ok (.iload 7, 2) := by decide +kernel
theorem dL_plays_89 : decode cL_plays 89 = .ok (.iload 9, 2) := by decide +kernel
theorem dL_plays_91 : decode cL_plays 91 = .ok (.invokevirtual 52, 3) := by decide +kernel
theorem dL_plays_94 : decode cL_plays 94 = .ok (.istore 10, 2) := by decide +kernel
theorem dL_plays_96 : decode cL_plays 96 = .ok (.aload_n 0, 1) := by decide +kernel
theorem dL_plays_97 : decode cL_plays 97 = .ok (.iload 7, 2) := by decide +kernel
theorem dL_plays_99 : decode cL_plays 99 = .ok (.iload 9, 2) := by decide +kernel
theorem dL_plays_101 : decode cL_plays 101 = .ok (.ifCond .ne 7, 3) := by decide +kernel
theorem dL_plays_104 : decode cL_plays 104 = .ok (.iconst 1, 1) := by decide +kernel
theorem dL_plays_105 : decode cL_plays 105 = .ok (.goto 4, 3) := by decide +kernel
theorem dL_plays_108 : decode cL_plays 108 = .ok (.iconst 0, 1) := by decide +kernel
theorem dL_plays_109 : decode cL_plays 109 = .ok (.invokevirtual 52, 3) := by decide +kernel
theorem dL_plays_112 : decode cL_plays 112 = .ok (.istore 11, 2) := by decide +kernel
theorem dL_plays_114 : decode cL_plays 114 = .ok (.aload_n 0, 1) := by decide +kernel
theorem dL_plays_115 : decode cL_plays 115 = .ok (.iload 7, 2) := by decide +kernel
theorem dL_plays_117 : decode cL_plays 117 = .ok (.invokevirtual 48, 3) := by decide +kernel
theorem dL_plays_120 : decode cL_plays 120 = .ok (.istore 12, 2) := by decide +kernel
theorem dL_plays_122 : decode cL_plays 122 = .ok (.iload 4, 2) := by decide +kernel
theorem dL_plays_124 : decode cL_plays 124 = .ok (.sipush 625, 3) := by decide +kernel
theorem dL_plays_127 : decode cL_plays 127 = .ok (.invokestatic 103, 3) := by decide +kernel
theorem dL_plays_130 : decode cL_plays 130 = .ok (.istore 13, 2) := by decide +kernel
theorem dL_plays_132 : decode cL_plays 132 = .ok (.iload 13, 2) := by decide +kernel
theorem dL_plays_134 : decode cL_plays 134 = .ok (.istore 14, 2) := by decide +kernel
theorem dL_plays_136 : decode cL_plays 136 = .ok (.iconst 0, 1) := by decide +kernel
theorem dL_plays_137 : decode cL_plays 137 = .ok (.istore 15, 2) := by decide +kernel
theorem dL_plays_139 : decode cL_plays 139 = .ok (.iload 15, 2) := by decide +kernel
theorem dL_plays_141 : decode cL_plays 141 = .ok (.sipush 625, 3) := by decide +kernel
theorem dL_plays_144 : decode cL_plays 144 = .ok (.if_icmp .ge 39, 3) := by decide +kernel
theorem dL_plays_147 : decode cL_plays 147 = .ok (.aload_n 0, 1) := by decide +kernel
theorem dL_plays_148 : decode cL_plays 148 = .ok (.iload 7, 2) := by decide +kernel
theorem dL_plays_150 : decode cL_plays 150 = .ok (.iload 13, 2) := by decide +kernel
theorem dL_plays_152 : decode cL_plays 152 = .ok (.bipush 25, 2) := by decide +kernel
theorem dL_plays_154 : decode cL_plays 154 = .ok (.idiv, 1) := by decide +kernel
theorem dL_plays_155 : decode cL_plays 155 = .ok (.iload 13, 2) := by decide +kernel
theorem dL_plays_157 : decode cL_plays 157 = .ok (.bipush 25, 2) := by decide +kernel
theorem dL_plays_159 : decode cL_plays 159 = .ok (.irem, 1) := by decide +kernel
theorem dL_plays_160 : decode cL_plays 160 = .ok (.invokevirtual 37, 3) := by decide +kernel
theorem dL_plays_163 : decode cL_plays 163 = .ok (.ifCond .ne 20, 3) := by decide +kernel
theorem dL_plays_166 : decode cL_plays 166 = .ok (.iload 14, 2) := by decide +kernel
theorem dL_plays_168 : decode cL_plays 168 = .ok (.iload 15, 2) := by decide +kernel
theorem dL_plays_170 : decode cL_plays 170 = .ok (.iadd, 1) := by decide +kernel
theorem dL_plays_171 : decode cL_plays 171 = .ok (.sipush 625, 3) := by decide +kernel
theorem dL_plays_174 : decode cL_plays 174 = .ok (.irem, 1) := by decide +kernel
theorem dL_plays_175 : decode cL_plays 175 = .ok (.istore 13, 2) := by decide +kernel
theorem dL_plays_177 : decode cL_plays 177 = .ok (.iinc 15 1, 3) := by decide +kernel
theorem dL_plays_180 : decode cL_plays 180 = .ok (.goto (-41), 3) := by decide +kernel
theorem dL_plays_183 : decode cL_plays 183 = .ok (.iload 13, 2) := by decide +kernel
theorem dL_plays_185 : decode cL_plays 185 = .ok (.bipush 25, 2) := by decide +kernel
theorem dL_plays_187 : decode cL_plays 187 = .ok (.idiv, 1) := by decide +kernel
theorem dL_plays_188 : decode cL_plays 188 = .ok (.istore 15, 2) := by decide +kernel
theorem dL_plays_190 : decode cL_plays 190 = .ok (.iload 13, 2) := by decide +kernel
theorem dL_plays_192 : decode cL_plays 192 = .ok (.bipush 25, 2) := by decide +kernel
theorem dL_plays_194 : decode cL_plays 194 = .ok (.irem, 1) := by decide +kernel
theorem dL_plays_195 : decode cL_plays 195 = .ok (.istore 16, 2) := by decide +kernel
theorem dL_plays_197 : decode cL_plays 197 = .ok (.aload_n 0, 1) := by decide +kernel
theorem dL_plays_198 : decode cL_plays 198 = .ok (.iload 7, 2) := by decide +kernel
theorem dL_plays_200 : decode cL_plays 200 = .ok (.iload 15, 2) := by decide +kernel
theorem dL_plays_202 : decode cL_plays 202 = .ok (.iload 16, 2) := by decide +kernel
theorem dL_plays_204 : decode cL_plays 204 = .ok (.invokevirtual 37, 3) := by decide +kernel
theorem dL_plays_207 : decode cL_plays 207 = .ok (.istore 17, 2) := by decide +kernel
theorem dL_plays_209 : decode cL_plays 209 = .ok (.aload_n 0, 1) := by decide +kernel
theorem dL_plays_210 : decode cL_plays 210 = .ok (.iload 7, 2) := by decide +kernel
theorem dL_plays_212 : decode cL_plays 212 = .ok (.iload 15, 2) := by decide +kernel
theorem dL_plays_214 : decode cL_plays 214 = .ok (.iload 16, 2) := by decide +kernel
theorem dL_plays_216 : decode cL_plays 216 = .ok (.invokevirtual 41, 3) := by decide +kernel
theorem dL_plays_219 : decode cL_plays 219 = .ok (.iload 17, 2) := by decide +kernel
theorem dL_plays_221 : decode cL_plays 221 = .ok (.if_icmp .ne 38, 3) := by decide +kernel
theorem dL_plays_224 : decode cL_plays 224 = .ok (.iload 17, 2) := by decide +kernel
theorem dL_plays_226 : decode cL_plays 226 = .ok (.ifCond .eq 29, 3) := by decide +kernel
theorem dL_plays_229 : decode cL_plays 229 = .ok (.iload 12, 2) := by decide +kernel
theorem dL_plays_231 : decode cL_plays 231 = .ok (.ifCond .ne 28, 3) := by decide +kernel
theorem dL_plays_234 : decode cL_plays 234 = .ok (.iload 10, 2) := by decide +kernel
theorem dL_plays_236 : decode cL_plays 236 = .ok (.iload 15, 2) := by decide +kernel
theorem dL_plays_238 : decode cL_plays 238 = .ok (.ishr, 1) := by decide +kernel
theorem dL_plays_239 : decode cL_plays 239 = .ok (.iconst 1, 1) := by decide +kernel
theorem dL_plays_240 : decode cL_plays 240 = .ok (.iand, 1) := by decide +kernel
theorem dL_plays_241 : decode cL_plays 241 = .ok (.iconst 1, 1) := by decide +kernel
theorem dL_plays_242 : decode cL_plays 242 = .ok (.if_icmp .ne 17, 3) := by decide +kernel
theorem dL_plays_245 : decode cL_plays 245 = .ok (.iload 10, 2) := by decide +kernel
theorem dL_plays_247 : decode cL_plays 247 = .ok (.iload 16, 2) := by decide +kernel
theorem dL_plays_249 : decode cL_plays 249 = .ok (.ishr, 1) := by decide +kernel
theorem dL_plays_250 : decode cL_plays 250 = .ok (.iconst 1, 1) := by decide +kernel
theorem dL_plays_251 : decode cL_plays 251 = .ok (.iand, 1) := by decide +kernel
theorem dL_plays_252 : decode cL_plays 252 = .ok (.ifCond .ne 7, 3) := by decide +kernel
theorem dL_plays_255 : decode cL_plays 255 = .ok (.iconst 1, 1) := by decide +kernel
theorem dL_plays_256 : decode cL_plays 256 = .ok (.goto 4, 3) := by decide +kernel
theorem dL_plays_259 : decode cL_plays 259 = .ok (.iconst 0, 1) := by decide +kernel
theorem dL_plays_260 : decode cL_plays 260 = .ok (.istore 18, 2) := by decide +kernel
theorem dL_plays_262 : decode cL_plays 262 = .ok (.aload_n 0, 1) := by decide +kernel
theorem dL_plays_263 : decode cL_plays 263 = .ok (.iload 7, 2) := by decide +kernel
theorem dL_plays_265 : decode cL_plays 265 = .ok (.iconst 1, 1) := by decide +kernel
theorem dL_plays_266 : decode cL_plays 266 = .ok (.invokevirtual 59, 3) := by decide +kernel
theorem dL_plays_269 : decode cL_plays 269 = .ok (.istore 19, 2) := by decide +kernel
theorem dL_plays_271 : decode cL_plays 271 = .ok (.aload_n 0, 1) := by decide +kernel
theorem dL_plays_272 : decode cL_plays 272 = .ok (.bipush 6, 2) := by decide +kernel
theorem dL_plays_274 : decode cL_plays 274 = .ok (.iload 7, 2) := by decide +kernel
theorem dL_plays_276 : decode cL_plays 276 = .ok (.iload 15, 2) := by decide +kernel
theorem dL_plays_278 : decode cL_plays 278 = .ok (.iload 16, 2) := by decide +kernel
theorem dL_plays_280 : decode cL_plays 280 = .ok (.iconst 0, 1) := by decide +kernel
theorem dL_plays_281 : decode cL_plays 281 = .ok (.iconst 0, 1) := by decide +kernel
theorem dL_plays_282 : decode cL_plays 282 = .ok (.invokestatic 92, 3) := by decide +kernel
theorem dL_plays_285 : decode cL_plays 285 = .ok (.istore 20, 2) := by decide +kernel
theorem dL_plays_287 : decode cL_plays 287 = .ok (.iload 20, 2) := by decide +kernel
theorem dL_plays_289 : decode cL_plays 289 = .ok (.ifCond .ge 54, 3) := by decide +kernel
theorem dL_plays_292 : decode cL_plays 292 = .ok (.iload 18, 2) := by decide +kernel
theorem dL_plays_294 : decode cL_plays 294 = .ok (.ifCond .eq 47, 3) := by decide +kernel
theorem dL_plays_297 : decode cL_plays 297 = .ok (.iload 20, 2) := by decide +kernel
theorem dL_plays_299 : decode cL_plays 299 = .ok (.sipush (-1023), 3) := by decide +kernel
theorem dL_plays_302 : decode cL_plays 302 = .ok (.if_icmp .ne 39, 3) := by decide +kernel
theorem dL_plays_305 : decode cL_plays 305 = .ok (.aload_n 0, 1) := by decide +kernel
theorem dL_plays_306 : decode cL_plays 306 = .ok (.aload_n 2, 1) := by decide +kernel
theorem dL_plays_307 : decode cL_plays 307 = .ok (.invokestatic 99, 3) := by decide +kernel
theorem dL_plays_310 : decode cL_plays 310 = .ok (.lload 5, 2) := by decide +kernel
theorem dL_plays_312 : decode cL_plays 312 = .ok (.lcmp, 1) := by decide +kernel
theorem dL_plays_313 : decode cL_plays 313 = .ok (.ifCond .ne 28, 3) := by decide +kernel
theorem dL_plays_316 : decode cL_plays 316 = .ok (.iload 17, 2) := by decide +kernel
theorem dL_plays_318 : decode cL_plays 318 = .ok (.ifCond .eq 19, 3) := by decide +kernel
theorem dL_plays_321 : decode cL_plays 321 = .ok (.iload 12, 2) := by decide +kernel
theorem dL_plays_323 : decode cL_plays 323 = .ok (.ifCond .ne 14, 3) := by decide +kernel
theorem dL_plays_326 : decode cL_plays 326 = .ok (.aload_n 0, 1) := by decide +kernel
theorem dL_plays_327 : decode cL_plays 327 = .ok (.aload_n 1, 1) := by decide +kernel
theorem dL_plays_328 : decode cL_plays 328 = .ok (.iload 7, 2) := by decide +kernel
theorem dL_plays_330 : decode cL_plays 330 = .ok (.iaload, 1) := by decide +kernel
theorem dL_plays_331 : decode cL_plays 331 = .ok (.invokevirtual 68, 3) := by decide +kernel
theorem dL_plays_334 : decode cL_plays 334 = .ok (.ifCond .eq 7, 3) := by decide +kernel
theorem dL_plays_337 : decode cL_plays 337 = .ok (.iconst 1, 1) := by decide +kernel
theorem dL_plays_338 : decode cL_plays 338 = .ok (.goto 4, 3) := by decide +kernel
theorem dL_plays_341 : decode cL_plays 341 = .ok (.iconst 0, 1) := by decide +kernel
theorem dL_plays_342 : decode cL_plays 342 = .ok (.ireturn, 1) := by decide +kernel
theorem dL_plays_343 : decode cL_plays 343 = .ok (.iload 10, 2) := by decide +kernel
theorem dL_plays_345 : decode cL_plays 345 = .ok (.iconst 1, 1) := by decide +kernel
theorem dL_plays_346 : decode cL_plays 346 = .ok (.iload 15, 2) := by decide +kernel
theorem dL_plays_348 : decode cL_plays 348 = .ok (.ishl, 1) := by decide +kernel
theorem dL_plays_349 : decode cL_plays 349 = .ok (.iconst (-1), 1) := by decide +kernel
theorem dL_plays_350 : decode cL_plays 350 = .ok (.ixor, 1) := by decide +kernel
theorem dL_plays_351 : decode cL_plays 351 = .ok (.iand, 1) := by decide +kernel
theorem dL_plays_352 : decode cL_plays 352 = .ok (.iconst 1, 1) := by decide +kernel
theorem dL_plays_353 : decode cL_plays 353 = .ok (.iload 16, 2) := by decide +kernel
theorem dL_plays_355 : decode cL_plays 355 = .ok (.ishl, 1) := by decide +kernel
theorem dL_plays_356 : decode cL_plays 356 = .ok (.ior, 1) := by decide +kernel
theorem dL_plays_357 : decode cL_plays 357 = .ok (.istore 21, 2) := by decide +kernel
theorem dL_plays_359 : decode cL_plays 359 = .ok (.iload 18, 2) := by decide +kernel
theorem dL_plays_361 : decode cL_plays 361 = .ok (.ifCond .eq 90, 3) := by decide +kernel
theorem dL_plays_364 : decode cL_plays 364 = .ok (.iload 17, 2) := by decide +kernel
theorem dL_plays_366 : decode cL_plays 366 = .ok (.ifCond .eq 85, 3) := by decide +kernel
theorem dL_plays_369 : decode cL_plays 369 = .ok (.iload 20, 2) := by decide +kernel
theorem dL_plays_371 : decode cL_plays 371 = .ok (.aload_n 0, 1) := by decide +kernel
theorem dL_plays_372 : decode cL_plays 372 = .ok (.iload 7, 2) := by decide +kernel
theorem dL_plays_374 : decode cL_plays 374 = .ok (.invokevirtual 48, 3) := by decide +kernel
theorem dL_plays_377 : decode cL_plays 377 = .ok (.if_icmp .ne 74, 3) := by decide +kernel
theorem dL_plays_380 : decode cL_plays 380 = .ok (.aload_n 0, 1) := by decide +kernel
theorem dL_plays_381 : decode cL_plays 381 = .ok (.iload 7, 2) := by decide +kernel
theorem dL_plays_383 : decode cL_plays 383 = .ok (.invokevirtual 56, 3) := by decide +kernel
theorem dL_plays_386 : decode cL_plays 386 = .ok (.iload 8, 2) := by decide +kernel
theorem dL_plays_388 : decode cL_plays 388 = .ok (.iconst 1, 1) := by decide +kernel
theorem dL_plays_389 : decode cL_plays 389 = .ok (.iadd, 1) := by decide +kernel
theorem dL_plays_390 : decode cL_plays 390 = .ok (.if_icmp .ne 61, 3) := by decide +kernel
theorem dL_plays_393 : decode cL_plays 393 = .ok (.aload_n 0, 1) := by decide +kernel
theorem dL_plays_394 : decode cL_plays 394 = .ok (.iload 7, 2) := by decide +kernel
theorem dL_plays_396 : decode cL_plays 396 = .ok (.iload 9, 2) := by decide +kernel
theorem dL_plays_398 : decode cL_plays 398 = .ok (.invokevirtual 52, 3) := by decide +kernel
theorem dL_plays_401 : decode cL_plays 401 = .ok (.iload 21, 2) := by decide +kernel
theorem dL_plays_403 : decode cL_plays 403 = .ok (.if_icmp .ne 48, 3) := by decide +kernel
theorem dL_plays_406 : decode cL_plays 406 = .ok (.aload_n 0, 1) := by decide +kernel
theorem dL_plays_407 : decode cL_plays 407 = .ok (.iload 7, 2) := by decide +kernel
theorem dL_plays_409 : decode cL_plays 409 = .ok (.iload 9, 2) := by decide +kernel
theorem dL_plays_411 : decode cL_plays 411 = .ok (.ifCond .ne 7, 3) := by decide +kernel
theorem dL_plays_414 : decode cL_plays 414 = .ok (.iconst 1, 1) := by decide +kernel
theorem dL_plays_415 : decode cL_plays 415 = .ok (.goto 4, 3) := by decide +kernel
theorem dL_plays_418 : decode cL_plays 418 = .ok (.iconst 0, 1) := by decide +kernel
theorem dL_plays_419 : decode cL_plays 419 = .ok (.invokevirtual 52, 3) := by decide +kernel
theorem dL_plays_422 : decode cL_plays 422 = .ok (.iload 11, 2) := by decide +kernel
theorem dL_plays_424 : decode cL_plays 424 = .ok (.iconst 1, 1) := by decide +kernel
theorem dL_plays_425 : decode cL_plays 425 = .ok (.iload 16, 2) := by decide +kernel
theorem dL_plays_427 : decode cL_plays 427 = .ok (.ishl, 1) := by decide +kernel
theorem dL_plays_428 : decode cL_plays 428 = .ok (.iconst (-1), 1) := by decide +kernel
theorem dL_plays_429 : decode cL_plays 429 = .ok (.ixor, 1) := by decide +kernel
theorem dL_plays_430 : decode cL_plays 430 = .ok (.iand, 1) := by decide +kernel
theorem dL_plays_431 : decode cL_plays 431 = .ok (.if_icmp .ne 20, 3) := by decide +kernel
theorem dL_plays_434 : decode cL_plays 434 = .ok (.aload_n 0, 1) := by decide +kernel
theorem dL_plays_435 : decode cL_plays 435 = .ok (.iload 7, 2) := by decide +kernel
theorem dL_plays_437 : decode cL_plays 437 = .ok (.iconst 0, 1) := by decide +kernel
theorem dL_plays_438 : decode cL_plays 438 = .ok (.invokevirtual 59, 3) := by decide +kernel
theorem dL_plays_441 : decode cL_plays 441 = .ok (.ineg, 1) := by decide +kernel
theorem dL_plays_442 : decode cL_plays 442 = .ok (.iload 19, 2) := by decide +kernel
theorem dL_plays_444 : decode cL_plays 444 = .ok (.if_icmp .gt 7, 3) := by decide +kernel
theorem dL_plays_447 : decode cL_plays 447 = .ok (.iconst 1, 1) := by decide +kernel
theorem dL_plays_448 : decode cL_plays 448 = .ok (.goto 4, 3) := by decide +kernel
theorem dL_plays_451 : decode cL_plays 451 = .ok (.iconst 0, 1) := by decide +kernel
theorem dL_plays_452 : decode cL_plays 452 = .ok (.istore 18, 2) := by decide +kernel
theorem dL_plays_454 : decode cL_plays 454 = .ok (.iload 18, 2) := by decide +kernel
theorem dL_plays_456 : decode cL_plays 456 = .ok (.ifCond .eq 76, 3) := by decide +kernel
theorem dL_plays_459 : decode cL_plays 459 = .ok (.iload 20, 2) := by decide +kernel
theorem dL_plays_461 : decode cL_plays 461 = .ok (.iload 9, 2) := by decide +kernel
theorem dL_plays_463 : decode cL_plays 463 = .ok (.ifCond .eq 7, 3) := by decide +kernel
theorem dL_plays_466 : decode cL_plays 466 = .ok (.iconst 2, 1) := by decide +kernel
theorem dL_plays_467 : decode cL_plays 467 = .ok (.goto 4, 3) := by decide +kernel
theorem dL_plays_470 : decode cL_plays 470 = .ok (.iconst 1, 1) := by decide +kernel
theorem dL_plays_471 : decode cL_plays 471 = .ok (.if_icmp .ne 7, 3) := by decide +kernel
theorem dL_plays_474 : decode cL_plays 474 = .ok (.iconst 1, 1) := by decide +kernel
theorem dL_plays_475 : decode cL_plays 475 = .ok (.goto 4, 3) := by decide +kernel
theorem dL_plays_478 : decode cL_plays 478 = .ok (.iconst 0, 1) := by decide +kernel
theorem dL_plays_479 : decode cL_plays 479 = .ok (.aload_n 0, 1) := by decide +kernel
theorem dL_plays_480 : decode cL_plays 480 = .ok (.iload 7, 2) := by decide +kernel
theorem dL_plays_482 : decode cL_plays 482 = .ok (.iconst 0, 1) := by decide +kernel
theorem dL_plays_483 : decode cL_plays 483 = .ok (.invokevirtual 59, 3) := by decide +kernel
theorem dL_plays_486 : decode cL_plays 486 = .ok (.bipush (-100), 2) := by decide +kernel
theorem dL_plays_488 : decode cL_plays 488 = .ok (.if_icmp .ne 7, 3) := by decide +kernel
theorem dL_plays_491 : decode cL_plays 491 = .ok (.iconst 1, 1) := by decide +kernel
theorem dL_plays_492 : decode cL_plays 492 = .ok (.goto 4, 3) := by decide +kernel
theorem dL_plays_495 : decode cL_plays 495 = .ok (.iconst 0, 1) := by decide +kernel
theorem dL_plays_496 : decode cL_plays 496 = .ok (.if_icmp .ne 36, 3) := by decide +kernel
theorem dL_plays_499 : decode cL_plays 499 = .ok (.iload 20, 2) := by decide +kernel
theorem dL_plays_501 : decode cL_plays 501 = .ok (.iload 9, 2) := by decide +kernel
theorem dL_plays_503 : decode cL_plays 503 = .ok (.ifCond .eq 7, 3) := by decide +kernel
theorem dL_plays_506 : decode cL_plays 506 = .ok (.iconst 1, 1) := by decide +kernel
theorem dL_plays_507 : decode cL_plays 507 = .ok (.goto 4, 3) := by decide +kernel
theorem dL_plays_510 : decode cL_plays 510 = .ok (.iconst 2, 1) := by decide +kernel
theorem dL_plays_511 : decode cL_plays 511 = .ok (.if_icmp .eq 21, 3) := by decide +kernel
theorem dL_plays_514 : decode cL_plays 514 = .ok (.iload 8, 2) := by decide +kernel
theorem dL_plays_516 : decode cL_plays 516 = .ok (.iconst 1, 1) := by decide +kernel
theorem dL_plays_517 : decode cL_plays 517 = .ok (.iadd, 1) := by decide +kernel
theorem dL_plays_518 : decode cL_plays 518 = .ok (.bipush 60, 2) := by decide +kernel
theorem dL_plays_520 : decode cL_plays 520 = .ok (.if_icmp .lt 8, 3) := by decide +kernel
theorem dL_plays_523 : decode cL_plays 523 = .ok (.iload 20, 2) := by decide +kernel
theorem dL_plays_525 : decode cL_plays 525 = .ok (.ifCond .eq 7, 3) := by decide +kernel
theorem dL_plays_528 : decode cL_plays 528 = .ok (.iconst 1, 1) := by decide +kernel
theorem dL_plays_529 : decode cL_plays 529 = .ok (.goto 4, 3) := by decide +kernel
theorem dL_plays_532 : decode cL_plays 532 = .ok (.iconst 0, 1) := by decide +kernel
theorem dL_plays_533 : decode cL_plays 533 = .ok (.ireturn, 1) := by decide +kernel
set_option maxRecDepth 20000 in
theorem ggL_votes_L_some : GoodIn wsL_votes wsL_some := goodIn_r _ [4] (by decide +kernel) (by decide +kernel)
set_option maxRecDepth 20000 in
theorem gL_votes_L_some : GoodIn wsL_votes (va_wsS RL 103 yL_some wsL_some) := goodIn_app (goodIn_of _ (by decide +kernel)) ggL_votes_L_some
set_option maxRecDepth 20000 in
theorem ggL_votes_L_all : GoodIn wsL_votes wsL_all := goodIn_ca (goodIn_r _ [7, 8, 9, 10, 11, 12, 13, 14, 15, 16, 17, 18, 19, 20, 21, 22, 23, 24, 25, 26, 27, 28, 29, 30, 31, 32, 33, 34, 35, 36, 37, 38, 39, 40, 41, 42, 43, 44, 45, 46, 47, 48, 49, 50, 51, 52, 53, 54, 55, 56, 57, 58, 59, 60, 61, 62, 63, 64, 65, 66, 67, 68, 69, 70, 71, 72, 73, 74, 75, 76, 77, 78, 79, 80, 81, 82, 296, 297, 298, 299, 300, 301, 302, 303, 304, 305, 306, 307, 308, 309, 310, 311, 312, 313] (by decide +kernel) (by decide +kernel)) (goodIn_sub (fun _ h => List.mem_cons_of_mem _ (List.mem_append_left _ (List.mem_append_left _ (List.mem_append_right _ h)))) (by decide +kernel))
set_option maxRecDepth 20000 in
theorem gL_votes_L_all : GoodIn wsL_votes (va_wsS RL 99 yL_all wsL_all) := goodIn_app (goodIn_of _ (by decide +kernel)) ggL_votes_L_all
set_option maxRecDepth 20000 in
theorem ggL_votes_L_call : GoodIn wsL_votes wsL_call := goodIn_ca (goodIn_ca (goodIn_ca (goodIn_r _ [85, 86, 87, 88, 89, 90, 3, 91, 92, 93, 94, 18, 95, 96, 97, 98, 99, 100, 101, 102, 103, 104, 105, 106, 107, 108, 109, 110, 111, 112, 113, 114, 115, 116, 117, 118, 119, 120, 121, 122, 123, 47, 124, 125, 51, 126, 127, 128, 129, 130, 131, 132, 133, 134, 135, 136, 137, 138, 139, 140, 141, 142, 143, 144, 145, 146, 147, 148, 149, 150, 151, 43, 44, 45, 46, 25, 26, 152, 153, 154, 155, 156, 27, 157, 158, 78, 72, 73, 74, 159, 160, 161, 162, 163, 164, 56, 57, 58, 59, 60, 61, 48, 49, 50, 52, 53, 54, 55, 165, 166, 167, 168, 169, 170, 171, 172, 173, 174, 175, 176, 177, 178, 179, 180, 181, 182, 183, 184, 185, 186, 187, 188, 189, 190, 191, 81, 82, 192, 193, 80, 194, 195, 196, 197, 198, 199, 200, 201, 202, 21, 22, 23, 24, 203, 204, 205, 206, 207, 208, 209, 210, 211, 212, 213, 214, 215, 216, 217, 218, 219, 220, 221, 222, 223, 224, 225, 226, 227, 228, 229, 230, 231, 232, 233, 234, 20, 235, 236, 237, 238, 239, 240, 241, 242, 243, 244, 245, 246, 247, 248, 249, 250, 71, 251, 252, 253, 254, 255, 256, 257, 258, 259, 260, 261, 262, 263, 264, 265, 266, 267, 15, 16, 17, 19, 33, 34, 35, 36, 37, 38, 28, 29, 30, 31, 32, 268, 269, 270, 271, 272, 273, 274, 275, 276, 277, 278, 279, 280, 281, 282, 283, 284, 285, 286, 287, 288, 289, 290, 291, 292, 293, 294, 295, 39, 40, 41, 42, 62, 63, 64, 65, 66, 67, 68, 69, 70, 75, 76, 77, 79, 305, 306, 307, 308, 309, 310, 314, 315, 316, 317, 311, 312, 313, 318, 319, 320, 296, 297, 298, 299, 300, 301, 302, 303, 304] (by decide +kernel) (by decide +kernel)) (goodIn_sub (fun _ h => List.mem_cons_of_mem _ (List.mem_append_left _ (List.mem_append_right _ h))) (by decide +kernel))) (goodIn_sub (fun _ h => List.mem_cons_of_mem _ (List.mem_append_right _ h)) (by decide +kernel))) (goodIn_sub (fun _ h => List.mem_cons_of_mem _ (List.mem_append_left _ (List.mem_append_left _ (List.mem_append_right _ h)))) (by decide +kernel))
set_option maxRecDepth 20000 in
theorem gL_votes_L_call : GoodIn wsL_votes (va_wsS RL 92 yL_call wsL_call) := goodIn_app (goodIn_of _ (by decide +kernel)) ggL_votes_L_call
set_option maxRecDepth 20000 in
theorem ggL_votes_X4_isBanned : GoodIn wsL_votes wsX4_isBanned := goodIn_ca (goodIn_r _ [42, 43, 44, 45, 18, 46, 25, 26, 47, 48, 49, 50, 51, 52, 53, 54, 55, 56, 57, 58, 59, 60, 61, 305, 306, 307, 308, 309, 310, 311, 312, 313] (by decide +kernel) (by decide +kernel)) (goodIn_sub (fun _ h => List.mem_cons_of_mem _ (List.mem_append_left _ (List.mem_append_left _ (List.mem_append_right _ h)))) (by decide +kernel))
set_option maxRecDepth 20000 in
theorem gL_votes_X4_isBanned : GoodIn wsL_votes (wsV RL 68 RX4 yX4_isBanned wsX4_isBanned) := goodIn_app (goodIn_of _ (by decide +kernel)) ggL_votes_X4_isBanned
set_option maxRecDepth 20000 in
theorem ggL_votes_X4_endless : GoodIn wsL_votes wsX4_endless := goodIn_ca (goodIn_r _ [65, 66, 43, 44, 45, 18, 46, 25, 26, 47, 311, 312, 313, 305, 306, 307, 308, 309, 310] (by decide +kernel) (by decide +kernel)) (goodIn_sub (fun _ h => List.mem_cons_of_mem _ (List.mem_append_left _ (List.mem_append_left _ (List.mem_append_right _ h)))) (by decide +kernel))
set_option maxRecDepth 20000 in
theorem gL_votes_X4_endless : GoodIn wsL_votes (wsV RL 72 RX4 yX4_endless wsX4_endless) := goodIn_app (goodIn_of _ (by decide +kernel)) ggL_votes_X4_endless
set_option maxRecDepth 20000 in
theorem ggL_votes_X4_vote : GoodIn wsL_votes wsX4_vote := goodIn_ca (goodIn_r _ [294, 295, 72, 73, 18, 74, 25, 26, 43, 44, 45, 46, 47, 282, 56, 57, 58, 59, 60, 61, 311, 312, 313, 305, 306, 307, 308, 309, 310] (by decide +kernel) (by decide +kernel)) (goodIn_sub (fun _ h => List.mem_cons_of_mem _ (List.mem_append_left _ (List.mem_append_left _ (List.mem_append_right _ h)))) (by decide +kernel))
set_option maxRecDepth 20000 in
theorem gL_votes_X4_vote : GoodIn wsL_votes (wsV RL 65 RX4 yX4_vote wsX4_vote) := goodIn_app (goodIn_of _ (by decide +kernel)) ggL_votes_X4_vote
theorem dL_votes_0 : decode cL_votes 0 = .ok (.iload_n 2, 1) := by decide +kernel
theorem dL_votes_1 : decode cL_votes 1 = .ok (.iconst 5, 1) := by decide +kernel
theorem dL_votes_2 : decode cL_votes 2 = .ok (.invokestatic 103, 3) := by decide +kernel
theorem dL_votes_5 : decode cL_votes 5 = .ok (.istore_n 3, 1) := by decide +kernel
theorem dL_votes_6 : decode cL_votes 6 = .ok (.iload_n 2, 1) := by decide +kernel
theorem dL_votes_7 : decode cL_votes 7 = .ok (.iconst 3, 1) := by decide +kernel
theorem dL_votes_8 : decode cL_votes 8 = .ok (.ishr, 1) := by decide +kernel
theorem dL_votes_9 : decode cL_votes 9 = .ok (.aload_n 1, 1) := by decide +kernel
theorem dL_votes_10 : decode cL_votes 10 = .ok (.iconst 1, 1) := by decide +kernel
theorem dL_votes_11 : decode cL_votes 11 = .ok (.iaload, 1) := by decide +kernel
theorem dL_votes_12 : decode cL_votes 12 = .ok (.ifCond .ne 7, 3) := by decide +kernel
theorem dL_votes_15 : decode cL_votes 15 = .ok (.iconst 1, 1) := by decide +kernel
theorem dL_votes_16 : decode cL_votes 16 = .ok (.goto 6, 3) := by decide +kernel
theorem dL_votes_19 : decode cL_votes 19 = .ok (.aload_n 1, 1) := by decide +kernel
theorem dL_votes_20 : decode cL_votes 20 = .ok (.iconst 1, 1) := by decide +kernel
theorem dL_votes_21 : decode cL_votes 21 = .ok (.iaload, 1) := by decide +kernel
theorem dL_votes_22 : decode cL_votes 22 = .ok (.invokestatic 103, 3) := by decide +kernel
theorem dL_votes_25 : decode cL_votes 25 = .ok (.istore 4, 2) := by decide +kernel
theorem dL_votes_27 : decode cL_votes 27 = .ok (.aload_n 0, 1) := by decide +kernel
theorem dL_votes_28 : decode cL_votes 28 = .ok (.aload_n 1, 1) := by decide +kernel
theorem dL_votes_29 : decode cL_votes 29 = .ok (.invokestatic 99, 3) := by decide +kernel
theorem dL_votes_32 : decode cL_votes 32 = .ok (.lstore 5, 2) := by decide +kernel
theorem dL_votes_34 : decode cL_votes 34 = .ok (.aload_n 0, 1) := by decide +kernel
theorem dL_votes_35 : decode cL_votes 35 = .ok (.bipush 12, 2) := by decide +kernel
theorem dL_votes_37 : decode cL_votes 37 = .ok (.iload_n 3, 1) := by decide +kernel
theorem dL_votes_38 : decode cL_votes 38 = .ok (.iload 4, 2) := by decide +kernel
theorem dL_votes_40 : decode cL_votes 40 = .ok (.iconst 0, 1) := by decide +kernel
theorem dL_votes_41 : decode cL_votes 41 = .ok (.iconst 0, 1) := by decide +kernel
theorem dL_votes_42 : decode cL_votes 42 = .ok (.iconst 0, 1) := by decide +kernel
theorem dL_votes_43 : decode cL_votes 43 = .ok (.invokestatic 92, 3) := by decide +kernel
theorem dL_votes_46 : decode cL_votes 46 = .ok (.istore 7, 2) := by decide +kernel
theorem dL_votes_48 : decode cL_votes 48 = .ok (.iload 7, 2) := by decide +kernel
theorem dL_votes_50 : decode cL_votes 50 = .ok (.sipush (-1021), 3) := by decide +kernel
theorem dL_votes_53 : decode cL_votes 53 = .ok (.if_icmp .ne 26, 3) := by decide +kernel
theorem dL_votes_56 : decode cL_votes 56 = .ok (.aload_n 1, 1) := by decide +kernel
theorem dL_votes_57 : decode cL_votes 57 = .ok (.iconst 1, 1) := by decide +kernel
theorem dL_votes_58 : decode cL_votes 58 = .ok (.iaload, 1) := by decide +kernel
theorem dL_votes_59 : decode cL_votes 59 = .ok (.ifCond .ne 18, 3) := by decide +kernel
theorem dL_votes_62 : decode cL_votes 62 = .ok (.aload_n 0, 1) := by decide +kernel
theorem dL_votes_63 : decode cL_votes 63 = .ok (.aload_n 1, 1) := by decide +kernel
theorem dL_votes_64 : decode cL_votes 64 = .ok (.invokestatic 99, 3) := by decide +kernel
theorem dL_votes_67 : decode cL_votes 67 = .ok (.lload 5, 2) := by decide +kernel
theorem dL_votes_69 : decode cL_votes 69 = .ok (.lcmp, 1) := by decide +kernel
theorem dL_votes_70 : decode cL_votes 70 = .ok (.ifCond .ne 7, 3) := by decide +kernel
theorem dL_votes_73 : decode cL_votes 73 = .ok (.iconst 1, 1) := by decide +kernel
theorem dL_votes_74 : decode cL_votes 74 = .ok (.goto 4, 3) := by decide +kernel
theorem dL_votes_77 : decode cL_votes 77 = .ok (.iconst 0, 1) := by decide +kernel
theorem dL_votes_78 : decode cL_votes 78 = .ok (.ireturn, 1) := by decide +kernel
theorem dL_votes_79 : decode cL_votes 79 = .ok (.iload 7, 2) := by decide +kernel
theorem dL_votes_81 : decode cL_votes 81 = .ok (.ifCond .lt 44, 3) := by decide +kernel
theorem dL_votes_84 : decode cL_votes 84 = .ok (.iload 7, 2) := by decide +kernel
theorem dL_votes_86 : decode cL_votes 86 = .ok (.bipush 6, 2) := by decide +kernel
theorem dL_votes_88 : decode cL_votes 88 = .ok (.if_icmp .ge 37, 3) := by decide +kernel
theorem dL_votes_91 : decode cL_votes 91 = .ok (.aload_n 0, 1) := by decide +kernel
theorem dL_votes_92 : decode cL_votes 92 = .ok (.iload 4, 2) := by decide +kernel
theorem dL_votes_94 : decode cL_votes 94 = .ok (.invokevirtual 68, 3) := by decide +kernel
theorem dL_votes_97 : decode cL_votes 97 = .ok (.iload 7, 2) := by decide +kernel
theorem dL_votes_99 : decode cL_votes 99 = .ok (.iconst 2, 1) := by decide +kernel
theorem dL_votes_100 : decode cL_votes 100 = .ok (.if_icmp .gt 13, 3) := by decide +kernel
theorem dL_votes_103 : decode cL_votes 103 = .ok (.aload_n 0, 1) := by decide +kernel
theorem dL_votes_104 : decode cL_votes 104 = .ok (.iload 4, 2) := by decide +kernel
theorem dL_votes_106 : decode cL_votes 106 = .ok (.invokevirtual 72, 3) := by decide +kernel
theorem dL_votes_109 : decode cL_votes 109 = .ok (.iconst 1, 1) := by decide +kernel
theorem dL_votes_110 : decode cL_votes 110 = .ok (.if_icmp .le 7, 3) := by decide +kernel
theorem dL_votes_113 : decode cL_votes 113 = .ok (.iconst 1, 1) := by decide +kernel
theorem dL_votes_114 : decode cL_votes 114 = .ok (.goto 4, 3) := by decide +kernel
theorem dL_votes_117 : decode cL_votes 117 = .ok (.iconst 0, 1) := by decide +kernel
theorem dL_votes_118 : decode cL_votes 118 = .ok (.if_icmp .ne 7, 3) := by decide +kernel
theorem dL_votes_121 : decode cL_votes 121 = .ok (.iconst 1, 1) := by decide +kernel
theorem dL_votes_122 : decode cL_votes 122 = .ok (.goto 4, 3) := by decide +kernel
theorem dL_votes_125 : decode cL_votes 125 = .ok (.iconst 0, 1) := by decide +kernel
theorem dL_votes_126 : decode cL_votes 126 = .ok (.istore 8, 2) := by decide +kernel
theorem dL_votes_128 : decode cL_votes 128 = .ok (.aload_n 0, 1) := by decide +kernel
theorem dL_votes_129 : decode cL_votes 129 = .ok (.iload_n 3, 1) := by decide +kernel
theorem dL_votes_130 : decode cL_votes 130 = .ok (.iload 4, 2) := by decide +kernel
theorem dL_votes_132 : decode cL_votes 132 = .ok (.invokevirtual 65, 3) := by decide +kernel
theorem dL_votes_135 : decode cL_votes 135 = .ok (.istore 9, 2) := by decide +kernel
theorem dL_votes_137 : decode cL_votes 137 = .ok (.iload 8, 2) := by decide +kernel
theorem dL_votes_139 : decode cL_votes 139 = .ok (.ifCond .eq 59, 3) := by decide +kernel
theorem dL_votes_142 : decode cL_votes 142 = .ok (.iload 9, 2) := by decide +kernel
theorem dL_votes_144 : decode cL_votes 144 = .ok (.iload 7, 2) := by decide +kernel
theorem dL_votes_146 : decode cL_votes 146 = .ok (.iconst 1, 1) := by decide +kernel
theorem dL_votes_147 : decode cL_votes 147 = .ok (.iadd, 1) := by decide +kernel
theorem dL_votes_148 : decode cL_votes 148 = .ok (.if_icmp .eq 12, 3) := by decide +kernel
theorem dL_votes_151 : decode cL_votes 151 = .ok (.iload 9, 2) := by decide +kernel
theorem dL_votes_153 : decode cL_votes 153 = .ok (.iload 7, 2) := by decide +kernel
theorem dL_votes_155 : decode cL_votes 155 = .ok (.iconst 1, 1) := by decide +kernel
theorem dL_votes_156 : decode cL_votes 156 = .ok (.isub, 1) := by decide +kernel
theorem dL_votes_157 : decode cL_votes 157 = .ok (.if_icmp .ne 41, 3) := by decide +kernel
theorem dL_votes_160 : decode cL_votes 160 = .ok (.aload_n 0, 1) := by decide +kernel
theorem dL_votes_161 : decode cL_votes 161 = .ok (.aload_n 1, 1) := by decide +kernel
theorem dL_votes_162 : decode cL_votes 162 = .ok (.invokestatic 99, 3) := by decide +kernel
theorem dL_votes_165 : decode cL_votes 165 = .ok (.lload 5, 2) := by decide +kernel
theorem dL_votes_167 : decode cL_votes 167 = .ok (.lcmp, 1) := by decide +kernel
theorem dL_votes_168 : decode cL_votes 168 = .ok (.ifCond .ne 30, 3) := by decide +kernel
theorem dL_votes_171 : decode cL_votes 171 = .ok (.iload_n 2, 1) := by decide +kernel
theorem dL_votes_172 : decode cL_votes 172 = .ok (.bipush 6, 2) := by decide +kernel
theorem dL_votes_174 : decode cL_votes 174 = .ok (.ishr, 1) := by decide +kernel
theorem dL_votes_175 : decode cL_votes 175 = .ok (.iconst 3, 1) := by decide +kernel
theorem dL_votes_176 : decode cL_votes 176 = .ok (.invokestatic 103, 3) := by decide +kernel
theorem dL_votes_179 : decode cL_votes 179 = .ok (.ifCond .eq 15, 3) := by decide +kernel
theorem dL_votes_182 : decode cL_votes 182 = .ok (.aload_n 0, 1) := by decide +kernel
theorem dL_votes_183 : decode cL_votes 183 = .ok (.iload_n 3, 1) := by decide +kernel
theorem dL_votes_184 : decode cL_votes 184 = .ok (.iload 4, 2) := by decide +kernel
theorem dL_votes_186 : decode cL_votes 186 = .ok (.invokevirtual 65, 3) := by decide +kernel
theorem dL_votes_189 : decode cL_votes 189 = .ok (.iload 7, 2) := by decide +kernel
theorem dL_votes_191 : decode cL_votes 191 = .ok (.if_icmp .ne 7, 3) := by decide +kernel
theorem dL_votes_194 : decode cL_votes 194 = .ok (.iconst 1, 1) := by decide +kernel
theorem dL_votes_195 : decode cL_votes 195 = .ok (.goto 4, 3) := by decide +kernel
theorem dL_votes_198 : decode cL_votes 198 = .ok (.iconst 0, 1) := by decide +kernel
theorem dL_votes_199 : decode cL_votes 199 = .ok (.ireturn, 1) := by decide +kernel
