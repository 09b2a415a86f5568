set_option maxRecDepth 20000 in
theorem ggL_makes_L_all : GoodIn wsL_makes wsL_all := goodIn_ca (goodIn_r _ [5, 6, 7, 8, 9, 10, 11, 12, 13, 14, 15, 16, 17, 18, 19, 20, 21, 22, 23, 24, 25, 26, 27, 28, 29, 30, 31, 32, 33, 34, 35, 36, 37, 38, 39, 40, 41, 42, 43, 44, 45, 46, 47, 48, 49, 50, 51, 52, 53, 54, 55, 56, 57, 58, 59, 60, 61, 62, 63, 64, 65, 66, 67, 68, 69, 70, 71, 72, 73, 74, 75, 76, 77, 78, 79, 80, 297, 298, 299, 300, 301, 302, 303, 304, 305, 306, 307, 308, 309, 310, 311, 312, 313, 314] (by decide +kernel) (by decide +kernel)) (goodIn_sub (fun _ h => List.mem_cons_of_mem _ (List.mem_append_left _ (List.mem_append_left _ (List.mem_append_right _ h)))) (by decide +kernel))
set_option maxRecDepth 20000 in
theorem gL_makes_L_all : GoodIn wsL_makes (va_wsS RL 99 yL_all wsL_all) := goodIn_app (goodIn_of _ (by decide +kernel)) ggL_makes_L_all
set_option maxRecDepth 20000 in
theorem ggL_makes_L_some : GoodIn wsL_makes wsL_some := goodIn_r _ [83] (by decide +kernel) (by decide +kernel)
set_option maxRecDepth 20000 in
theorem gL_makes_L_some : GoodIn wsL_makes (va_wsS RL 103 yL_some wsL_some) := goodIn_app (goodIn_of _ (by decide +kernel)) ggL_makes_L_some
set_option maxRecDepth 20000 in
theorem ggL_makes_L_call : GoodIn wsL_makes wsL_call := goodIn_ca (goodIn_ca (goodIn_ca (goodIn_r _ [86, 87, 88, 89, 90, 91, 4, 92, 93, 94, 95, 16, 96, 97, 98, 99, 100, 101, 102, 103, 104, 105, 106, 107, 108, 109, 110, 111, 112, 113, 114, 115, 116, 117, 118, 119, 120, 121, 122, 123, 124, 45, 125, 126, 49, 127, 128, 129, 130, 131, 132, 133, 134, 135, 136, 137, 138, 139, 140, 141, 142, 143, 144, 145, 146, 147, 148, 149, 150, 151, 152, 41, 42, 43, 44, 23, 24, 153, 154, 155, 156, 157, 25, 158, 159, 76, 70, 71, 72, 160, 161, 162, 163, 164, 165, 54, 55, 56, 57, 58, 59, 46, 47, 48, 50, 51, 52, 53, 166, 167, 168, 169, 170, 171, 172, 173, 174, 175, 176, 177, 178, 179, 180, 181, 182, 183, 184, 185, 186, 187, 188, 189, 190, 191, 192, 79, 80, 193, 194, 78, 195, 196, 197, 198, 199, 200, 201, 202, 203, 19, 20, 21, 22, 204, 205, 206, 207, 208, 209, 210, 211, 212, 213, 214, 215, 216, 217, 218, 219, 220, 221, 222, 223, 224, 225, 226, 227, 228, 229, 230, 231, 232, 233, 234, 235, 18, 236, 237, 238, 239, 240, 241, 242, 243, 244, 245, 246, 247, 248, 249, 250, 251, 69, 252, 253, 254, 255, 256, 257, 258, 259, 260, 261, 262, 263, 264, 265, 266, 267, 268, 13, 14, 15, 17, 31, 32, 33, 34, 35, 36, 26, 27, 28, 29, 30, 269, 270, 271, 272, 273, 274, 275, 276, 277, 278, 279, 280, 281, 282, 283, 284, 285, 286, 287, 288, 289, 290, 291, 292, 293, 294, 295, 296, 37, 38, 39, 40, 60, 61, 62, 63, 64, 65, 66, 67, 68, 73, 74, 75, 77, 306, 307, 308, 309, 310, 311, 315, 316, 317, 318, 312, 313, 314, 319, 320, 321, 297, 298, 299, 300, 301, 302, 303, 304, 305] (by decide +kernel) (by decide +kernel)) (goodIn_sub (fun _ h => List.mem_cons_of_mem _ (List.mem_append_left _ (List.mem_append_right _ h))) (by decide +kernel))) (goodIn_sub (fun _ h => List.mem_cons_of_mem _ (List.mem_append_right _ h)) (by decide +kernel))) (goodIn_sub (fun _ h => List.mem_cons_of_mem _ (List.mem_append_left _ (List.mem_append_left _ (List.mem_append_right _ h)))) (by decide +kernel))
set_option maxRecDepth 20000 in
theorem gL_makes_L_call : GoodIn wsL_makes (va_wsS RL 92 yL_call wsL_call) := goodIn_app (goodIn_of _ (by decide +kernel)) ggL_makes_L_call
set_option maxRecDepth 20000 in
theorem ggL_makes_X4_isBanned : GoodIn wsL_makes wsX4_isBanned := goodIn_ca (goodIn_r _ [40, 41, 42, 43, 16, 44, 23, 24, 45, 46, 47, 48, 49, 50, 51, 52, 53, 54, 55, 56, 57, 58, 59, 306, 307, 308, 309, 310, 311, 312, 313, 314] (by decide +kernel) (by decide +kernel)) (goodIn_sub (fun _ h => List.mem_cons_of_mem _ (List.mem_append_left _ (List.mem_append_left _ (List.mem_append_right _ h)))) (by decide +kernel))
set_option maxRecDepth 20000 in
theorem gL_makes_X4_isBanned : GoodIn wsL_makes (wsV RL 68 RX4 yX4_isBanned wsX4_isBanned) := goodIn_app (goodIn_of _ (by decide +kernel)) ggL_makes_X4_isBanned
set_option maxRecDepth 20000 in
theorem ggL_makes_X4_endless : GoodIn wsL_makes wsX4_endless := goodIn_ca (goodIn_r _ [63, 64, 41, 42, 43, 16, 44, 23, 24, 45, 312, 313, 314, 306, 307, 308, 309, 310, 311] (by decide +kernel) (by decide +kernel)) (goodIn_sub (fun _ h => List.mem_cons_of_mem _ (List.mem_append_left _ (List.mem_append_left _ (List.mem_append_right _ h)))) (by decide +kernel))
set_option maxRecDepth 20000 in
theorem gL_makes_X4_endless : GoodIn wsL_makes (wsV RL 72 RX4 yX4_endless wsX4_endless) := goodIn_app (goodIn_of _ (by decide +kernel)) ggL_makes_X4_endless
set_option maxRecDepth 20000 in
theorem ggL_makes_X4_points : GoodIn wsL_makes wsX4_points := goodIn_ca (goodIn_r _ [68, 25, 69, 70, 71, 16, 72, 23, 24, 41, 42, 43, 44, 45, 46, 47, 48, 49, 50, 51, 52, 53, 54, 55, 56, 57, 58, 59, 73, 74, 75, 76, 77, 78, 79, 80, 306, 307, 308, 309, 310, 311, 297, 298, 299, 300, 301, 302, 303, 304, 305, 312, 313, 314] (by decide +kernel) (by decide +kernel)) (goodIn_sub (fun _ h => List.mem_cons_of_mem _ (List.mem_append_left _ (List.mem_append_left _ (List.mem_append_right _ h)))) (by decide +kernel))
set_option maxRecDepth 20000 in
theorem gL_makes_X4_points : GoodIn wsL_makes (wsV RL 75 RX4 yX4_points wsX4_points) := goodIn_app (goodIn_of _ (by decide +kernel)) ggL_makes_X4_points
set_option maxRecDepth 20000 in
theorem ggL_makes_X4_setCards : GoodIn wsL_makes wsX4_setCards := goodIn_ca (goodIn_ca (goodIn_r _ [149, 97, 98, 150, 127, 128, 129, 102, 151, 152, 41, 42, 43, 16, 44, 23, 24, 45, 130, 131, 132, 133, 101, 134, 135, 136, 137, 113, 114, 138, 139, 140, 312, 313, 314, 319, 320, 321, 306, 307, 308, 309, 310, 311] (by decide +kernel) (by decide +kernel)) (goodIn_sub (fun _ h => List.mem_cons_of_mem _ (List.mem_append_left _ (List.mem_append_right _ h))) (by decide +kernel))) (goodIn_sub (fun _ h => List.mem_cons_of_mem _ (List.mem_append_left _ (List.mem_append_left _ (List.mem_append_right _ h)))) (by decide +kernel))
set_option maxRecDepth 20000 in
theorem gL_makes_X4_setCards : GoodIn wsL_makes (wsV RL 30 RX4 yX4_setCards wsX4_setCards) := goodIn_app (goodIn_of _ (by decide +kernel)) ggL_makes_X4_setCards
theorem dL_makes_0 : decode cL_makes 0 = .ok (.aload_n 0, 1) := by decide +kernel
theorem dL_makes_1 : decode cL_makes 1 = .ok (.aload_n 1, 1) := by decide +kernel
theorem dL_makes_2 : decode cL_makes 2 = .ok (.invokestatic 99, 3) := by decide +kernel
theorem dL_makes_5 : decode cL_makes 5 = .ok (.lstore 4, 2) := by decide +kernel
theorem dL_makes_7 : decode cL_makes 7 = .ok (.iload_n 2, 1) := by decide +kernel
theorem dL_makes_8 : decode cL_makes 8 = .ok (.bipush 8, 2) := by decide +kernel
theorem dL_makes_10 : decode cL_makes 10 = .ok (.invokestatic 103, 3) := by decide +kernel
theorem dL_makes_13 : decode cL_makes 13 = .ok (.istore 6, 2) := by decide +kernel
theorem dL_makes_15 : decode cL_makes 15 = .ok (.iload 6, 2) := by decide +kernel
theorem dL_makes_17 : decode cL_makes 17 = .ok (.iconst 4, 1) := by decide +kernel
theorem dL_makes_18 : decode cL_makes 18 = .ok (.if_icmp .lt 9, 3) := by decide +kernel
theorem dL_makes_21 : decode cL_makes 21 = .ok (.aload_n 1, 1) := by decide +kernel
theorem dL_makes_22 : decode cL_makes 22 = .ok (.iconst 0, 1) := by decide +kernel
theorem dL_makes_23 : decode cL_makes 23 = .ok (.iaload, 1) := by decide +kernel
theorem dL_makes_24 : decode cL_makes 24 = .ok (.ifCond .ne 133, 3) := by decide +kernel
theorem dL_makes_27 : decode cL_makes 27 = .ok (.iload_n 3, 1) := by decide +kernel
theorem dL_makes_28 : decode cL_makes 28 = .ok (.iconst 3, 1) := by decide +kernel
theorem dL_makes_29 : decode cL_makes 29 = .ok (.ishr, 1) := by decide +kernel
theorem dL_makes_30 : decode cL_makes 30 = .ok (.iconst 5, 1) := by decide +kernel
theorem dL_makes_31 : decode cL_makes 31 = .ok (.invokestatic 103, 3) := by decide +kernel
theorem dL_makes_34 : decode cL_makes 34 = .ok (.iconst 2, 1) := by decide +kernel
theorem dL_makes_35 : decode cL_makes 35 = .ok (.isub, 1) := by decide +kernel
theorem dL_makes_36 : decode cL_makes 36 = .ok (.istore 7, 2) := by decide +kernel
theorem dL_makes_38 : decode cL_makes 38 = .ok (.iload_n 3, 1) := by decide +kernel
theorem dL_makes_39 : decode cL_makes 39 = .ok (.bipush 6, 2) := by decide +kernel
theorem dL_makes_41 : decode cL_makes 41 = .ok (.ishr, 1) := by decide +kernel
theorem dL_makes_42 : decode cL_makes 42 = .ok (.iconst 5, 1) := by decide +kernel
theorem dL_makes_43 : decode cL_makes 43 = .ok (.invokestatic 103, 3) := by decide +kernel
theorem dL_makes_46 : decode cL_makes 46 = .ok (.iconst 2, 1) := by decide +kernel
theorem dL_makes_47 : decode cL_makes 47 = .ok (.isub, 1) := by decide +kernel
theorem dL_makes_48 : decode cL_makes 48 = .ok (.istore 8, 2) := by decide +kernel
theorem dL_makes_50 : decode cL_makes 50 = .ok (.aload_n 0, 1) := by decide +kernel
theorem dL_makes_51 : decode cL_makes 51 = .ok (.iconst 0, 1) := by decide +kernel
theorem dL_makes_52 : decode cL_makes 52 = .ok (.iload_n 3, 1) := by decide +kernel
theorem dL_makes_53 : decode cL_makes 53 = .ok (.iconst 3, 1) := by decide +kernel
theorem dL_makes_54 : decode cL_makes 54 = .ok (.invokestatic 103, 3) := by decide +kernel
theorem dL_makes_57 : decode cL_makes 57 = .ok (.iload 7, 2) := by decide +kernel
theorem dL_makes_59 : decode cL_makes 59 = .ok (.iload 8, 2) := by decide +kernel
theorem dL_makes_61 : decode cL_makes 61 = .ok (.iconst 1, 1) := by decide +kernel
theorem dL_makes_62 : decode cL_makes 62 = .ok (.iload_n 3, 1) := by decide +kernel
theorem dL_makes_63 : decode cL_makes 63 = .ok (.bipush 9, 2) := by decide +kernel
theorem dL_makes_65 : decode cL_makes 65 = .ok (.ishr, 1) := by decide +kernel
theorem dL_makes_66 : decode cL_makes 66 = .ok (.iconst 4, 1) := by decide +kernel
theorem dL_makes_67 : decode cL_makes 67 = .ok (.invokestatic 103, 3) := by decide +kernel
theorem dL_makes_70 : decode cL_makes 70 = .ok (.iadd, 1) := by decide +kernel
theorem dL_makes_71 : decode cL_makes 71 = .ok (.iconst 0, 1) := by decide +kernel
theorem dL_makes_72 : decode cL_makes 72 = .ok (.invokestatic 92, 3) := by decide +kernel
theorem dL_makes_75 : decode cL_makes 75 = .ok (.istore 9, 2) := by decide +kernel
theorem dL_makes_77 : decode cL_makes 77 = .ok (.iload 9, 2) := by decide +kernel
theorem dL_makes_79 : decode cL_makes 79 = .ok (.ifCond .ge 44, 3) := by decide +kernel
theorem dL_makes_82 : decode cL_makes 82 = .ok (.iload 9, 2) := by decide +kernel
theorem dL_makes_84 : decode cL_makes 84 = .ok (.iload 7, 2) := by decide +kernel
theorem dL_makes_86 : decode cL_makes 86 = .ok (.ifCond .ne 14, 3) := by decide +kernel
theorem dL_makes_89 : decode cL_makes 89 = .ok (.iload 8, 2) := by decide +kernel
theorem dL_makes_91 : decode cL_makes 91 = .ok (.ifCond .ne 9, 3) := by decide +kernel
theorem dL_makes_94 : decode cL_makes 94 = .ok (.sipush (-1022), 3) := by decide +kernel
theorem dL_makes_97 : decode cL_makes 97 = .ok (.goto 6, 3) := by decide +kernel
theorem dL_makes_100 : decode cL_makes 100 = .ok (.sipush (-1023), 3) := by decide +kernel
theorem dL_makes_103 : decode cL_makes 103 = .ok (.if_icmp .ne 18, 3) := by decide +kernel
theorem dL_makes_106 : decode cL_makes 106 = .ok (.aload_n 0, 1) := by decide +kernel
theorem dL_makes_107 : decode cL_makes 107 = .ok (.aload_n 1, 1) := by decide +kernel
theorem dL_makes_108 : decode cL_makes 108 = .ok (.invokestatic 99, 3) := by decide +kernel
theorem dL_makes_111 : decode cL_makes 111 = .ok (.lload 4, 2) := by decide +kernel
theorem dL_makes_113 : decode cL_makes 113 = .ok (.lcmp, 1) := by decide +kernel
theorem dL_makes_114 : decode cL_makes 114 = .ok (.ifCond .ne 7, 3) := by decide +kernel
theorem dL_makes_117 : decode cL_makes 117 = .ok (.iconst 1, 1) := by decide +kernel
theorem dL_makes_118 : decode cL_makes 118 = .ok (.goto 4, 3) := by decide +kernel
theorem dL_makes_121 : decode cL_makes 121 = .ok (.iconst 0, 1) := by decide +kernel
theorem dL_makes_122 : decode cL_makes 122 = .ok (.ireturn, 1) := by decide +kernel
theorem dL_makes_123 : decode cL_makes 123 = .ok (.aload_n 1, 1) := by decide +kernel
theorem dL_makes_124 : decode cL_makes 124 = .ok (.iconst 0, 1) := by decide +kernel
theorem dL_makes_125 : decode cL_makes 125 = .ok (.dup2, 1) := by decide +kernel
theorem dL_makes_126 : decode cL_makes 126 = .ok (.iaload, 1) := by decide +kernel
theorem dL_makes_127 : decode cL_makes 127 = .ok (.iconst 1, 1) := by decide +kernel
theorem dL_makes_128 : decode cL_makes 128 = .ok (.iadd, 1) := by decide +kernel
theorem dL_makes_129 : decode cL_makes 129 = .ok (.iastore, 1) := by decide +kernel
theorem dL_makes_130 : decode cL_makes 130 = .ok (.iload 9, 2) := by decide +kernel
theorem dL_makes_132 : decode cL_makes 132 = .ok (.aload_n 1, 1) := by decide +kernel
theorem dL_makes_133 : decode cL_makes 133 = .ok (.iconst 0, 1) := by decide +kernel
theorem dL_makes_134 : decode cL_makes 134 = .ok (.iaload, 1) := by decide +kernel
theorem dL_makes_135 : decode cL_makes 135 = .ok (.iconst 1, 1) := by decide +kernel
theorem dL_makes_136 : decode cL_makes 136 = .ok (.isub, 1) := by decide +kernel
theorem dL_makes_137 : decode cL_makes 137 = .ok (.if_icmp .ne 18, 3) := by decide +kernel
theorem dL_makes_140 : decode cL_makes 140 = .ok (.aload_n 0, 1) := by decide +kernel
theorem dL_makes_141 : decode cL_makes 141 = .ok (.aload_n 1, 1) := by decide +kernel
theorem dL_makes_142 : decode cL_makes 142 = .ok (.invokestatic 99, 3) := by decide +kernel
theorem dL_makes_145 : decode cL_makes 145 = .ok (.lload 4, 2) := by decide +kernel
theorem dL_makes_147 : decode cL_makes 147 = .ok (.lcmp, 1) := by decide +kernel
theorem dL_makes_148 : decode cL_makes 148 = .ok (.ifCond .ne 7, 3) := by decide +kernel
theorem dL_makes_151 : decode cL_makes 151 = .ok (.iconst 1, 1) := by decide +kernel
theorem dL_makes_152 : decode cL_makes 152 = .ok (.goto 4, 3) := by decide +kernel
theorem dL_makes_155 : decode cL_makes 155 = .ok (.iconst 0, 1) := by decide +kernel
theorem dL_makes_156 : decode cL_makes 156 = .ok (.ireturn, 1) := by decide +kernel
theorem dL_makes_157 : decode cL_makes 157 = .ok (.iconst 1, 1) := by decide +kernel
theorem dL_makes_158 : decode cL_makes 158 = .ok (.iload_n 3, 1) := by decide +kernel
theorem dL_makes_159 : decode cL_makes 159 = .ok (.iconst 1, 1) := by decide +kernel
theorem dL_makes_160 : decode cL_makes 160 = .ok (.aload_n 1, 1) := by decide +kernel
theorem dL_makes_161 : decode cL_makes 161 = .ok (.iconst 0, 1) := by decide +kernel
theorem dL_makes_162 : decode cL_makes 162 = .ok (.iaload, 1) := by decide +kernel
theorem dL_makes_163 : decode cL_makes 163 = .ok (.ishl, 1) := by decide +kernel
theorem dL_makes_164 : decode cL_makes 164 = .ok (.iconst 1, 1) := by decide +kernel
theorem dL_makes_165 : decode cL_makes 165 = .ok (.isub, 1) := by decide +kernel
theorem dL_makes_166 : decode cL_makes 166 = .ok (.invokestatic 103, 3) := by decide +kernel
theorem dL_makes_169 : decode cL_makes 169 = .ok (.iadd, 1) := by decide +kernel
theorem dL_makes_170 : decode cL_makes 170 = .ok (.istore 7, 2) := by decide +kernel
theorem dL_makes_172 : decode cL_makes 172 = .ok (.iload 6, 2) := by decide +kernel
theorem dL_makes_174 : decode cL_makes 174 = .ok (.bipush 6, 2) := by decide +kernel
theorem dL_makes_176 : decode cL_makes 176 = .ok (.if_icmp .ge 146, 3) := by decide +kernel
theorem dL_makes_179 : decode cL_makes 179 = .ok (.aload_n 0, 1) := by decide +kernel
theorem dL_makes_180 : decode cL_makes 180 = .ok (.iconst 1, 1) := by decide +kernel
theorem dL_makes_181 : decode cL_makes 181 = .ok (.iload_n 3, 1) := by decide +kernel
theorem dL_makes_182 : decode cL_makes 182 = .ok (.iconst 4, 1) := by decide +kernel
theorem dL_makes_183 : decode cL_makes 183 = .ok (.ishr, 1) := by decide +kernel
theorem dL_makes_184 : decode cL_makes 184 = .ok (.ldc 95, 2) := by decide +kernel
theorem dL_makes_186 : decode cL_makes 186 = .ok (.invokestatic 103, 3) := by decide +kernel
theorem dL_makes_189 : decode cL_makes 189 = .ok (.iload_n 2, 1) := by decide +kernel
theorem dL_makes_190 : decode cL_makes 190 = .ok (.iconst 4, 1) := by decide +kernel
theorem dL_makes_191 : decode cL_makes 191 = .ok (.ishr, 1) := by decide +kernel
theorem dL_makes_192 : decode cL_makes 192 = .ok (.ldc 95, 2) := by decide +kernel
theorem dL_makes_194 : decode cL_makes 194 = .ok (.invokestatic 103, 3) := by decide +kernel
theorem dL_makes_197 : decode cL_makes 197 = .ok (.iand, 1) := by decide +kernel
theorem dL_makes_198 : decode cL_makes 198 = .ok (.iload_n 3, 1) := by decide +kernel
theorem dL_makes_199 : decode cL_makes 199 = .ok (.iconst 2, 1) := by decide +kernel
theorem dL_makes_200 : decode cL_makes 200 = .ok (.ishr, 1) := by decide +kernel
theorem dL_makes_201 : decode cL_makes 201 = .ok (.ldc 95, 2) := by decide +kernel
theorem dL_makes_203 : decode cL_makes 203 = .ok (.invokestatic 103, 3) := by decide +kernel
theorem dL_makes_206 : decode cL_makes 206 = .ok (.iand, 1) := by decide +kernel
theorem dL_makes_207 : decode cL_makes 207 = .ok (.iload 7, 2) := by decide +kernel
theorem dL_makes_209 : decode cL_makes 209 = .ok (.iconst 0, 1) := by decide +kernel
theorem dL_makes_210 : decode cL_makes 210 = .ok (.iconst 0, 1) := by decide +kernel
theorem dL_makes_211 : decode cL_makes 211 = .ok (.iconst 0, 1) := by decide +kernel
theorem dL_makes_212 : decode cL_makes 212 = .ok (.invokestatic 92, 3) := by decide +kernel
theorem dL_makes_215 : decode cL_makes 215 = .ok (.istore 8, 2) := by decide +kernel
theorem dL_makes_217 : decode cL_makes 217 = .ok (.iload 8, 2) := by decide +kernel
theorem dL_makes_219 : decode cL_makes 219 = .ok (.ifCond .ge 35, 3) := by decide +kernel
theorem dL_makes_222 : decode cL_makes 222 = .ok (.iload 8, 2) := by decide +kernel
theorem dL_makes_224 : decode cL_makes 224 = .ok (.sipush (-1023), 3) := by decide +kernel
theorem dL_makes_227 : decode cL_makes 227 = .ok (.if_icmp .ne 25, 3) := by decide +kernel
theorem dL_makes_230 : decode cL_makes 230 = .ok (.aload_n 1, 1) := by decide +kernel
theorem dL_makes_231 : decode cL_makes 231 = .ok (.iconst 1, 1) := by decide +kernel
theorem dL_makes_232 : decode cL_makes 232 = .ok (.iaload, 1) := by decide +kernel
theorem dL_makes_233 : decode cL_makes 233 = .ok (.iconst 4, 1) := by decide +kernel
theorem dL_makes_234 : decode cL_makes 234 = .ok (.if_icmp .ne 18, 3) := by decide +kernel
theorem dL_makes_237 : decode cL_makes 237 = .ok (.aload_n 0, 1) := by decide +kernel
theorem dL_makes_238 : decode cL_makes 238 = .ok (.aload_n 1, 1) := by decide +kernel
theorem dL_makes_239 : decode cL_makes 239 = .ok (.invokestatic 99, 3) := by decide +kernel
theorem dL_makes_242 : decode cL_makes 242 = .ok (.lload 4, 2) := by decide +kernel
theorem dL_makes_244 : decode cL_makes 244 = .ok (.lcmp, 1) := by decide +kernel
theorem dL_makes_245 : decode cL_makes 245 = .ok (.ifCond .ne 7, 3) := by decide +kernel
theorem dL_makes_248 : decode cL_makes 248 = .ok (.iconst 1, 1) := by decide +kernel
theorem dL_makes_249 : decode cL_makes 249 = .ok (.goto 4, 3) := by decide +kernel
theorem dL_makes_252 : decode cL_makes 252 = .ok (.iconst 0, 1) := by decide +kernel
theorem dL_makes_253 : decode cL_makes 253 = .ok (.ireturn, 1) := by decide +kernel
theorem dL_makes_254 : decode cL_makes 254 = .ok (.aload_n 1, 1) := by decide +kernel
theorem dL_makes_255 : decode cL_makes 255 = .ok (.iconst 1, 1) := by decide +kernel
theorem dL_makes_256 : decode cL_makes 256 = .ok (.dup2, 1) := by decide +kernel
theorem dL_makes_257 : decode cL_makes 257 = .ok (.iaload, 1) := by decide +kernel
theorem dL_makes_258 : decode cL_makes 258 = .ok (.iconst 1, 1) := by decide +kernel
theorem dL_makes_259 : decode cL_makes 259 = .ok (.iadd, 1) := by decide +kernel
theorem dL_makes_260 : decode cL_makes 260 = .ok (.iastore, 1) := by decide +kernel
theorem dL_makes_261 : decode cL_makes 261 = .ok (.iload 8, 2) := by decide +kernel
theorem dL_makes_263 : decode cL_makes 263 = .ok (.aload_n 1, 1) := by decide +kernel
theorem dL_makes_264 : decode cL_makes 264 = .ok (.iconst 1, 1) := by decide +kernel
theorem dL_makes_265 : decode cL_makes 265 = .ok (.iaload, 1) := by decide +kernel
theorem dL_makes_266 : decode cL_makes 266 = .ok (.iconst 1, 1) := by decide +kernel
theorem dL_makes_267 : decode cL_makes 267 = .ok (.isub, 1) := by decide +kernel
theorem dL_makes_268 : decode cL_makes 268 = .ok (.if_icmp .ne 52, 3) := by decide +kernel
theorem dL_makes_271 : decode cL_makes 271 = .ok (.aload_n 0, 1) := by decide +kernel
theorem dL_makes_272 : decode cL_makes 272 = .ok (.iload 8, 2) := by decide +kernel
theorem dL_makes_274 : decode cL_makes 274 = .ok (.invokevirtual 68, 3) := by decide +kernel
theorem dL_makes_277 : decode cL_makes 277 = .ok (.ifCond .ne 43, 3) := by decide +kernel
theorem dL_makes_280 : decode cL_makes 280 = .ok (.aload_n 0, 1) := by decide +kernel
theorem dL_makes_281 : decode cL_makes 281 = .ok (.iload 8, 2) := by decide +kernel
theorem dL_makes_283 : decode cL_makes 283 = .ok (.invokevirtual 72, 3) := by decide +kernel
theorem dL_makes_286 : decode cL_makes 286 = .ok (.ifCond .ne 34, 3) := by decide +kernel
theorem dL_makes_289 : decode cL_makes 289 = .ok (.aload_n 0, 1) := by decide +kernel
theorem dL_makes_290 : decode cL_makes 290 = .ok (.iload_n 3, 1) := by decide +kernel
theorem dL_makes_291 : decode cL_makes 291 = .ok (.iconst 5, 1) := by decide +kernel
theorem dL_makes_292 : decode cL_makes 292 = .ok (.invokestatic 103, 3) := by decide +kernel
theorem dL_makes_295 : decode cL_makes 295 = .ok (.iload 8, 2) := by decide +kernel
theorem dL_makes_297 : decode cL_makes 297 = .ok (.invokevirtual 75, 3) := by decide +kernel
theorem dL_makes_300 : decode cL_makes 300 = .ok (.ifCond .ne 20, 3) := by decide +kernel
theorem dL_makes_303 : decode cL_makes 303 = .ok (.aload_n 0, 1) := by decide +kernel
theorem dL_makes_304 : decode cL_makes 304 = .ok (.iload 8, 2) := by decide +kernel
theorem dL_makes_306 : decode cL_makes 306 = .ok (.iload 7, 2) := by decide +kernel
theorem dL_makes_308 : decode cL_makes 308 = .ok (.invokevirtual 30, 3) := by decide +kernel
theorem dL_makes_311 : decode cL_makes 311 = .ok (.iload 7, 2) := by decide +kernel
theorem dL_makes_313 : decode cL_makes 313 = .ok (.if_icmp .ne 7, 3) := by decide +kernel
theorem dL_makes_316 : decode cL_makes 316 = .ok (.iconst 1, 1) := by decide +kernel
theorem dL_makes_317 : decode cL_makes 317 = .ok (.goto 4, 3) := by decide +kernel
theorem dL_makes_320 : decode cL_makes 320 = .ok (.iconst 0, 1) := by decide +kernel
theorem dL_makes_321 : decode cL_makes 321 = .ok (.ireturn, 1) := by decide +kernel
theorem dL_makes_322 : decode cL_makes 322 = .ok (.iload_n 3, 1) := by decide +kernel
theorem dL_makes_323 : decode cL_makes 323 = .ok (.bipush 9, 2) := by decide +kernel
theorem dL_makes_325 : decode cL_makes 325 = .ok (.ishr, 1) := by decide +kernel
theorem dL_makes_326 : decode cL_makes 326 = .ok (.aload_n 1, 1) := by decide +kernel
theorem dL_makes_327 : decode cL_makes 327 = .ok (.iconst 1, 1) := by decide +kernel
theorem dL_makes_328 : decode cL_makes 328 = .ok (.iaload, 1) := by decide +kernel
theorem dL_makes_329 : decode cL_makes 329 = .ok (.ifCond .ne 7, 3) := by decide +kernel
theorem dL_makes_332 : decode cL_makes 332 = .ok (.iconst 1, 1) := by decide +kernel
theorem dL_makes_333 : decode cL_makes 333 = .ok (.goto 6, 3) := by decide +kernel
theorem dL_makes_336 : decode cL_makes 336 = .ok (.aload_n 1, 1) := by decide +kernel
theorem dL_makes_337 : decode cL_makes 337 = .ok (.iconst 1, 1) := by decide +kernel
theorem dL_makes_338 : decode cL_makes 338 = .ok (.iaload, 1) := by decide +kernel
theorem dL_makes_339 : decode cL_makes 339 = .ok (.invokestatic 103, 3) := by decide +kernel
theorem dL_makes_342 : decode cL_makes 342 = .ok (.istore 8, 2) := by decide +kernel
theorem dL_makes_344 : decode cL_makes 344 = .ok (.aload_n 0, 1) := by decide +kernel
theorem dL_makes_345 : decode cL_makes 345 = .ok (.iconst 2, 1) := by decide +kernel
theorem dL_makes_346 : decode cL_makes 346 = .ok (.iload 8, 2) := by decide +kernel
theorem dL_makes_348 : decode cL_makes 348 = .ok (.iload 7, 2) := by decide +kernel
theorem dL_makes_350 : decode cL_makes 350 = .ok (.iconst 0, 1) := by decide +kernel
theorem dL_makes_351 : decode cL_makes 351 = .ok (.iconst 0, 1) := by decide +kernel
theorem dL_makes_352 : decode cL_makes 352 = .ok (.iconst 0, 1) := by decide +kernel
theorem dL_makes_353 : decode cL_makes 353 = .ok (.invokestatic 92, 3) := by decide +kernel
theorem dL_makes_356 : decode cL_makes 356 = .ok (.istore 9, 2) := by decide +kernel
theorem dL_makes_358 : decode cL_makes 358 = .ok (.aload_n 0, 1) := by decide +kernel
theorem dL_makes_359 : decode cL_makes 359 = .ok (.aload_n 1, 1) := by decide +kernel
theorem dL_makes_360 : decode cL_makes 360 = .ok (.invokestatic 99, 3) := by decide +kernel
theorem dL_makes_363 : decode cL_makes 363 = .ok (.lload 4, 2) := by decide +kernel
theorem dL_makes_365 : decode cL_makes 365 = .ok (.lcmp, 1) := by decide +kernel
theorem dL_makes_366 : decode cL_makes 366 = .ok (.ifCond .ne 63, 3) := by decide +kernel
theorem dL_makes_369 : decode cL_makes 369 = .ok (.aload_n 1, 1) := by decide +kernel
theorem dL_makes_370 : decode cL_makes 370 = .ok (.iconst 1, 1) := by decide +kernel
theorem dL_makes_371 : decode cL_makes 371 = .ok (.iaload, 1) := by decide +kernel
theorem dL_makes_372 : decode cL_makes 372 = .ok (.ifCond .ne 14, 3) := by decide +kernel
theorem dL_makes_375 : decode cL_makes 375 = .ok (.iload 9, 2) := by decide +kernel
theorem dL_makes_377 : decode cL_makes 377 = .ok (.sipush (-1021), 3) := by decide +kernel
theorem dL_makes_380 : decode cL_makes 380 = .ok (.if_icmp .ne 49, 3) := by decide +kernel
theorem dL_makes_383 : decode cL_makes 383 = .ok (.goto 42, 3) := by decide +kernel
theorem dL_makes_386 : decode cL_makes 386 = .ok (.iload 9, 2) := by decide +kernel
theorem dL_makes_388 : decode cL_makes 388 = .ok (.ifCond .le 41, 3) := by decide +kernel
theorem dL_makes_391 : decode cL_makes 391 = .ok (.iload 9, 2) := by decide +kernel
theorem dL_makes_393 : decode cL_makes 393 = .ok (.sipush 256, 3) := by decide +kernel
theorem dL_makes_396 : decode cL_makes 396 = .ok (.if_icmp .ge 33, 3) := by decide +kernel
theorem dL_makes_399 : decode cL_makes 399 = .ok (.aload_n 0, 1) := by decide +kernel
theorem dL_makes_400 : decode cL_makes 400 = .ok (.iload 8, 2) := by decide +kernel
theorem dL_makes_402 : decode cL_makes 402 = .ok (.iload 9, 2) := by decide +kernel
theorem dL_makes_404 : decode cL_makes 404 = .ok (.invokevirtual 30, 3) := by decide +kernel
theorem dL_makes_407 : decode cL_makes 407 = .ok (.iload 7, 2) := by decide +kernel
theorem dL_makes_409 : decode cL_makes 409 = .ok (.if_icmp .ne 20, 3) := by decide +kernel
theorem dL_makes_412 : decode cL_makes 412 = .ok (.aload_n 0, 1) := by decide +kernel
theorem dL_makes_413 : decode cL_makes 413 = .ok (.iload 8, 2) := by decide +kernel
theorem dL_makes_415 : decode cL_makes 415 = .ok (.iload 7, 2) := by decide +kernel
theorem dL_makes_417 : decode cL_makes 417 = .ok (.invokevirtual 30, 3) := by decide +kernel
theorem dL_makes_420 : decode cL_makes 420 = .ok (.iload 9, 2) := by decide +kernel
theorem dL_makes_422 : decode cL_makes 422 = .ok (.if_icmp .ne 7, 3) := by decide +kernel
theorem dL_makes_425 : decode cL_makes 425 = .ok (.iconst 1, 1) := by decide +kernel
theorem dL_makes_426 : decode cL_makes 426 = .ok (.goto 4, 3) := by decide +kernel
theorem dL_makes_429 : decode cL_makes 429 = .ok (.iconst 0, 1) := by decide +kernel
theorem dL_makes_430 : decode cL_makes 430 = .ok (.ireturn, 1) := by decide +kernel
set_option maxRecDepth 20000 in
theorem ggL_begins_L_all : GoodIn wsL_begins wsL_all := goodIn_ca (goodIn_r _ [4, 5, 6, 7, 8, 9, 10, 11, 12, 13, 14, 15, 16, 17, 18, 19, 20, 21, 22, 23, 24, 25, 26, 27, 28, 29, 30, 31, 32, 33, 34, 35, 36, 37, 38, 39, 40, 41, 42, 43, 44, 45, 46, 47, 48, 49, 50, 51, 52, 53, 54, 55, 56, 57, 58, 59, 60, 61, 62, 63, 64, 65, 66, 67, 68, 69, 70, 71, 72, 73, 74, 75, 76, 77, 78, 79, 296, 297, 298, 299, 300, 301, 302, 303, 304, 305, 306, 307, 308, 309, 310, 311, 312, 313] (by decide +kernel) (by decide +kernel)) (goodIn_sub (fun _ h => List.mem_cons_of_mem _ (List.mem_append_left _ (List.mem_append_left _ (List.mem_append_right _ h)))) (by decide +kernel))
set_option maxRecDepth 20000 in
theorem gL_begins_L_all : GoodIn wsL_begins (va_wsS RL 99 yL_all wsL_all) := goodIn_app (goodIn_of _ (by decide +kernel)) ggL_begins_L_all
set_option maxRecDepth 20000 in
theorem ggL_begins_L_some : GoodIn wsL_begins wsL_some := goodIn_r _ [82] (by decide +kernel) (by decide +kernel)
set_option maxRecDepth 20000 in
theorem gL_begins_L_some : GoodIn wsL_begins (va_wsS RL 103 yL_some wsL_some) := goodIn_app (goodIn_of _ (by decide +kernel)) ggL_begins_L_some
set_option maxRecDepth 20000 in
theorem ggL_begins_L_call : GoodIn wsL_begins wsL_call := goodIn_ca (goodIn_ca (goodIn_ca (goodIn_r _ [85, 86, 87, 88, 89, 90, 3, 91, 92, 93, 94, 15, 95, 96, 97, 98, 99, 100, 101, 102, 103, 104, 105, 106, 107, 108, 109, 110, 111, 112, 113, 114, 115, 116, 117, 118, 119, 120, 121, 122, 123, 44, 124, 125, 48, 126, 127, 128, 129, 130, 131, 132, 133, 134, 135, 136, 137, 138, 139, 140, 141, 142, 143, 144, 145, 146, 147, 148, 149, 150, 151, 40, 41, 42, 43, 22, 23, 152, 153, 154, 155, 156, 24, 157, 158, 75, 69, 70, 71, 159, 160, 161, 162, 163, 164, 53, 54, 55, 56, 57, 58, 45, 46, 47, 49, 50, 51, 52, 165, 166, 167, 168, 169, 170, 171, 172, 173, 174, 175, 176, 177, 178, 179, 180, 181, 182, 183, 184, 185, 186, 187, 188, 189, 190, 191, 78, 79, 192, 193, 77, 194, 195, 196, 197, 198, 199, 200, 201, 202, 18, 19, 20, 21, 203, 204, 205, 206, 207, 208, 209, 210, 211, 212, 213, 214, 215, 216, 217, 218, 219, 220, 221, 222, 223, 224, 225, 226, 227, 228, 229, 230, 231, 232, 233, 234, 17, 235, 236, 237, 238, 239, 240, 241, 242, 243, 244, 245, 246, 247, 248, 249, 250, 68, 251, 252, 253, 254, 255, 256, 257, 258, 259, 260, 261, 262, 263, 264, 265, 266, 267, 12, 13, 14, 16, 30, 31, 32, 33, 34, 35, 25, 26, 27, 28, 29, 268, 269, 270, 271, 272, 273, 274, 275, 276, 277, 278, 279, 280, 281, 282, 283, 284, 285, 286, 287, 288, 289, 290, 291, 292, 293, 294, 295, 36, 37, 38, 39, 59, 60, 61, 62, 63, 64, 65, 66, 67, 72, 73, 74, 76, 305, 306, 307, 308, 309, 310, 314, 315, 316, 317, 311, 312, 313, 318, 319, 320, 296, 297, 298, 299, 300, 301, 302, 303, 304] (by decide +kernel) (by decide +kernel)) (goodIn_sub (fun _ h => List.mem_cons_of_mem _ (List.mem_append_left _ (List.mem_append_right _ h))) (by decide +kernel))) (goodIn_sub (fun _ h => List.mem_cons_of_mem _ (List.mem_append_right _ h)) (by decide +kernel))) (goodIn_sub (fun _ h => List.mem_cons_of_mem _ (List.mem_append_left _ (List.mem_append_left _ (List.mem_append_right _ h)))) (by decide +kernel))
set_option maxRecDepth 20000 in
theorem gL_begins_L_call : GoodIn wsL_begins (va_wsS RL 92 yL_call wsL_call) := goodIn_app (goodIn_of _ (by decide +kernel)) ggL_begins_L_call
set_option maxRecDepth 20000 in
theorem ggL_begins_X4_can : GoodIn wsL_begins wsX4_can := goodIn_ca (goodIn_r _ [202, 18, 19, 20, 15, 21, 22, 23, 24, 203, 204, 205, 206, 207, 208, 75, 209, 77, 191, 192, 193, 210, 211, 212, 213, 214, 215, 216, 217, 218, 173, 174, 219, 220, 221, 128, 222, 137, 138, 139, 223, 224, 225, 104, 226, 117, 115, 179, 180, 181, 182, 116, 183, 184, 227, 228, 229, 230, 114, 305, 306, 307, 308, 309, 310, 296, 297, 298, 299, 300, 301, 302, 303, 304, 318, 319, 320, 314, 315, 316, 317] (by decide +kernel) (by decide +kernel)) (goodIn_sub (fun _ h => List.mem_cons_of_mem _ (List.mem_append_left _ (List.mem_append_left _ (List.mem_append_right _ h)))) (by decide +kernel))
set_option maxRecDepth 20000 in
theorem gL_begins_X4_can : GoodIn wsL_begins (wsV RL 37 RX4 yX4_can wsX4_can) := goodIn_app (goodIn_of _ (by decide +kernel)) ggL_begins_X4_can
set_option maxRecDepth 20000 in
theorem ggL_begins_X4_state : GoodIn wsL_begins wsX4_state := goodIn_ca (goodIn_r _ [16, 17, 18, 19, 20, 15, 21, 22, 23, 24, 296, 297, 298, 299, 300, 301, 302, 303, 304, 305, 306, 307, 308, 309, 310] (by decide +kernel) (by decide +kernel)) (goodIn_sub (fun _ h => List.mem_cons_of_mem _ (List.mem_append_left _ (List.mem_append_left _ (List.mem_append_right _ h)))) (by decide +kernel))
set_option maxRecDepth 20000 in
theorem gL_begins_X4_state : GoodIn wsL_begins (wsV RL 48 RX4 yX4_state wsX4_state) := goodIn_app (goodIn_of _ (by decide +kernel)) ggL_begins_X4_state
set_option maxRecDepth 20000 in
theorem ggL_begins_X4_made : GoodIn wsL_begins wsX4_made := goodIn_ca (goodIn_r _ [28, 29, 18, 19, 20, 15, 21, 22, 23, 24, 296, 297, 298, 299, 300, 301, 302, 303, 304, 305, 306, 307, 308, 309, 310] (by decide +kernel) (by decide +kernel)) (goodIn_sub (fun _ h => List.mem_cons_of_mem _ (List.mem_append_left _ (List.mem_append_left _ (List.mem_append_right _ h)))) (by decide +kernel))
set_option maxRecDepth 20000 in
theorem gL_begins_X4_made : GoodIn wsL_begins (wsV RL 56 RX4 yX4_made wsX4_made) := goodIn_app (goodIn_of _ (by decide +kernel)) ggL_begins_X4_made
set_option maxRecDepth 20000 in
theorem ggL_begins_X4_pieces : GoodIn wsL_begins wsX4_pieces := goodIn_ca (goodIn_r _ [33, 34, 35, 18, 19, 20, 15, 21, 22, 23, 24, 296, 297, 298, 299, 300, 301, 302, 303, 304, 305, 306, 307, 308, 309, 310] (by decide +kernel) (by decide +kernel)) (goodIn_sub (fun _ h => List.mem_cons_of_mem _ (List.mem_append_left _ (List.mem_append_left _ (List.mem_append_right _ h)))) (by decide +kernel))
set_option maxRecDepth 20000 in
theorem gL_begins_X4_pieces : GoodIn wsL_begins (wsV RL 52 RX4 yX4_pieces wsX4_pieces) := goodIn_app (goodIn_of _ (by decide +kernel)) ggL_begins_X4_pieces
set_option maxRecDepth 20000 in
theorem ggL_begins_X4_isBanned : GoodIn wsL_begins wsX4_isBanned := goodIn_ca (goodIn_r _ [39, 40, 41, 42, 15, 43, 22, 23, 44, 45, 46, 47, 48, 49, 50, 51, 52, 53, 54, 55, 56, 57, 58, 305, 306, 307, 308, 309, 310, 311, 312, 313] (by decide +kernel) (by decide +kernel)) (goodIn_sub (fun _ h => List.mem_cons_of_mem _ (List.mem_append_left _ (List.mem_append_left _ (List.mem_append_right _ h)))) (by decide +kernel))
set_option maxRecDepth 20000 in
theorem gL_begins_X4_isBanned : GoodIn wsL_begins (wsV RL 68 RX4 yX4_isBanned wsX4_isBanned) := goodIn_app (goodIn_of _ (by decide +kernel)) ggL_begins_X4_isBanned
theorem dL_begins_0 : decode cL_begins 0 = .ok (.aload_n 0, 1) := by decide +kernel
theorem dL_begins_1 : decode cL_begins 1 = .ok (.aload_n 1, 1) := by decide +kernel
theorem dL_begins_2 : decode cL_begins 2 = .ok (.invokestatic 99, 3) := by decide +kernel
theorem dL_begins_5 : decode cL_begins 5 = .ok (.lstore 4, 2) := by decide +kernel
theorem dL_begins_7 : decode cL_begins 7 = .ok (.iload_n 2, 1) := by decide +kernel
theorem dL_begins_8 : decode cL_begins 8 = .ok (.aload_n 1, 1) := by decide +kernel
theorem dL_begins_9 : decode cL_begins 9 = .ok (.iconst 1, 1) := by decide +kernel
theorem dL_begins_10 : decode cL_begins 10 = .ok (.iaload, 1) := by decide +kernel
theorem dL_begins_11 : decode cL_begins 11 = .ok (.ifCond .ne 7, 3) := by decide +kernel
theorem dL_begins_14 : decode cL_begins 14 = .ok (.iconst 1, 1) := by decide +kernel
theorem dL_begins_15 : decode cL_begins 15 = .ok (.goto 6, 3) := by decide +kernel
theorem dL_begins_18 : decode cL_begins 18 = .ok (.aload_n 1, 1) := by decide +kernel
theorem dL_begins_19 : decode cL_begins 19 = .ok (.iconst 1, 1) := by decide +kernel
theorem dL_begins_20 : decode cL_begins 20 = .ok (.iaload, 1) := by decide +kernel
theorem dL_begins_21 : decode cL_begins 21 = .ok (.invokestatic 103, 3) := by decide +kernel
theorem dL_begins_24 : decode cL_begins 24 = .ok (.istore 6, 2) := by decide +kernel
theorem dL_begins_26 : decode cL_begins 26 = .ok (.iload_n 2, 1) := by decide +kernel
theorem dL_begins_27 : decode cL_begins 27 = .ok (.iconst 3, 1) := by decide +kernel
theorem dL_begins_28 : decode cL_begins 28 = .ok (.ishr, 1) := by decide +kernel
theorem dL_begins_29 : decode cL_begins 29 = .ok (.iconst 5, 1) := by decide +kernel
theorem dL_begins_30 : decode cL_begins 30 = .ok (.invokestatic 103, 3) := by decide +kernel
theorem dL_begins_33 : decode cL_begins 33 = .ok (.istore 7, 2) := by decide +kernel
theorem dL_begins_35 : decode cL_begins 35 = .ok (.iconst 0, 1) := by decide +kernel
theorem dL_begins_36 : decode cL_begins 36 = .ok (.istore 8, 2) := by decide +kernel
theorem dL_begins_38 : decode cL_begins 38 = .ok (.iconst 0, 1) := by decide +kernel
theorem dL_begins_39 : decode cL_begins 39 = .ok (.istore 9, 2) := by decide +kernel
theorem dL_begins_41 : decode cL_begins 41 = .ok (.iconst 0, 1) := by decide +kernel
theorem dL_begins_42 : decode cL_begins 42 = .ok (.istore 10, 2) := by decide +kernel
theorem dL_begins_44 : decode cL_begins 44 = .ok (.iload 10, 2) := by decide +kernel
theorem dL_begins_46 : decode cL_begins 46 = .ok (.iconst 5, 1) := by decide +kernel
theorem dL_begins_47 : decode cL_begins 47 = .ok (.if_icmp .ge 47, 3) := by decide +kernel
theorem dL_begins_50 : decode cL_begins 50 = .ok (.iload 8, 2) := by decide +kernel
theorem dL_begins_52 : decode cL_begins 52 = .ok (.iconst 1, 1) := by decide +kernel
theorem dL_begins_53 : decode cL_begins 53 = .ok (.iload_n 3, 1) := by decide +kernel
theorem dL_begins_54 : decode cL_begins 54 = .ok (.iconst 3, 1) := by decide +kernel
theorem dL_begins_55 : decode cL_begins 55 = .ok (.iload 10, 2) := by decide +kernel
theorem dL_begins_57 : decode cL_begins 57 = .ok (.imul, 1) := by decide +kernel
theorem dL_begins_58 : decode cL_begins 58 = .ok (.ishr, 1) := by decide +kernel
theorem dL_begins_59 : decode cL_begins 59 = .ok (.bipush 25, 2) := by decide +kernel
theorem dL_begins_61 : decode cL_begins 61 = .ok (.invokestatic 103, 3) := by decide +kernel
theorem dL_begins_64 : decode cL_begins 64 = .ok (.ishl, 1) := by decide +kernel
theorem dL_begins_65 : decode cL_begins 65 = .ok (.ior, 1) := by decide +kernel
theorem dL_begins_66 : decode cL_begins 66 = .ok (.istore 8, 2) := by decide +kernel
theorem dL_begins_68 : decode cL_begins 68 = .ok (.iload 9, 2) := by decide +kernel
theorem dL_begins_70 : decode cL_begins 70 = .ok (.iconst 1, 1) := by decide +kernel
theorem dL_begins_71 : decode cL_begins 71 = .ok (.iload_n 3, 1) := by decide +kernel
theorem dL_begins_72 : decode cL_begins 72 = .ok (.iconst 3, 1) := by decide +kernel
theorem dL_begins_73 : decode cL_begins 73 = .ok (.iload 10, 2) := by decide +kernel
theorem dL_begins_75 : decode cL_begins 75 = .ok (.imul, 1) := by decide +kernel
theorem dL_begins_76 : decode cL_begins 76 = .ok (.iconst 5, 1) := by decide +kernel
theorem dL_begins_77 : decode cL_begins 77 = .ok (.iadd, 1) := by decide +kernel
theorem dL_begins_78 : decode cL_begins 78 = .ok (.ishr, 1) := by decide +kernel
theorem dL_begins_79 : decode cL_begins 79 = .ok (.bipush 25, 2) := by decide +kernel
theorem dL_begins_81 : decode cL_begins 81 = .ok (.invokestatic 103, 3) := by decide +kernel
theorem dL_begins_84 : decode cL_begins 84 = .ok (.ishl, 1) := by decide +kernel
theorem dL_begins_85 : decode cL_begins 85 = .ok (.ior, 1) := by decide +kernel
theorem dL_begins_86 : decode cL_begins 86 = .ok (.istore 9, 2) := by decide +kernel
theorem dL_begins_88 : decode cL_begins 88 = .ok (.iinc 10 1, 3) := by decide +kernel
theorem dL_begins_91 : decode cL_begins 91 = .ok (.goto (-47), 3) := by decide +kernel
theorem dL_begins_94 : decode cL_begins 94 = .ok (.iload 9, 2) := by decide +kernel
theorem dL_begins_96 : decode cL_begins 96 = .ok (.iload 8, 2) := by decide +kernel
theorem dL_begins_98 : decode cL_begins 98 = .ok (.iconst (-1), 1) := by decide +kernel
theorem dL_begins_99 : decode cL_begins 99 = .ok (.ixor, 1) := by decide +kernel
theorem dL_begins_100 : decode cL_begins 100 = .ok (.iand, 1) := by decide +kernel
theorem dL_begins_101 : decode cL_begins 101 = .ok (.istore 9, 2) := by decide +kernel
theorem dL_begins_103 : decode cL_begins 103 = .ok (.aload_n 0, 1) := by decide +kernel
theorem dL_begins_104 : decode cL_begins 104 = .ok (.iconst 3, 1) := by decide +kernel
theorem dL_begins_105 : decode cL_begins 105 = .ok (.iload 6, 2) := by decide +kernel
theorem dL_begins_107 : decode cL_begins 107 = .ok (.iload 7, 2) := by decide +kernel
theorem dL_begins_109 : decode cL_begins 109 = .ok (.iload 7, 2) := by decide +kernel
theorem dL_begins_111 : decode cL_begins 111 = .ok (.iconst 1, 1) := by decide +kernel
theorem dL_begins_112 : decode cL_begins 112 = .ok (.iadd, 1) := by decide +kernel
theorem dL_begins_113 : decode cL_begins 113 = .ok (.iload_n 2, 1) := by decide +kernel
theorem dL_begins_114 : decode cL_begins 114 = .ok (.bipush 6, 2) := by decide +kernel
theorem dL_begins_116 : decode cL_begins 116 = .ok (.ishr, 1) := by decide +kernel
theorem dL_begins_117 : decode cL_begins 117 = .ok (.iconst 4, 1) := by decide +kernel
theorem dL_begins_118 : decode cL_begins 118 = .ok (.invokestatic 103, 3) := by decide +kernel
theorem dL_begins_121 : decode cL_begins 121 = .ok (.iadd, 1) := by decide +kernel
theorem dL_begins_122 : decode cL_begins 122 = .ok (.iconst 5, 1) := by decide +kernel
theorem dL_begins_123 : decode cL_begins 123 = .ok (.irem, 1) := by decide +kernel
theorem dL_begins_124 : decode cL_begins 124 = .ok (.iload 8, 2) := by decide +kernel
theorem dL_begins_126 : decode cL_begins 126 = .ok (.iload 9, 2) := by decide +kernel
theorem dL_begins_128 : decode cL_begins 128 = .ok (.invokestatic 92, 3) := by decide +kernel
theorem dL_begins_131 : decode cL_begins 131 = .ok (.istore 10, 2) := by decide +kernel
theorem dL_begins_133 : decode cL_begins 133 = .ok (.iload 10, 2) := by decide +kernel
theorem dL_begins_135 : decode cL_begins 135 = .ok (.ifCond .ge 53, 3) := by decide +kernel
theorem dL_begins_138 : decode cL_begins 138 = .ok (.aload_n 0, 1) := by decide +kernel
theorem dL_begins_139 : decode cL_begins 139 = .ok (.aload_n 1, 1) := by decide +kernel
theorem dL_begins_140 : decode cL_begins 140 = .ok (.invokestatic 99, 3) := by decide +kernel
theorem dL_begins_143 : decode cL_begins 143 = .ok (.lload 4, 2) := by decide +kernel
theorem dL_begins_145 : decode cL_begins 145 = .ok (.lcmp, 1) := by decide +kernel
theorem dL_begins_146 : decode cL_begins 146 = .ok (.ifCond .ne 40, 3) := by decide +kernel
theorem dL_begins_149 : decode cL_begins 149 = .ok (.iload 10, 2) := by decide +kernel
theorem dL_begins_151 : decode cL_begins 151 = .ok (.sipush (-1021), 3) := by decide +kernel
theorem dL_begins_154 : decode cL_begins 154 = .ok (.if_icmp .ne 12, 3) := by decide +kernel
theorem dL_begins_157 : decode cL_begins 157 = .ok (.aload_n 1, 1) := by decide +kernel
theorem dL_begins_158 : decode cL_begins 158 = .ok (.iconst 1, 1) := by decide +kernel
theorem dL_begins_159 : decode cL_begins 159 = .ok (.iaload, 1) := by decide +kernel
theorem dL_begins_160 : decode cL_begins 160 = .ok (.ifCond .ne 26, 3) := by decide +kernel
theorem dL_begins_163 : decode cL_begins 163 = .ok (.goto 19, 3) := by decide +kernel
theorem dL_begins_166 : decode cL_begins 166 = .ok (.iload 10, 2) := by decide +kernel
theorem dL_begins_168 : decode cL_begins 168 = .ok (.sipush (-1022), 3) := by decide +kernel
theorem dL_begins_171 : decode cL_begins 171 = .ok (.if_icmp .eq 11, 3) := by decide +kernel
theorem dL_begins_174 : decode cL_begins 174 = .ok (.iload 10, 2) := by decide +kernel
theorem dL_begins_176 : decode cL_begins 176 = .ok (.sipush (-1023), 3) := by decide +kernel
theorem dL_begins_179 : decode cL_begins 179 = .ok (.if_icmp .ne 7, 3) := by decide +kernel
theorem dL_begins_182 : decode cL_begins 182 = .ok (.iconst 1, 1) := by decide +kernel
theorem dL_begins_183 : decode cL_begins 183 = .ok (.goto 4, 3) := by decide +kernel
theorem dL_begins_186 : decode cL_begins 186 = .ok (.iconst 0, 1) := by decide +kernel
theorem dL_begins_187 : decode cL_begins 187 = .ok (.ireturn, 1) := by decide +kernel
theorem dL_begins_188 : decode cL_begins 188 = .ok (.aload_n 1, 1) := by decide +kernel
theorem dL_begins_189 : decode cL_begins 189 = .ok (.iconst 2, 1) := by decide +kernel
theorem dL_begins_190 : decode cL_begins 190 = .ok (.dup2, 1) := by decide +kernel
theorem dL_begins_191 : decode cL_begins 191 = .ok (.iaload, 1) := by decide +kernel
theorem dL_begins_192 : decode cL_begins 192 = .ok (.iconst 1, 1) := by decide +kernel
theorem dL_begins_193 : decode cL_begins 193 = .ok (.iadd, 1) := by decide +kernel
theorem dL_begins_194 : decode cL_begins 194 = .ok (.iastore, 1) := by decide +kernel
theorem dL_begins_195 : decode cL_begins 195 = .ok (.iconst 0, 1) := by decide +kernel
theorem dL_begins_196 : decode cL_begins 196 = .ok (.istore 11, 2) := by decide +kernel
theorem dL_begins_198 : decode cL_begins 198 = .ok (.iconst 0, 1) := by decide +kernel
theorem dL_begins_199 : decode cL_begins 199 = .ok (.istore 12, 2) := by decide +kernel
theorem dL_begins_201 : decode cL_begins 201 = .ok (.iload 12, 2) := by decide +kernel
theorem dL_begins_203 : decode cL_begins 203 = .ok (.sipush 625, 3) := by decide +kernel
theorem dL_begins_206 : decode cL_begins 206 = .ok (.if_icmp .ge 54, 3) := by decide +kernel
theorem dL_begins_209 : decode cL_begins 209 = .ok (.iload 11, 2) := by decide +kernel
theorem dL_begins_211 : decode cL_begins 211 = .ok (.ifCond .ne 49, 3) := by decide +kernel
theorem dL_begins_214 : decode cL_begins 214 = .ok (.iload 8, 2) := by decide +kernel
theorem dL_begins_216 : decode cL_begins 216 = .ok (.iload 12, 2) := by decide +kernel
theorem dL_begins_218 : decode cL_begins 218 = .ok (.bipush 25, 2) := by decide +kernel
theorem dL_begins_220 : decode cL_begins 220 = .ok (.idiv, 1) := by decide +kernel
theorem dL_begins_221 : decode cL_begins 221 = .ok (.ishr, 1) := by decide +kernel
theorem dL_begins_222 : decode cL_begins 222 = .ok (.iconst 1, 1) := by decide +kernel
theorem dL_begins_223 : decode cL_begins 223 = .ok (.iand, 1) := by decide +kernel
theorem dL_begins_224 : decode cL_begins 224 = .ok (.iconst 1, 1) := by decide +kernel
theorem dL_begins_225 : decode cL_begins 225 = .ok (.if_icmp .ne 26, 3) := by decide +kernel
theorem dL_begins_228 : decode cL_begins 228 = .ok (.aload_n 0, 1) := by decide +kernel
theorem dL_begins_229 : decode cL_begins 229 = .ok (.iload 10, 2) := by decide +kernel
theorem dL_begins_231 : decode cL_begins 231 = .ok (.iload 12, 2) := by decide +kernel
theorem dL_begins_233 : decode cL_begins 233 = .ok (.bipush 25, 2) := by decide +kernel
theorem dL_begins_235 : decode cL_begins 235 = .ok (.idiv, 1) := by decide +kernel
theorem dL_begins_236 : decode cL_begins 236 = .ok (.iload 12, 2) := by decide +kernel
theorem dL_begins_238 : decode cL_begins 238 = .ok (.bipush 25, 2) := by decide +kernel
theorem dL_begins_240 : decode cL_begins 240 = .ok (.irem, 1) := by decide +kernel
theorem dL_begins_241 : decode cL_begins 241 = .ok (.invokevirtual 37, 3) := by decide +kernel
theorem dL_begins_244 : decode cL_begins 244 = .ok (.ifCond .eq 7, 3) := by decide +kernel
theorem dL_begins_247 : decode cL_begins 247 = .ok (.iconst 1, 1) := by decide +kernel
theorem dL_begins_248 : decode cL_begins 248 = .ok (.goto 4, 3) := by decide +kernel
theorem dL_begins_251 : decode cL_begins 251 = .ok (.iconst 0, 1) := by decide +kernel
theorem dL_begins_252 : decode cL_begins 252 = .ok (.istore 11, 2) := by decide +kernel
theorem dL_begins_254 : decode cL_begins 254 = .ok (.iinc 12 1, 3) := by decide +kernel
theorem dL_begins_257 : decode cL_begins 257 = .ok (.goto (-56), 3) := by decide +kernel
theorem dL_begins_260 : decode cL_begins 260 = .ok (.iload 10, 2) := by decide +kernel
theorem dL_begins_262 : decode cL_begins 262 = .ok (.aload_n 1, 1) := by decide +kernel
theorem dL_begins_263 : decode cL_begins 263 = .ok (.iconst 2, 1) := by decide +kernel
theorem dL_begins_264 : decode cL_begins 264 = .ok (.iaload, 1) := by decide +kernel
theorem dL_begins_265 : decode cL_begins 265 = .ok (.iconst 1, 1) := by decide +kernel
theorem dL_begins_266 : decode cL_begins 266 = .ok (.isub, 1) := by decide +kernel
theorem dL_begins_267 : decode cL_begins 267 = .ok (.if_icmp .ne 63, 3) := by decide +kernel
theorem dL_begins_270 : decode cL_begins 270 = .ok (.iload 11, 2) := by decide +kernel
theorem dL_begins_272 : decode cL_begins 272 = .ok (.ifCond .eq 58, 3) := by decide +kernel
theorem dL_begins_275 : decode cL_begins 275 = .ok (.aload_n 0, 1) := by decide +kernel
theorem dL_begins_276 : decode cL_begins 276 = .ok (.iload 10, 2) := by decide +kernel
theorem dL_begins_278 : decode cL_begins 278 = .ok (.invokevirtual 48, 3) := by decide +kernel
theorem dL_begins_281 : decode cL_begins 281 = .ok (.ifCond .ne 49, 3) := by decide +kernel
theorem dL_begins_284 : decode cL_begins 284 = .ok (.aload_n 0, 1) := by decide +kernel
theorem dL_begins_285 : decode cL_begins 285 = .ok (.iload 10, 2) := by decide +kernel
theorem dL_begins_287 : decode cL_begins 287 = .ok (.invokevirtual 56, 3) := by decide +kernel
theorem dL_begins_290 : decode cL_begins 290 = .ok (.ifCond .ne 40, 3) := by decide +kernel
theorem dL_begins_293 : decode cL_begins 293 = .ok (.aload_n 0, 1) := by decide +kernel
theorem dL_begins_294 : decode cL_begins 294 = .ok (.iload 10, 2) := by decide +kernel
theorem dL_begins_296 : decode cL_begins 296 = .ok (.iconst 0, 1) := by decide +kernel
theorem dL_begins_297 : decode cL_begins 297 = .ok (.invokevirtual 52, 3) := by decide +kernel
theorem dL_begins_300 : decode cL_begins 300 = .ok (.iload 8, 2) := by decide +kernel
theorem dL_begins_302 : decode cL_begins 302 = .ok (.if_icmp .ne 28, 3) := by decide +kernel
theorem dL_begins_305 : decode cL_begins 305 = .ok (.aload_n 0, 1) := by decide +kernel
theorem dL_begins_306 : decode cL_begins 306 = .ok (.iload 10, 2) := by decide +kernel
theorem dL_begins_308 : decode cL_begins 308 = .ok (.iconst 1, 1) := by decide +kernel
theorem dL_begins_309 : decode cL_begins 309 = .ok (.invokevirtual 52, 3) := by decide +kernel
theorem dL_begins_312 : decode cL_begins 312 = .ok (.iload 9, 2) := by decide +kernel
theorem dL_begins_314 : decode cL_begins 314 = .ok (.if_icmp .ne 16, 3) := by decide +kernel
theorem dL_begins_317 : decode cL_begins 317 = .ok (.aload_n 0, 1) := by decide +kernel
theorem dL_begins_318 : decode cL_begins 318 = .ok (.iload 6, 2) := by decide +kernel
theorem dL_begins_320 : decode cL_begins 320 = .ok (.invokevirtual 68, 3) := by decide +kernel
theorem dL_begins_323 : decode cL_begins 323 = .ok (.ifCond .ne 7, 3) := by decide +kernel
theorem dL_begins_326 : decode cL_begins 326 = .ok (.iconst 1, 1) := by decide +kernel
theorem dL_begins_327 : decode cL_begins 327 = .ok (.goto 4, 3) := by decide +kernel
theorem dL_begins_330 : decode cL_begins 330 = .ok (.iconst 0, 1) := by decide +kernel
theorem dL_begins_331 : decode cL_begins 331 = .ok (.ireturn, 1) := by decide +kernel
