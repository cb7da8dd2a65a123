theorem dL_below_0 : decode cL_below 0 = .ok (.iload_n 0, 1) := by decide +kernel
theorem dL_below_1 : decode cL_below 1 = .ok (.ldc 7, 2) := by decide +kernel
theorem dL_below_3 : decode cL_below 3 = .ok (.iand, 1) := by decide +kernel
theorem dL_below_4 : decode cL_below 4 = .ok (.iload_n 1, 1) := by decide +kernel
theorem dL_below_5 : decode cL_below 5 = .ok (.irem, 1) := by decide +kernel
theorem dL_below_6 : decode cL_below 6 = .ok (.ireturn, 1) := by decide +kernel
theorem dL_cell_0 : decode cL_cell 0 = .ok (.iload_n 1, 1) := by decide +kernel
theorem dL_cell_1 : decode cL_cell 1 = .ok (.aload_n 0, 1) := by decide +kernel
theorem dL_cell_2 : decode cL_cell 2 = .ok (.arraylength, 1) := by decide +kernel
theorem dL_cell_3 : decode cL_cell 3 = .ok (.if_icmp .ge 9, 3) := by decide +kernel
theorem dL_cell_6 : decode cL_cell 6 = .ok (.aload_n 0, 1) := by decide +kernel
theorem dL_cell_7 : decode cL_cell 7 = .ok (.iload_n 1, 1) := by decide +kernel
theorem dL_cell_8 : decode cL_cell 8 = .ok (.iaload, 1) := by decide +kernel
theorem dL_cell_9 : decode cL_cell 9 = .ok (.goto 9, 3) := by decide +kernel
theorem dL_cell_12 : decode cL_cell 12 = .ok (.ldc 8, 2) := by decide +kernel
theorem dL_cell_14 : decode cL_cell 14 = .ok (.iload_n 1, 1) := by decide +kernel
theorem dL_cell_15 : decode cL_cell 15 = .ok (.iconst 3, 1) := by decide +kernel
theorem dL_cell_16 : decode cL_cell 16 = .ok (.iadd, 1) := by decide +kernel
theorem dL_cell_17 : decode cL_cell 17 = .ok (.imul, 1) := by decide +kernel
theorem dL_cell_18 : decode cL_cell 18 = .ok (.ireturn, 1) := by decide +kernel
set_option maxRecDepth 20000 in
theorem ggL_act_L_below : GoodIn wsL_act wsL_below := goodIn_r _ [14, 15] (by decide +kernel) (by decide +kernel)
set_option maxRecDepth 20000 in
theorem gL_act_L_below : GoodIn wsL_act (va_wsS RL 15 yL_below wsL_below) := goodIn_app (goodIn_of _ (by decide +kernel)) ggL_act_L_below
set_option maxRecDepth 20000 in
theorem ggL_act_X2_init : GoodIn wsL_act wsX2_init := goodIn_r _ [18, 19, 20, 21, 22, 23, 24, 25, 26, 27, 28, 29, 30, 31, 32, 33, 224, 225, 226, 227, 228, 229, 230, 231, 232, 233, 234, 235, 236, 237, 238] (by decide +kernel) (by decide +kernel)
set_option maxRecDepth 20000 in
theorem gL_act_X2_init : GoodIn wsL_act (wsX2_init) := ggL_act_X2_init
set_option maxRecDepth 20000 in
theorem ggL_act_X1_newDinner : GoodIn wsL_act wsX1_newDinner := goodIn_ca (goodIn_r _ [38, 39, 40, 41, 37, 42, 43, 44, 45, 46, 47, 48, 49, 50, 51, 52, 53, 54, 55, 56, 57, 58, 59, 60, 61, 62, 63, 64, 65, 66, 67, 68, 69, 70, 71, 72, 73, 74, 75, 76, 77, 78, 79, 80, 81, 82, 83, 84, 85, 86, 87, 239, 240, 241, 242, 243, 244, 245, 246, 247, 248, 249, 250, 251, 252, 253, 254, 255, 256, 257] (by decide +kernel) (by decide +kernel)) (goodIn_sub (fun _ h => List.mem_cons_of_mem _ (List.mem_append_left _ (List.mem_append_left _ (List.mem_append_right _ h)))) (by decide +kernel))
set_option maxRecDepth 20000 in
theorem gL_act_X1_newDinner : GoodIn wsL_act (wsV RL 27 RX1 yX1_newDinner wsX1_newDinner) := goodIn_app (goodIn_of _ (by decide +kernel)) ggL_act_X1_newDinner
set_option maxRecDepth 20000 in
theorem ggL_act_X2_rated : GoodIn wsL_act wsX2_rated := goodIn_r _ [91, 26, 92, 93, 94, 4, 95, 96, 31, 224, 225, 226, 227, 228, 229, 230, 231, 232, 233, 234, 235, 236, 237, 238] (by decide +kernel) (by decide +kernel)
set_option maxRecDepth 20000 in
theorem gL_act_X2_rated : GoodIn wsL_act (wsV RL 33 RX2 yX2_rated wsX2_rated) := goodIn_app (goodIn_of _ (by decide +kernel)) ggL_act_X2_rated
set_option maxRecDepth 20000 in
theorem ggL_act_X1_setLimit : GoodIn wsL_act wsX1_setLimit := goodIn_ca (goodIn_r _ [100, 39, 101, 40, 41, 37, 42, 43, 44, 239, 240, 241, 242, 243, 244, 245, 246, 247, 248, 249, 250, 251, 252, 253, 254, 255, 256, 257] (by decide +kernel) (by decide +kernel)) (goodIn_sub (fun _ h => List.mem_cons_of_mem _ (List.mem_append_left _ (List.mem_append_left _ (List.mem_append_right _ h)))) (by decide +kernel))
set_option maxRecDepth 20000 in
theorem gL_act_X1_setLimit : GoodIn wsL_act (wsV RL 37 RX1 yX1_setLimit wsX1_setLimit) := goodIn_app (goodIn_of _ (by decide +kernel)) ggL_act_X1_setLimit
set_option maxRecDepth 20000 in
theorem ggL_act_X1_speak : GoodIn wsL_act wsX1_speak := goodIn_ca (goodIn_ca (goodIn_r _ [105, 39, 106, 107, 108, 37, 109, 110, 111, 112, 40, 41, 42, 43, 44, 113, 114, 115, 48, 116, 73, 80, 74, 239, 240, 241, 242, 243, 244, 245, 246, 247, 248, 249, 250, 251, 252, 253, 254, 255, 256, 257] (by decide +kernel) (by decide +kernel)) (goodIn_sub (fun _ h => List.mem_cons_of_mem _ (List.mem_append_left _ (List.mem_append_right _ h))) (by decide +kernel))) (goodIn_sub (fun _ h => List.mem_cons_of_mem _ (List.mem_append_left _ (List.mem_append_left _ (List.mem_append_right _ h)))) (by decide +kernel))
set_option maxRecDepth 20000 in
theorem gL_act_X1_speak : GoodIn wsL_act (wsV RL 50 RX1 yX1_speak wsX1_speak) := goodIn_app (goodIn_of _ (by decide +kernel)) ggL_act_X1_speak
set_option maxRecDepth 20000 in
theorem ggL_act_X1_cough : GoodIn wsL_act wsX1_cough := goodIn_ca (goodIn_ca (goodIn_r _ [120, 39, 106, 107, 108, 37, 109, 110, 111, 112, 40, 41, 42, 43, 44, 121, 122, 123, 48, 124, 81, 67, 125, 126, 127, 128, 73, 239, 240, 241, 242, 243, 244, 245, 246, 247, 248, 249, 250, 251, 252, 253, 254, 255, 256, 257] (by decide +kernel) (by decide +kernel)) (goodIn_sub (fun _ h => List.mem_cons_of_mem _ (List.mem_append_left _ (List.mem_append_right _ h))) (by decide +kernel))) (goodIn_sub (fun _ h => List.mem_cons_of_mem _ (List.mem_append_left _ (List.mem_append_left _ (List.mem_append_right _ h)))) (by decide +kernel))
set_option maxRecDepth 20000 in
theorem gL_act_X1_cough : GoodIn wsL_act (wsV RL 59 RX1 yX1_cough wsX1_cough) := goodIn_app (goodIn_of _ (by decide +kernel)) ggL_act_X1_cough
set_option maxRecDepth 20000 in
theorem ggL_act_X2_find : GoodIn wsL_act wsX2_find := goodIn_r _ [132, 25, 224, 225, 226, 227, 228, 229, 230, 231, 232, 233, 234, 235, 236, 237, 238] (by decide +kernel) (by decide +kernel)
set_option maxRecDepth 20000 in
theorem gL_act_X2_find : GoodIn wsL_act (wsV RL 62 RX2 yX2_find wsX2_find) := goodIn_app (goodIn_of _ (by decide +kernel)) ggL_act_X2_find
set_option maxRecDepth 20000 in
theorem ggL_act_X1_glance : GoodIn wsL_act wsX1_glance := goodIn_ca (goodIn_ca (goodIn_ca (goodIn_r _ [136, 39, 137, 138, 139, 37, 140, 43, 44, 141, 142, 106, 107, 108, 109, 110, 111, 112, 143, 144, 145, 146, 147, 148, 48, 149, 82, 150, 151, 152, 153, 78, 154, 155, 156, 157, 158, 159, 160, 161, 162, 51, 52, 53, 54, 50, 163, 164, 165, 239, 240, 241, 242, 243, 244, 245, 246, 247, 248, 249, 250, 251, 252, 253, 254, 255, 256, 257] (by decide +kernel) (by decide +kernel)) (goodIn_sub (fun _ h => List.mem_cons_of_mem _ (List.mem_append_left _ (List.mem_append_left _ (List.mem_append_right _ h)))) (by decide +kernel))) (goodIn_sub (fun _ h => List.mem_cons_of_mem _ (List.mem_append_right _ h)) (by decide +kernel))) (goodIn_sub (fun _ h => List.mem_cons_of_mem _ (List.mem_append_left _ (List.mem_append_right _ h))) (by decide +kernel))
set_option maxRecDepth 20000 in
theorem gL_act_X1_glance : GoodIn wsL_act (wsV RL 65 RX1 yX1_glance wsX1_glance) := goodIn_app (goodIn_of _ (by decide +kernel)) ggL_act_X1_glance
set_option maxRecDepth 20000 in
theorem ggL_act_X2_send : GoodIn wsL_act wsX2_send := goodIn_r _ [169, 25, 24, 27, 170, 171, 172, 4, 173, 26, 224, 225, 226, 227, 228, 229, 230, 231, 232, 233, 234, 235, 236, 237, 238] (by decide +kernel) (by decide +kernel)
set_option maxRecDepth 20000 in
theorem gL_act_X2_send : GoodIn wsL_act (wsV RL 68 RX2 yX2_send wsX2_send) := goodIn_app (goodIn_of _ (by decide +kernel)) ggL_act_X2_send
set_option maxRecDepth 20000 in
theorem ggL_act_X2_all : GoodIn wsL_act wsX2_all := goodIn_r _ [95, 96, 31, 224, 225, 226, 227, 228, 229, 230, 231, 232, 233, 234, 235, 236, 237, 238] (by decide +kernel) (by decide +kernel)
set_option maxRecDepth 20000 in
theorem gL_act_X2_all : GoodIn wsL_act (wsV RL 71 RX2 yX2_all wsX2_all) := goodIn_app (goodIn_of _ (by decide +kernel)) ggL_act_X2_all
set_option maxRecDepth 20000 in
theorem ggL_act_X1_pass : GoodIn wsL_act wsX1_pass := goodIn_ca (goodIn_r _ [178, 39, 40, 41, 37, 42, 43, 44, 179, 59, 60, 48, 61, 62, 63, 64, 65, 66, 50, 67, 180, 181, 182, 183, 184, 185, 186, 187, 72, 188, 189, 190, 191, 73, 75, 79, 74, 192, 193, 194, 195, 196, 197, 198, 199, 200, 78, 82, 154, 201, 202, 203, 204, 76, 77, 83, 144, 145, 205, 147, 148, 149, 206, 207, 208, 209, 239, 240, 241, 242, 243, 244, 245, 246, 247, 248, 249, 250, 251, 252, 253, 254, 255, 256, 257] (by decide +kernel) (by decide +kernel)) (goodIn_sub (fun _ h => List.mem_cons_of_mem _ (List.mem_append_left _ (List.mem_append_left _ (List.mem_append_right _ h)))) (by decide +kernel))
set_option maxRecDepth 20000 in
theorem gL_act_X1_pass : GoodIn wsL_act (wsV RL 74 RX1 yX1_pass wsX1_pass) := goodIn_app (goodIn_of _ (by decide +kernel)) ggL_act_X1_pass
set_option maxRecDepth 20000 in
theorem ggL_act_X2_behind : GoodIn wsL_act wsX2_behind := goodIn_r _ [213, 214, 215, 216, 4, 217, 23, 218, 22, 96, 28, 219, 25, 31, 220, 221, 33, 222, 223, 130, 131, 132, 224, 225, 226, 227, 228, 229, 230, 231, 232, 233, 234, 235, 236, 237, 238] (by decide +kernel) (by decide +kernel)
set_option maxRecDepth 20000 in
theorem gL_act_X2_behind : GoodIn wsL_act (wsV RL 77 RX2 yX2_behind wsX2_behind) := goodIn_app (goodIn_of _ (by decide +kernel)) ggL_act_X2_behind
theorem dL_act_0 : decode cL_act 0 = .ok (.aload_n 1, 1) := by decide +kernel
theorem dL_act_1 : decode cL_act 1 = .ok (.getfield 9, 3) := by decide +kernel
theorem dL_act_4 : decode cL_act 4 = .ok (.istore_n 3, 1) := by decide +kernel
theorem dL_act_5 : decode cL_act 5 = .ok (.iload_n 2, 1) := by decide +kernel
theorem dL_act_6 : decode cL_act 6 = .ok (.iconst 1, 1) := by decide +kernel
theorem dL_act_7 : decode cL_act 7 = .ok (.ishr, 1) := by decide +kernel
theorem dL_act_8 : decode cL_act 8 = .ok (.iload_n 3, 1) := by decide +kernel
theorem dL_act_9 : decode cL_act 9 = .ok (.invokestatic 15, 3) := by decide +kernel
theorem dL_act_12 : decode cL_act 12 = .ok (.istore 4, 2) := by decide +kernel
theorem dL_act_14 : decode cL_act 14 = .ok (.iload_n 2, 1) := by decide +kernel
theorem dL_act_15 : decode cL_act 15 = .ok (.bipush 9, 2) := by decide +kernel
theorem dL_act_17 : decode cL_act 17 = .ok (.ishr, 1) := by decide +kernel
theorem dL_act_18 : decode cL_act 18 = .ok (.bipush 20, 2) := by decide +kernel
theorem dL_act_20 : decode cL_act 20 = .ok (.invokestatic 15, 3) := by decide +kernel
theorem dL_act_23 : decode cL_act 23 = .ok (.tableswitch 410 0 13 #[69, 130, 169, 169, 169, 269, 269, 269, 354, 354, 354, 354, 354, 354], 69) := by decide +kernel
theorem dL_act_92 : decode cL_act 92 = .ok (.iload_n 2, 1) := by decide +kernel
theorem dL_act_93 : decode cL_act 93 = .ok (.iconst 3, 1) := by decide +kernel
theorem dL_act_94 : decode cL_act 94 = .ok (.invokestatic 15, 3) := by decide +kernel
theorem dL_act_97 : decode cL_act 97 = .ok (.ifCond .le 5, 3) := by decide +kernel
theorem dL_act_100 : decode cL_act 100 = .ok (.aload_n 1, 1) := by decide +kernel
theorem dL_act_101 : decode cL_act 101 = .ok (.areturn, 1) := by decide +kernel
theorem dL_act_102 : decode cL_act 102 = .ok (.new 10, 3) := by decide +kernel
theorem dL_act_105 : decode cL_act 105 = .ok (.dup, 1) := by decide +kernel
theorem dL_act_106 : decode cL_act 106 = .ok (.iconst 2, 1) := by decide +kernel
theorem dL_act_107 : decode cL_act 107 = .ok (.iload_n 2, 1) := by decide +kernel
theorem dL_act_108 : decode cL_act 108 = .ok (.iconst 2, 1) := by decide +kernel
theorem dL_act_109 : decode cL_act 109 = .ok (.ishr, 1) := by decide +kernel
theorem dL_act_110 : decode cL_act 110 = .ok (.bipush 9, 2) := by decide +kernel
theorem dL_act_112 : decode cL_act 112 = .ok (.invokestatic 15, 3) := by decide +kernel
theorem dL_act_115 : decode cL_act 115 = .ok (.iadd, 1) := by decide +kernel
theorem dL_act_116 : decode cL_act 116 = .ok (.invokespecial 21, 3) := by decide +kernel
theorem dL_act_119 : decode cL_act 119 = .ok (.astore 5, 2) := by decide +kernel
theorem dL_act_121 : decode cL_act 121 = .ok (.aload 5, 2) := by decide +kernel
theorem dL_act_123 : decode cL_act 123 = .ok (.aload_n 1, 1) := by decide +kernel
theorem dL_act_124 : decode cL_act 124 = .ok (.getfield 24, 3) := by decide +kernel
theorem dL_act_127 : decode cL_act 127 = .ok (.putfield 24, 3) := by decide +kernel
theorem dL_act_130 : decode cL_act 130 = .ok (.aload_n 0, 1) := by decide +kernel
theorem dL_act_131 : decode cL_act 131 = .ok (.aload 5, 2) := by decide +kernel
theorem dL_act_133 : decode cL_act 133 = .ok (.getfield 9, 3) := by decide +kernel
theorem dL_act_136 : decode cL_act 136 = .ok (.invokevirtual 27, 3) := by decide +kernel
theorem dL_act_139 : decode cL_act 139 = .ok (.aload_n 1, 1) := by decide +kernel
theorem dL_act_140 : decode cL_act 140 = .ok (.invokevirtual 33, 3) := by decide +kernel
theorem dL_act_143 : decode cL_act 143 = .ok (.if_icmp .ne 8, 3) := by decide +kernel
theorem dL_act_146 : decode cL_act 146 = .ok (.aload 5, 2) := by decide +kernel
theorem dL_act_148 : decode cL_act 148 = .ok (.goto 4, 3) := by decide +kernel
theorem dL_act_151 : decode cL_act 151 = .ok (.aconst_null, 1) := by decide +kernel
theorem dL_act_152 : decode cL_act 152 = .ok (.areturn, 1) := by decide +kernel
theorem dL_act_153 : decode cL_act 153 = .ok (.aload_n 1, 1) := by decide +kernel
theorem dL_act_154 : decode cL_act 154 = .ok (.getfield 24, 3) := by decide +kernel
theorem dL_act_157 : decode cL_act 157 = .ok (.istore 6, 2) := by decide +kernel
theorem dL_act_159 : decode cL_act 159 = .ok (.aload_n 1, 1) := by decide +kernel
theorem dL_act_160 : decode cL_act 160 = .ok (.iconst 1, 1) := by decide +kernel
theorem dL_act_161 : decode cL_act 161 = .ok (.iload_n 2, 1) := by decide +kernel
theorem dL_act_162 : decode cL_act 162 = .ok (.iconst 2, 1) := by decide +kernel
theorem dL_act_163 : decode cL_act 163 = .ok (.ishr, 1) := by decide +kernel
theorem dL_act_164 : decode cL_act 164 = .ok (.bipush 30, 2) := by decide +kernel
theorem dL_act_166 : decode cL_act 166 = .ok (.invokestatic 15, 3) := by decide +kernel
theorem dL_act_169 : decode cL_act 169 = .ok (.iadd, 1) := by decide +kernel
theorem dL_act_170 : decode cL_act 170 = .ok (.putfield 24, 3) := by decide +kernel
theorem dL_act_173 : decode cL_act 173 = .ok (.aload_n 0, 1) := by decide +kernel
theorem dL_act_174 : decode cL_act 174 = .ok (.aload_n 1, 1) := by decide +kernel
theorem dL_act_175 : decode cL_act 175 = .ok (.getfield 24, 3) := by decide +kernel
theorem dL_act_178 : decode cL_act 178 = .ok (.invokevirtual 37, 3) := by decide +kernel
theorem dL_act_181 : decode cL_act 181 = .ok (.iload 6, 2) := by decide +kernel
theorem dL_act_183 : decode cL_act 183 = .ok (.if_icmp .ne 7, 3) := by decide +kernel
theorem dL_act_186 : decode cL_act 186 = .ok (.aload_n 1, 1) := by decide +kernel
theorem dL_act_187 : decode cL_act 187 = .ok (.goto 4, 3) := by decide +kernel
theorem dL_act_190 : decode cL_act 190 = .ok (.aconst_null, 1) := by decide +kernel
theorem dL_act_191 : decode cL_act 191 = .ok (.areturn, 1) := by decide +kernel
theorem dL_act_192 : decode cL_act 192 = .ok (.aload_n 1, 1) := by decide +kernel
theorem dL_act_193 : decode cL_act 193 = .ok (.getfield 40, 3) := by decide +kernel
theorem dL_act_196 : decode cL_act 196 = .ok (.ifCond .lt 12, 3) := by decide +kernel
theorem dL_act_199 : decode cL_act 199 = .ok (.aload_n 1, 1) := by decide +kernel
theorem dL_act_200 : decode cL_act 200 = .ok (.getfield 40, 3) := by decide +kernel
theorem dL_act_203 : decode cL_act 203 = .ok (.iload 4, 2) := by decide +kernel
theorem dL_act_205 : decode cL_act 205 = .ok (.if_icmp .ne 7, 3) := by decide +kernel
theorem dL_act_208 : decode cL_act 208 = .ok (.iconst (-1), 1) := by decide +kernel
theorem dL_act_209 : decode cL_act 209 = .ok (.goto 7, 3) := by decide +kernel
theorem dL_act_212 : decode cL_act 212 = .ok (.aload_n 1, 1) := by decide +kernel
theorem dL_act_213 : decode cL_act 213 = .ok (.getfield 40, 3) := by decide +kernel
theorem dL_act_216 : decode cL_act 216 = .ok (.istore 7, 2) := by decide +kernel
theorem dL_act_218 : decode cL_act 218 = .ok (.aload_n 1, 1) := by decide +kernel
theorem dL_act_219 : decode cL_act 219 = .ok (.getfield 43, 3) := by decide +kernel
theorem dL_act_222 : decode cL_act 222 = .ok (.iload 4, 2) := by decide +kernel
theorem dL_act_224 : decode cL_act 224 = .ok (.dup2, 1) := by decide +kernel
theorem dL_act_225 : decode cL_act 225 = .ok (.iaload, 1) := by decide +kernel
theorem dL_act_226 : decode cL_act 226 = .ok (.iload 7, 2) := by decide +kernel
theorem dL_act_228 : decode cL_act 228 = .ok (.ifCond .ge 7, 3) := by decide +kernel
theorem dL_act_231 : decode cL_act 231 = .ok (.iconst 0, 1) := by decide +kernel
theorem dL_act_232 : decode cL_act 232 = .ok (.goto 4, 3) := by decide +kernel
theorem dL_act_235 : decode cL_act 235 = .ok (.iconst 1, 1) := by decide +kernel
theorem dL_act_236 : decode cL_act 236 = .ok (.iadd, 1) := by decide +kernel
theorem dL_act_237 : decode cL_act 237 = .ok (.iastore, 1) := by decide +kernel
theorem dL_act_238 : decode cL_act 238 = .ok (.aload_n 1, 1) := by decide +kernel
theorem dL_act_239 : decode cL_act 239 = .ok (.iload 4, 2) := by decide +kernel
theorem dL_act_241 : decode cL_act 241 = .ok (.putfield 40, 3) := by decide +kernel
theorem dL_act_244 : decode cL_act 244 = .ok (.aload_n 1, 1) := by decide +kernel
theorem dL_act_245 : decode cL_act 245 = .ok (.iconst 1, 1) := by decide +kernel
theorem dL_act_246 : decode cL_act 246 = .ok (.iload_n 2, 1) := by decide +kernel
theorem dL_act_247 : decode cL_act 247 = .ok (.iconst 4, 1) := by decide +kernel
theorem dL_act_248 : decode cL_act 248 = .ok (.ishr, 1) := by decide +kernel
theorem dL_act_249 : decode cL_act 249 = .ok (.iload_n 2, 1) := by decide +kernel
theorem dL_act_250 : decode cL_act 250 = .ok (.iconst 3, 1) := by decide +kernel
theorem dL_act_251 : decode cL_act 251 = .ok (.invokestatic 15, 3) := by decide +kernel
theorem dL_act_254 : decode cL_act 254 = .ok (.ifCond .ne 8, 3) := by decide +kernel
theorem dL_act_257 : decode cL_act 257 = .ok (.bipush 60, 2) := by decide +kernel
theorem dL_act_259 : decode cL_act 259 = .ok (.goto 5, 3) := by decide +kernel
theorem dL_act_262 : decode cL_act 262 = .ok (.bipush 6, 2) := by decide +kernel
theorem dL_act_264 : decode cL_act 264 = .ok (.invokestatic 15, 3) := by decide +kernel
theorem dL_act_267 : decode cL_act 267 = .ok (.iadd, 1) := by decide +kernel
theorem dL_act_268 : decode cL_act 268 = .ok (.putfield 47, 3) := by decide +kernel
theorem dL_act_271 : decode cL_act 271 = .ok (.aload_n 0, 1) := by decide +kernel
theorem dL_act_272 : decode cL_act 272 = .ok (.iload 4, 2) := by decide +kernel
theorem dL_act_274 : decode cL_act 274 = .ok (.aload_n 1, 1) := by decide +kernel
theorem dL_act_275 : decode cL_act 275 = .ok (.getfield 47, 3) := by decide +kernel
theorem dL_act_278 : decode cL_act 278 = .ok (.invokevirtual 50, 3) := by decide +kernel
theorem dL_act_281 : decode cL_act 281 = .ok (.iload 7, 2) := by decide +kernel
theorem dL_act_283 : decode cL_act 283 = .ok (.if_icmp .ne 7, 3) := by decide +kernel
theorem dL_act_286 : decode cL_act 286 = .ok (.aload_n 1, 1) := by decide +kernel
theorem dL_act_287 : decode cL_act 287 = .ok (.goto 4, 3) := by decide +kernel
theorem dL_act_290 : decode cL_act 290 = .ok (.aconst_null, 1) := by decide +kernel
theorem dL_act_291 : decode cL_act 291 = .ok (.areturn, 1) := by decide +kernel
theorem dL_act_292 : decode cL_act 292 = .ok (.iconst 1, 1) := by decide +kernel
theorem dL_act_293 : decode cL_act 293 = .ok (.iload_n 2, 1) := by decide +kernel
theorem dL_act_294 : decode cL_act 294 = .ok (.iconst 4, 1) := by decide +kernel
theorem dL_act_295 : decode cL_act 295 = .ok (.ishr, 1) := by decide +kernel
theorem dL_act_296 : decode cL_act 296 = .ok (.bipush 9, 2) := by decide +kernel
theorem dL_act_298 : decode cL_act 298 = .ok (.invokestatic 15, 3) := by decide +kernel
theorem dL_act_301 : decode cL_act 301 = .ok (.iadd, 1) := by decide +kernel
theorem dL_act_302 : decode cL_act 302 = .ok (.istore 8, 2) := by decide +kernel
theorem dL_act_304 : decode cL_act 304 = .ok (.aload_n 1, 1) := by decide +kernel
theorem dL_act_305 : decode cL_act 305 = .ok (.getfield 40, 3) := by decide +kernel
theorem dL_act_308 : decode cL_act 308 = .ok (.iload 4, 2) := by decide +kernel
theorem dL_act_310 : decode cL_act 310 = .ok (.if_icmp .ne 7, 3) := by decide +kernel
theorem dL_act_313 : decode cL_act 313 = .ok (.iconst 0, 1) := by decide +kernel
theorem dL_act_314 : decode cL_act 314 = .ok (.goto 19, 3) := by decide +kernel
theorem dL_act_317 : decode cL_act 317 = .ok (.aload_n 1, 1) := by decide +kernel
theorem dL_act_318 : decode cL_act 318 = .ok (.getfield 40, 3) := by decide +kernel
theorem dL_act_321 : decode cL_act 321 = .ok (.ifCond .ge 8, 3) := by decide +kernel
theorem dL_act_324 : decode cL_act 324 = .ok (.iload 8, 2) := by decide +kernel
theorem dL_act_326 : decode cL_act 326 = .ok (.goto 7, 3) := by decide +kernel
theorem dL_act_329 : decode cL_act 329 = .ok (.iload 8, 2) := by decide +kernel
theorem dL_act_331 : decode cL_act 331 = .ok (.iconst 2, 1) := by decide +kernel
theorem dL_act_332 : decode cL_act 332 = .ok (.idiv, 1) := by decide +kernel
theorem dL_act_333 : decode cL_act 333 = .ok (.istore 9, 2) := by decide +kernel
theorem dL_act_335 : decode cL_act 335 = .ok (.aload_n 1, 1) := by decide +kernel
theorem dL_act_336 : decode cL_act 336 = .ok (.getfield 53, 3) := by decide +kernel
theorem dL_act_339 : decode cL_act 339 = .ok (.iload 4, 2) := by decide +kernel
theorem dL_act_341 : decode cL_act 341 = .ok (.dup2, 1) := by decide +kernel
theorem dL_act_342 : decode cL_act 342 = .ok (.iaload, 1) := by decide +kernel
theorem dL_act_343 : decode cL_act 343 = .ok (.iconst 1, 1) := by decide +kernel
theorem dL_act_344 : decode cL_act 344 = .ok (.iadd, 1) := by decide +kernel
theorem dL_act_345 : decode cL_act 345 = .ok (.iastore, 1) := by decide +kernel
theorem dL_act_346 : decode cL_act 346 = .ok (.aload_n 1, 1) := by decide +kernel
theorem dL_act_347 : decode cL_act 347 = .ok (.getfield 56, 3) := by decide +kernel
theorem dL_act_350 : decode cL_act 350 = .ok (.iload 4, 2) := by decide +kernel
theorem dL_act_352 : decode cL_act 352 = .ok (.dup2, 1) := by decide +kernel
theorem dL_act_353 : decode cL_act 353 = .ok (.iaload, 1) := by decide +kernel
theorem dL_act_354 : decode cL_act 354 = .ok (.iload 9, 2) := by decide +kernel
theorem dL_act_356 : decode cL_act 356 = .ok (.iadd, 1) := by decide +kernel
theorem dL_act_357 : decode cL_act 357 = .ok (.iastore, 1) := by decide +kernel
theorem dL_act_358 : decode cL_act 358 = .ok (.aload_n 0, 1) := by decide +kernel
theorem dL_act_359 : decode cL_act 359 = .ok (.iload 4, 2) := by decide +kernel
theorem dL_act_361 : decode cL_act 361 = .ok (.iload 8, 2) := by decide +kernel
theorem dL_act_363 : decode cL_act 363 = .ok (.invokevirtual 59, 3) := by decide +kernel
theorem dL_act_366 : decode cL_act 366 = .ok (.iload 9, 2) := by decide +kernel
theorem dL_act_368 : decode cL_act 368 = .ok (.if_icmp .ne 7, 3) := by decide +kernel
theorem dL_act_371 : decode cL_act 371 = .ok (.aload_n 1, 1) := by decide +kernel
theorem dL_act_372 : decode cL_act 372 = .ok (.goto 4, 3) := by decide +kernel
theorem dL_act_375 : decode cL_act 375 = .ok (.aconst_null, 1) := by decide +kernel
theorem dL_act_376 : decode cL_act 376 = .ok (.areturn, 1) := by decide +kernel
theorem dL_act_377 : decode cL_act 377 = .ok (.iload 4, 2) := by decide +kernel
theorem dL_act_379 : decode cL_act 379 = .ok (.iconst 1, 1) := by decide +kernel
theorem dL_act_380 : decode cL_act 380 = .ok (.iadd, 1) := by decide +kernel
theorem dL_act_381 : decode cL_act 381 = .ok (.iload_n 2, 1) := by decide +kernel
theorem dL_act_382 : decode cL_act 382 = .ok (.iconst 4, 1) := by decide +kernel
theorem dL_act_383 : decode cL_act 383 = .ok (.ishr, 1) := by decide +kernel
theorem dL_act_384 : decode cL_act 384 = .ok (.iload_n 3, 1) := by decide +kernel
theorem dL_act_385 : decode cL_act 385 = .ok (.iconst 1, 1) := by decide +kernel
theorem dL_act_386 : decode cL_act 386 = .ok (.isub, 1) := by decide +kernel
theorem dL_act_387 : decode cL_act 387 = .ok (.invokestatic 15, 3) := by decide +kernel
theorem dL_act_390 : decode cL_act 390 = .ok (.iadd, 1) := by decide +kernel
theorem dL_act_391 : decode cL_act 391 = .ok (.iload_n 3, 1) := by decide +kernel
theorem dL_act_392 : decode cL_act 392 = .ok (.irem, 1) := by decide +kernel
theorem dL_act_393 : decode cL_act 393 = .ok (.istore 10, 2) := by decide +kernel
theorem dL_act_395 : decode cL_act 395 = .ok (.aload_n 1, 1) := by decide +kernel
theorem dL_act_396 : decode cL_act 396 = .ok (.iload 4, 2) := by decide +kernel
theorem dL_act_398 : decode cL_act 398 = .ok (.iload 10, 2) := by decide +kernel
theorem dL_act_400 : decode cL_act 400 = .ok (.invokevirtual 62, 3) := by decide +kernel
theorem dL_act_403 : decode cL_act 403 = .ok (.ifCond .lt 5, 3) := by decide +kernel
theorem dL_act_406 : decode cL_act 406 = .ok (.aload_n 1, 1) := by decide +kernel
theorem dL_act_407 : decode cL_act 407 = .ok (.areturn, 1) := by decide +kernel
theorem dL_act_408 : decode cL_act 408 = .ok (.aload_n 0, 1) := by decide +kernel
theorem dL_act_409 : decode cL_act 409 = .ok (.iload 4, 2) := by decide +kernel
theorem dL_act_411 : decode cL_act 411 = .ok (.iload 10, 2) := by decide +kernel
theorem dL_act_413 : decode cL_act 413 = .ok (.invokevirtual 65, 3) := by decide +kernel
theorem dL_act_416 : decode cL_act 416 = .ok (.aload_n 1, 1) := by decide +kernel
theorem dL_act_417 : decode cL_act 417 = .ok (.iload 4, 2) := by decide +kernel
theorem dL_act_419 : decode cL_act 419 = .ok (.iload 10, 2) := by decide +kernel
theorem dL_act_421 : decode cL_act 421 = .ok (.invokevirtual 68, 3) := by decide +kernel
theorem dL_act_424 : decode cL_act 424 = .ok (.if_icmp .ne 7, 3) := by decide +kernel
theorem dL_act_427 : decode cL_act 427 = .ok (.aload_n 1, 1) := by decide +kernel
theorem dL_act_428 : decode cL_act 428 = .ok (.goto 4, 3) := by decide +kernel
theorem dL_act_431 : decode cL_act 431 = .ok (.aconst_null, 1) := by decide +kernel
theorem dL_act_432 : decode cL_act 432 = .ok (.areturn, 1) := by decide +kernel
theorem dL_act_433 : decode cL_act 433 = .ok (.iconst 1, 1) := by decide +kernel
theorem dL_act_434 : decode cL_act 434 = .ok (.iload_n 2, 1) := by decide +kernel
theorem dL_act_435 : decode cL_act 435 = .ok (.iconst 2, 1) := by decide +kernel
theorem dL_act_436 : decode cL_act 436 = .ok (.ishr, 1) := by decide +kernel
theorem dL_act_437 : decode cL_act 437 = .ok (.iload_n 2, 1) := by decide +kernel
theorem dL_act_438 : decode cL_act 438 = .ok (.bipush 6, 2) := by decide +kernel
theorem dL_act_440 : decode cL_act 440 = .ok (.invokestatic 15, 3) := by decide +kernel
theorem dL_act_443 : decode cL_act 443 = .ok (.ifCond .ne 8, 3) := by decide +kernel
theorem dL_act_446 : decode cL_act 446 = .ok (.bipush 60, 2) := by decide +kernel
theorem dL_act_448 : decode cL_act 448 = .ok (.goto 4, 3) := by decide +kernel
theorem dL_act_451 : decode cL_act 451 = .ok (.iconst 4, 1) := by decide +kernel
theorem dL_act_452 : decode cL_act 452 = .ok (.invokestatic 15, 3) := by decide +kernel
theorem dL_act_455 : decode cL_act 455 = .ok (.iadd, 1) := by decide +kernel
theorem dL_act_456 : decode cL_act 456 = .ok (.istore 11, 2) := by decide +kernel
theorem dL_act_458 : decode cL_act 458 = .ok (.aload_n 1, 1) := by decide +kernel
theorem dL_act_459 : decode cL_act 459 = .ok (.invokevirtual 71, 3) := by decide +kernel
theorem dL_act_462 : decode cL_act 462 = .ok (.istore 12, 2) := by decide +kernel
theorem dL_act_464 : decode cL_act 464 = .ok (.aload_n 0, 1) := by decide +kernel
theorem dL_act_465 : decode cL_act 465 = .ok (.iload 11, 2) := by decide +kernel
theorem dL_act_467 : decode cL_act 467 = .ok (.invokevirtual 74, 3) := by decide +kernel
theorem dL_act_470 : decode cL_act 470 = .ok (.aload_n 1, 1) := by decide +kernel
theorem dL_act_471 : decode cL_act 471 = .ok (.iload 11, 2) := by decide +kernel
theorem dL_act_473 : decode cL_act 473 = .ok (.invokevirtual 77, 3) := by decide +kernel
theorem dL_act_476 : decode cL_act 476 = .ok (.invokevirtual 71, 3) := by decide +kernel
theorem dL_act_479 : decode cL_act 479 = .ok (.iload 12, 2) := by decide +kernel
theorem dL_act_481 : decode cL_act 481 = .ok (.isub, 1) := by decide +kernel
theorem dL_act_482 : decode cL_act 482 = .ok (.if_icmp .ne 7, 3) := by decide +kernel
theorem dL_act_485 : decode cL_act 485 = .ok (.aload_n 1, 1) := by decide +kernel
theorem dL_act_486 : decode cL_act 486 = .ok (.goto 4, 3) := by decide +kernel
theorem dL_act_489 : decode cL_act 489 = .ok (.aconst_null, 1) := by decide +kernel
theorem dL_act_490 : decode cL_act 490 = .ok (.areturn, 1) := by decide +kernel
set_option maxRecDepth 20000 in
theorem ggL_build_L_cell : GoodIn wsL_build wsL_cell := goodIn_r _ [8, 9] (by decide +kernel) (by decide +kernel)
set_option maxRecDepth 20000 in
theorem gL_build_L_cell : GoodIn wsL_build (va_wsS RL 81 yL_cell wsL_cell) := goodIn_app (goodIn_of _ (by decide +kernel)) ggL_build_L_cell
set_option maxRecDepth 20000 in
theorem ggL_build_L_below : GoodIn wsL_build wsL_below := goodIn_r _ [12, 13] (by decide +kernel) (by decide +kernel)
set_option maxRecDepth 20000 in
theorem gL_build_L_below : GoodIn wsL_build (va_wsS RL 15 yL_below wsL_below) := goodIn_app (goodIn_of _ (by decide +kernel)) ggL_build_L_below
set_option maxRecDepth 20000 in
theorem ggL_build_X2_init : GoodIn wsL_build wsX2_init := goodIn_r _ [16, 17, 18, 19, 20, 21, 22, 23, 24, 25, 26, 27, 28, 29, 30, 31, 231, 232, 233, 234, 235, 236, 237, 238, 239, 240, 241, 242, 243, 244, 245] (by decide +kernel) (by decide +kernel)
set_option maxRecDepth 20000 in
theorem gL_build_X2_init : GoodIn wsL_build (wsX2_init) := ggL_build_X2_init
set_option maxRecDepth 20000 in
theorem ggL_build_X1_newDinner : GoodIn wsL_build wsX1_newDinner := goodIn_ca (goodIn_r _ [36, 37, 38, 39, 35, 40, 41, 42, 43, 44, 45, 46, 47, 48, 49, 50, 51, 52, 53, 54, 55, 56, 57, 58, 59, 60, 61, 62, 63, 64, 65, 66, 67, 68, 69, 70, 71, 72, 73, 74, 75, 76, 77, 78, 79, 80, 81, 82, 83, 84, 85, 246, 247, 248, 249, 250, 251, 252, 253, 254, 255, 256, 257, 258, 259, 260, 261, 262, 263, 264] (by decide +kernel) (by decide +kernel)) (goodIn_sub (fun _ h => List.mem_cons_of_mem _ (List.mem_append_left _ (List.mem_append_left _ (List.mem_append_right _ h)))) (by decide +kernel))
set_option maxRecDepth 20000 in
theorem gL_build_X1_newDinner : GoodIn wsL_build (wsV RL 27 RX1 yX1_newDinner wsX1_newDinner) := goodIn_app (goodIn_of _ (by decide +kernel)) ggL_build_X1_newDinner
set_option maxRecDepth 20000 in
theorem ggL_build_L_act_r1 : GoodIn wsL_build (.code yL_act cL_act 13 (some (.object "PauseLedgerLaw$Sim")) :: wsL_act_r1) := goodIn_r _ [88, 4, 1, 2, 3, 89, 90, 91, 92, 93, 94, 10, 11, 7, 12, 13, 14, 15, 16, 17, 18, 19, 20, 21, 22] (by decide +kernel) (by decide +kernel)
set_option maxRecDepth 20000 in
theorem ggL_build_L_act_r2 : GoodIn wsL_build wsL_act_r2 := goodIn_r _ [23, 24, 25, 26, 27, 28, 29, 30, 31, 32, 33, 34, 35, 36, 37, 38, 39, 40, 41, 42, 43, 44, 45, 46] (by decide +kernel) (by decide +kernel)
set_option maxRecDepth 20000 in
theorem ggL_build_L_act_r3 : GoodIn wsL_build wsL_act_r3 := goodIn_r _ [47, 48, 49, 50, 51, 52, 53, 54, 55, 56, 57, 58, 59, 60, 61, 62, 63, 64, 65, 66, 67, 68, 69, 70] (by decide +kernel) (by decide +kernel)
set_option maxRecDepth 20000 in
theorem ggL_build_L_act_r4 : GoodIn wsL_build wsL_act_r4 := goodIn_r _ [71, 72, 73, 74, 75, 76, 77, 78, 79, 80, 81, 82, 83, 84, 85, 95, 96, 97, 98, 99, 100, 101, 102, 103] (by decide +kernel) (by decide +kernel)
set_option maxRecDepth 20000 in
theorem ggL_build_L_act_r5 : GoodIn wsL_build wsL_act_r5 := goodIn_r _ [104, 105, 106, 107, 108, 109, 110, 111, 112, 113, 114, 115, 116, 117, 118, 119, 120, 121, 122, 123, 124, 125, 126, 127] (by decide +kernel) (by decide +kernel)
set_option maxRecDepth 20000 in
theorem ggL_build_L_act_r6 : GoodIn wsL_build wsL_act_r6 := goodIn_r _ [128, 129, 130, 131, 132, 133, 134, 135, 136, 137, 138, 139, 140, 141, 142, 143, 144, 145, 146, 147, 148, 149, 150, 151] (by decide +kernel) (by decide +kernel)
set_option maxRecDepth 20000 in
theorem ggL_build_L_act_r7 : GoodIn wsL_build wsL_act_r7 := goodIn_r _ [152, 153, 154, 155, 156, 157, 158, 159, 160, 161, 162, 163, 164, 165, 166, 167, 168, 169, 170, 171, 172, 173, 174, 175] (by decide +kernel) (by decide +kernel)
set_option maxRecDepth 20000 in
theorem ggL_build_L_act_r8 : GoodIn wsL_build wsL_act_r8 := goodIn_r _ [176, 177, 178, 179, 180, 181, 182, 183, 184, 185, 186, 187, 188, 189, 190, 191, 192, 193, 194, 195, 196, 197, 198, 199] (by decide +kernel) (by decide +kernel)
set_option maxRecDepth 20000 in
theorem ggL_build_L_act_r9 : GoodIn wsL_build wsL_act_r9 := goodIn_r _ [200, 201, 202, 203, 204, 205, 206, 207, 208, 209, 210, 211, 212, 213, 214, 215, 216, 217, 218, 219, 220, 221, 222, 223] (by decide +kernel) (by decide +kernel)
set_option maxRecDepth 20000 in
theorem ggL_build_L_act_r10 : GoodIn wsL_build wsL_act_r10 := goodIn_r _ [224, 225, 226, 227, 228, 229, 230] (by decide +kernel) (by decide +kernel)
set_option maxRecDepth 20000 in
theorem ggL_build_L_act : GoodIn wsL_build wsL_act := goodIn_ca (goodIn_ca (goodIn_ca (goodIn_ca (goodIn_ca (goodIn_ca (goodIn_ca ggL_build_L_act_r1 (goodIn_app ggL_build_L_act_r2 (goodIn_app ggL_build_L_act_r3 (goodIn_app ggL_build_L_act_r4 (goodIn_app ggL_build_L_act_r5 (goodIn_app ggL_build_L_act_r6 (goodIn_app ggL_build_L_act_r7 (goodIn_app ggL_build_L_act_r8 (goodIn_app ggL_build_L_act_r9 (ggL_build_L_act_r10)))))))))) (goodIn_sub (fun _ h => List.mem_cons_of_mem _ (List.mem_append_left _ (List.mem_append_left _ (List.mem_append_left _ (List.mem_append_left _ (List.mem_append_left _ (List.mem_append_right _ h))))))) (by decide +kernel))) (goodIn_sub (fun _ h => List.mem_cons_of_mem _ (List.mem_append_left _ (List.mem_append_left _ (List.mem_append_left _ (List.mem_append_left _ (List.mem_append_right _ h)))))) (by decide +kernel))) (goodIn_sub (fun _ h => List.mem_cons_of_mem _ (List.mem_append_left _ (List.mem_append_left _ (List.mem_append_left _ (List.mem_append_right _ h))))) (by decide +kernel))) (goodIn_sub (fun _ h => List.mem_cons_of_mem _ (List.mem_append_left _ (List.mem_append_left _ (List.mem_append_right _ h)))) (by decide +kernel))) (goodIn_sub (fun _ h => List.mem_cons_of_mem _ (List.mem_append_left _ (List.mem_append_right _ h))) (by decide +kernel))) (goodIn_sub (fun _ h => List.mem_cons_of_mem _ (List.mem_append_right _ h)) (by decide +kernel))
set_option maxRecDepth 20000 in
theorem gL_build_L_act : GoodIn wsL_build (va_wsS RL 85 yL_act wsL_act) := goodIn_app (goodIn_of _ (by decide +kernel)) ggL_build_L_act
theorem dL_build_0 : decode cL_build 0 = .ok (.new 10, 3) := by decide +kernel
theorem dL_build_3 : decode cL_build 3 = .ok (.dup, 1) := by decide +kernel
theorem dL_build_4 : decode cL_build 4 = .ok (.iconst 2, 1) := by decide +kernel
theorem dL_build_5 : decode cL_build 5 = .ok (.aload_n 1, 1) := by decide +kernel
theorem dL_build_6 : decode cL_build 6 = .ok (.iconst 0, 1) := by decide +kernel
theorem dL_build_7 : decode cL_build 7 = .ok (.invokestatic 81, 3) := by decide +kernel
theorem dL_build_10 : decode cL_build 10 = .ok (.bipush 9, 2) := by decide +kernel
theorem dL_build_12 : decode cL_build 12 = .ok (.invokestatic 15, 3) := by decide +kernel
theorem dL_build_15 : decode cL_build 15 = .ok (.iadd, 1) := by decide +kernel
theorem dL_build_16 : decode cL_build 16 = .ok (.invokespecial 21, 3) := by decide +kernel
theorem dL_build_19 : decode cL_build 19 = .ok (.astore_n 2, 1) := by decide +kernel
theorem dL_build_20 : decode cL_build 20 = .ok (.aload_n 0, 1) := by decide +kernel
theorem dL_build_21 : decode cL_build 21 = .ok (.aload_n 2, 1) := by decide +kernel
theorem dL_build_22 : decode cL_build 22 = .ok (.getfield 9, 3) := by decide +kernel
theorem dL_build_25 : decode cL_build 25 = .ok (.invokevirtual 27, 3) := by decide +kernel
theorem dL_build_28 : decode cL_build 28 = .ok (.bipush 6, 2) := by decide +kernel
theorem dL_build_30 : decode cL_build 30 = .ok (.if_icmp .eq 5, 3) := by decide +kernel
theorem dL_build_33 : decode cL_build 33 = .ok (.aconst_null, 1) := by decide +kernel
theorem dL_build_34 : decode cL_build 34 = .ok (.areturn, 1) := by decide +kernel
theorem dL_build_35 : decode cL_build 35 = .ok (.bipush 20, 2) := by decide +kernel
theorem dL_build_37 : decode cL_build 37 = .ok (.aload_n 1, 1) := by decide +kernel
theorem dL_build_38 : decode cL_build 38 = .ok (.iconst 1, 1) := by decide +kernel
theorem dL_build_39 : decode cL_build 39 = .ok (.invokestatic 81, 3) := by decide +kernel
theorem dL_build_42 : decode cL_build 42 = .ok (.bipush 44, 2) := by decide +kernel
theorem dL_build_44 : decode cL_build 44 = .ok (.invokestatic 15, 3) := by decide +kernel
theorem dL_build_47 : decode cL_build 47 = .ok (.iadd, 1) := by decide +kernel
theorem dL_build_48 : decode cL_build 48 = .ok (.istore_n 3, 1) := by decide +kernel
theorem dL_build_49 : decode cL_build 49 = .ok (.iconst 0, 1) := by decide +kernel
theorem dL_build_50 : decode cL_build 50 = .ok (.istore 4, 2) := by decide +kernel
theorem dL_build_52 : decode cL_build 52 = .ok (.iload 4, 2) := by decide +kernel
theorem dL_build_54 : decode cL_build 54 = .ok (.iload_n 3, 1) := by decide +kernel
theorem dL_build_55 : decode cL_build 55 = .ok (.if_icmp .ge 43, 3) := by decide +kernel
theorem dL_build_58 : decode cL_build 58 = .ok (.aload_n 2, 1) := by decide +kernel
theorem dL_build_59 : decode cL_build 59 = .ok (.ifnull 39, 3) := by decide +kernel
theorem dL_build_62 : decode cL_build 62 = .ok (.aload_n 0, 1) := by decide +kernel
theorem dL_build_63 : decode cL_build 63 = .ok (.aload_n 2, 1) := by decide +kernel
theorem dL_build_64 : decode cL_build 64 = .ok (.aload_n 1, 1) := by decide +kernel
theorem dL_build_65 : decode cL_build 65 = .ok (.iload 4, 2) := by decide +kernel
theorem dL_build_67 : decode cL_build 67 = .ok (.bipush 16, 2) := by decide +kernel
theorem dL_build_69 : decode cL_build 69 = .ok (.irem, 1) := by decide +kernel
theorem dL_build_70 : decode cL_build 70 = .ok (.invokestatic 81, 3) := by decide +kernel
theorem dL_build_73 : decode cL_build 73 = .ok (.iload 4, 2) := by decide +kernel
theorem dL_build_75 : decode cL_build 75 = .ok (.bipush 16, 2) := by decide +kernel
theorem dL_build_77 : decode cL_build 77 = .ok (.idiv, 1) := by decide +kernel
theorem dL_build_78 : decode cL_build 78 = .ok (.iconst 3, 1) := by decide +kernel
theorem dL_build_79 : decode cL_build 79 = .ok (.imul, 1) := by decide +kernel
theorem dL_build_80 : decode cL_build 80 = .ok (.ishr, 1) := by decide +kernel
theorem dL_build_81 : decode cL_build 81 = .ok (.sipush 571, 3) := by decide +kernel
theorem dL_build_84 : decode cL_build 84 = .ok (.iload 4, 2) := by decide +kernel
theorem dL_build_86 : decode cL_build 86 = .ok (.imul, 1) := by decide +kernel
theorem dL_build_87 : decode cL_build 87 = .ok (.iadd, 1) := by decide +kernel
theorem dL_build_88 : decode cL_build 88 = .ok (.invokestatic 85, 3) := by decide +kernel
theorem dL_build_91 : decode cL_build 91 = .ok (.astore_n 2, 1) := by decide +kernel
theorem dL_build_92 : decode cL_build 92 = .ok (.iinc 4 1, 3) := by decide +kernel
theorem dL_build_95 : decode cL_build 95 = .ok (.goto (-43), 3) := by decide +kernel
theorem dL_build_98 : decode cL_build 98 = .ok (.aload_n 2, 1) := by decide +kernel
theorem dL_build_99 : decode cL_build 99 = .ok (.areturn, 1) := by decide +kernel
