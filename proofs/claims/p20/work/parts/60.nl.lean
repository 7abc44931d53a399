theorem dL_below_0 : decode cL_below 0 = .ok (.iload_n 0, 1) := by decide +kernel
theorem dL_below_1 : decode cL_below 1 = .ok (.ldc 7, 2) := by decide +kernel
theorem dL_below_3 : decode cL_below 3 = .ok (.iand, 1) := by decide +kernel
theorem dL_below_4 : decode cL_below 4 = .ok (.iload_n 1, 1) := by decide +kernel
theorem dL_below_5 : decode cL_below 5 = .ok (.irem, 1) := by decide +kernel
theorem dL_below_6 : decode cL_below 6 = .ok (.ireturn, 1) := by decide +kernel
theorem dL_cell_0 : decode cL_cell 0 = .ok (.iload_n 1, 1) := by decide +kernel
theorem dL_cell_1 : decode cL_cell 1 = .ok (.aload_n 0, 1) := by decide +kernel
theorem dL_cell_2 : decode cL_cell 2 = .ok (.arraylength, 1) := by decide +kernel
theorem dL_cell_3 : decode cL_cell 3 = .ok (.if_icmp .ge 9, 3) := by decide +kernel
theorem dL_cell_6 : decode cL_cell 6 = .ok (.aload_n 0, 1) := by decide +kernel
theorem dL_cell_7 : decode cL_cell 7 = .ok (.iload_n 1, 1) := by decide +kernel
theorem dL_cell_8 : decode cL_cell 8 = .ok (.iaload, 1) := by decide +kernel
theorem dL_cell_9 : decode cL_cell 9 = .ok (.goto 9, 3) := by decide +kernel
theorem dL_cell_12 : decode cL_cell 12 = .ok (.ldc 8, 2) := by decide +kernel
theorem dL_cell_14 : decode cL_cell 14 = .ok (.iload_n 1, 1) := by decide +kernel
theorem dL_cell_15 : decode cL_cell 15 = .ok (.iconst 3, 1) := by decide +kernel
theorem dL_cell_16 : decode cL_cell 16 = .ok (.iadd, 1) := by decide +kernel
theorem dL_cell_17 : decode cL_cell 17 = .ok (.imul, 1) := by decide +kernel
theorem dL_cell_18 : decode cL_cell 18 = .ok (.ireturn, 1) := by decide +kernel
set_option maxRecDepth 20000 in
theorem ggL_act_L_below : GoodIn wsL_act wsL_below := goodIn_r _ [15, 16] (by decide +kernel) (by decide +kernel)
set_option maxRecDepth 20000 in
theorem gL_act_L_below : GoodIn wsL_act (va_wsS RL 9 yL_below wsL_below) := goodIn_app (goodIn_of _ (by decide +kernel)) ggL_act_L_below
set_option maxRecDepth 20000 in
theorem ggL_act_X1_raise : GoodIn wsL_act wsX1_raise := goodIn_ca (goodIn_ca (goodIn_r _ [21, 22, 23, 24, 25, 20, 26, 27, 28, 29, 30, 31, 32, 33, 34, 35, 36, 75, 76, 77, 78, 79, 80, 81, 82, 83, 84, 85, 86, 87, 88, 89, 90, 91] (by decide +kernel) (by decide +kernel)) (goodIn_sub (fun _ h => List.mem_cons_of_mem _ (List.mem_append_left _ (List.mem_append_right _ h))) (by decide +kernel))) (goodIn_sub (fun _ h => List.mem_cons_of_mem _ (List.mem_append_right _ h)) (by decide +kernel))
set_option maxRecDepth 20000 in
theorem gL_act_X1_raise : GoodIn wsL_act (wsV RL 21 RX1 yX1_raise wsX1_raise) := goodIn_app (goodIn_of _ (by decide +kernel)) ggL_act_X1_raise
set_option maxRecDepth 20000 in
theorem ggL_act_X1_pour : GoodIn wsL_act wsX1_pour := goodIn_ca (goodIn_ca (goodIn_r _ [40, 22, 41, 42, 4, 5, 6, 24, 25, 20, 26, 27, 28, 29, 30, 31, 32, 33, 34, 35, 36, 75, 76, 77, 78, 79, 80, 81, 82, 83, 84, 85, 86, 87, 88, 89, 90, 91] (by decide +kernel) (by decide +kernel)) (goodIn_sub (fun _ h => List.mem_cons_of_mem _ (List.mem_append_left _ (List.mem_append_right _ h))) (by decide +kernel))) (goodIn_sub (fun _ h => List.mem_cons_of_mem _ (List.mem_append_right _ h)) (by decide +kernel))
set_option maxRecDepth 20000 in
theorem gL_act_X1_pour : GoodIn wsL_act (wsV RL 35 RX1 yX1_pour wsX1_pour) := goodIn_app (goodIn_of _ (by decide +kernel)) ggL_act_X1_pour
set_option maxRecDepth 20000 in
theorem ggL_act_X1_dam : GoodIn wsL_act wsX1_dam := goodIn_ca (goodIn_ca (goodIn_r _ [46, 22, 47, 48, 24, 25, 20, 26, 27, 28, 29, 30, 31, 32, 33, 34, 35, 36, 75, 76, 77, 78, 79, 80, 81, 82, 83, 84, 85, 86, 87, 88, 89, 90, 91] (by decide +kernel) (by decide +kernel)) (goodIn_sub (fun _ h => List.mem_cons_of_mem _ (List.mem_append_left _ (List.mem_append_right _ h))) (by decide +kernel))) (goodIn_sub (fun _ h => List.mem_cons_of_mem _ (List.mem_append_right _ h)) (by decide +kernel))
set_option maxRecDepth 20000 in
theorem gL_act_X1_dam : GoodIn wsL_act (wsV RL 44 RX1 yX1_dam wsX1_dam) := goodIn_app (goodIn_of _ (by decide +kernel)) ggL_act_X1_dam
set_option maxRecDepth 20000 in
theorem ggL_act_X1_drain : GoodIn wsL_act wsX1_drain := goodIn_ca (goodIn_ca (goodIn_r _ [52, 22, 53, 24, 25, 20, 26, 27, 28, 29, 30, 31, 32, 33, 34, 35, 36, 75, 76, 77, 78, 79, 80, 81, 82, 83, 84, 85, 86, 87, 88, 89, 90, 91] (by decide +kernel) (by decide +kernel)) (goodIn_sub (fun _ h => List.mem_cons_of_mem _ (List.mem_append_left _ (List.mem_append_right _ h))) (by decide +kernel))) (goodIn_sub (fun _ h => List.mem_cons_of_mem _ (List.mem_append_right _ h)) (by decide +kernel))
set_option maxRecDepth 20000 in
theorem gL_act_X1_drain : GoodIn wsL_act (wsV RL 49 RX1 yX1_drain wsX1_drain) := goodIn_app (goodIn_of _ (by decide +kernel)) ggL_act_X1_drain
set_option maxRecDepth 20000 in
theorem ggL_act_X1_settle : GoodIn wsL_act wsX1_settle := goodIn_ca (goodIn_ca (goodIn_r _ [57, 22, 58, 24, 25, 20, 26, 27, 28, 29, 30, 31, 32, 33, 34, 35, 36, 75, 76, 77, 78, 79, 80, 81, 82, 83, 84, 85, 86, 87, 88, 89, 90, 91] (by decide +kernel) (by decide +kernel)) (goodIn_sub (fun _ h => List.mem_cons_of_mem _ (List.mem_append_left _ (List.mem_append_right _ h))) (by decide +kernel))) (goodIn_sub (fun _ h => List.mem_cons_of_mem _ (List.mem_append_right _ h)) (by decide +kernel))
set_option maxRecDepth 20000 in
theorem gL_act_X1_settle : GoodIn wsL_act (wsV RL 54 RX1 yX1_settle wsX1_settle) := goodIn_app (goodIn_of _ (by decide +kernel)) ggL_act_X1_settle
set_option maxRecDepth 20000 in
theorem ggL_act_X1_setRain : GoodIn wsL_act wsX1_setRain := goodIn_ca (goodIn_ca (goodIn_r _ [62, 22, 63, 27, 28, 20, 29, 30, 31, 32, 33, 34, 35, 36, 75, 76, 77, 78, 79, 80, 81, 82, 83, 84, 85, 86, 87, 88, 89, 90, 91] (by decide +kernel) (by decide +kernel)) (goodIn_sub (fun _ h => List.mem_cons_of_mem _ (List.mem_append_left _ (List.mem_append_right _ h))) (by decide +kernel))) (goodIn_sub (fun _ h => List.mem_cons_of_mem _ (List.mem_append_right _ h)) (by decide +kernel))
set_option maxRecDepth 20000 in
theorem gL_act_X1_setRain : GoodIn wsL_act (wsV RL 61 RX1 yX1_setRain wsX1_setRain) := goodIn_app (goodIn_of _ (by decide +kernel)) ggL_act_X1_setRain
theorem dL_act_0 : decode cL_act 0 = .ok (.iload_n 2, 1) := by decide +kernel
theorem dL_act_1 : decode cL_act 1 = .ok (.bipush 8, 2) := by decide +kernel
theorem dL_act_3 : decode cL_act 3 = .ok (.invokestatic 9, 3) := by decide +kernel
theorem dL_act_6 : decode cL_act 6 = .ok (.istore_n 3, 1) := by decide +kernel
theorem dL_act_7 : decode cL_act 7 = .ok (.iload_n 2, 1) := by decide +kernel
theorem dL_act_8 : decode cL_act 8 = .ok (.iconst 3, 1) := by decide +kernel
theorem dL_act_9 : decode cL_act 9 = .ok (.ishr, 1) := by decide +kernel
theorem dL_act_10 : decode cL_act 10 = .ok (.bipush 8, 2) := by decide +kernel
theorem dL_act_12 : decode cL_act 12 = .ok (.invokestatic 9, 3) := by decide +kernel
theorem dL_act_15 : decode cL_act 15 = .ok (.istore 4, 2) := by decide +kernel
theorem dL_act_17 : decode cL_act 17 = .ok (.iload_n 2, 1) := by decide +kernel
theorem dL_act_18 : decode cL_act 18 = .ok (.bipush 9, 2) := by decide +kernel
theorem dL_act_20 : decode cL_act 20 = .ok (.ishr, 1) := by decide +kernel
theorem dL_act_21 : decode cL_act 21 = .ok (.bipush 9, 2) := by decide +kernel
theorem dL_act_23 : decode cL_act 23 = .ok (.invokestatic 9, 3) := by decide +kernel
theorem dL_act_26 : decode cL_act 26 = .ok (.tableswitch 383 0 7 #[46, 46, 117, 117, 194, 194, 273, 328], 46) := by decide +kernel
theorem dL_act_72 : decode cL_act 72 = .ok (.aload_n 1, 1) := by decide +kernel
theorem dL_act_73 : decode cL_act 73 = .ok (.getfield 15, 3) := by decide +kernel
theorem dL_act_76 : decode cL_act 76 = .ok (.iload_n 3, 1) := by decide +kernel
theorem dL_act_77 : decode cL_act 77 = .ok (.aaload, 1) := by decide +kernel
theorem dL_act_78 : decode cL_act 78 = .ok (.iload 4, 2) := by decide +kernel
theorem dL_act_80 : decode cL_act 80 = .ok (.iaload, 1) := by decide +kernel
theorem dL_act_81 : decode cL_act 81 = .ok (.istore 5, 2) := by decide +kernel
theorem dL_act_83 : decode cL_act 83 = .ok (.aload_n 1, 1) := by decide +kernel
theorem dL_act_84 : decode cL_act 84 = .ok (.getfield 15, 3) := by decide +kernel
theorem dL_act_87 : decode cL_act 87 = .ok (.iload_n 3, 1) := by decide +kernel
theorem dL_act_88 : decode cL_act 88 = .ok (.aaload, 1) := by decide +kernel
theorem dL_act_89 : decode cL_act 89 = .ok (.iload 4, 2) := by decide +kernel
theorem dL_act_91 : decode cL_act 91 = .ok (.iload_n 2, 1) := by decide +kernel
theorem dL_act_92 : decode cL_act 92 = .ok (.iconst 2, 1) := by decide +kernel
theorem dL_act_93 : decode cL_act 93 = .ok (.ishr, 1) := by decide +kernel
theorem dL_act_94 : decode cL_act 94 = .ok (.iload_n 2, 1) := by decide +kernel
theorem dL_act_95 : decode cL_act 95 = .ok (.bipush 6, 2) := by decide +kernel
theorem dL_act_97 : decode cL_act 97 = .ok (.ishr, 1) := by decide +kernel
theorem dL_act_98 : decode cL_act 98 = .ok (.iconst 2, 1) := by decide +kernel
theorem dL_act_99 : decode cL_act 99 = .ok (.invokestatic 9, 3) := by decide +kernel
theorem dL_act_102 : decode cL_act 102 = .ok (.ifCond .ne 8, 3) := by decide +kernel
theorem dL_act_105 : decode cL_act 105 = .ok (.bipush 51, 2) := by decide +kernel
theorem dL_act_107 : decode cL_act 107 = .ok (.goto 5, 3) := by decide +kernel
theorem dL_act_110 : decode cL_act 110 = .ok (.bipush 16, 2) := by decide +kernel
theorem dL_act_112 : decode cL_act 112 = .ok (.invokestatic 9, 3) := by decide +kernel
theorem dL_act_115 : decode cL_act 115 = .ok (.iastore, 1) := by decide +kernel
theorem dL_act_116 : decode cL_act 116 = .ok (.aload_n 0, 1) := by decide +kernel
theorem dL_act_117 : decode cL_act 117 = .ok (.iload_n 3, 1) := by decide +kernel
theorem dL_act_118 : decode cL_act 118 = .ok (.iload 4, 2) := by decide +kernel
theorem dL_act_120 : decode cL_act 120 = .ok (.aload_n 1, 1) := by decide +kernel
theorem dL_act_121 : decode cL_act 121 = .ok (.getfield 15, 3) := by decide +kernel
theorem dL_act_124 : decode cL_act 124 = .ok (.iload_n 3, 1) := by decide +kernel
theorem dL_act_125 : decode cL_act 125 = .ok (.aaload, 1) := by decide +kernel
theorem dL_act_126 : decode cL_act 126 = .ok (.iload 4, 2) := by decide +kernel
theorem dL_act_128 : decode cL_act 128 = .ok (.iaload, 1) := by decide +kernel
theorem dL_act_129 : decode cL_act 129 = .ok (.invokevirtual 21, 3) := by decide +kernel
theorem dL_act_132 : decode cL_act 132 = .ok (.iload 5, 2) := by decide +kernel
theorem dL_act_134 : decode cL_act 134 = .ok (.if_icmp .ne 7, 3) := by decide +kernel
theorem dL_act_137 : decode cL_act 137 = .ok (.iconst 1, 1) := by decide +kernel
theorem dL_act_138 : decode cL_act 138 = .ok (.goto 4, 3) := by decide +kernel
theorem dL_act_141 : decode cL_act 141 = .ok (.iconst 0, 1) := by decide +kernel
theorem dL_act_142 : decode cL_act 142 = .ok (.ireturn, 1) := by decide +kernel
theorem dL_act_143 : decode cL_act 143 = .ok (.iload_n 2, 1) := by decide +kernel
theorem dL_act_144 : decode cL_act 144 = .ok (.iconst 4, 1) := by decide +kernel
theorem dL_act_145 : decode cL_act 145 = .ok (.ishr, 1) := by decide +kernel
theorem dL_act_146 : decode cL_act 146 = .ok (.sipush 140, 3) := by decide +kernel
theorem dL_act_149 : decode cL_act 149 = .ok (.invokestatic 9, 3) := by decide +kernel
theorem dL_act_152 : decode cL_act 152 = .ok (.bipush 40, 2) := by decide +kernel
theorem dL_act_154 : decode cL_act 154 = .ok (.isub, 1) := by decide +kernel
theorem dL_act_155 : decode cL_act 155 = .ok (.istore 6, 2) := by decide +kernel
theorem dL_act_157 : decode cL_act 157 = .ok (.iload 6, 2) := by decide +kernel
theorem dL_act_159 : decode cL_act 159 = .ok (.bipush 99, 2) := by decide +kernel
theorem dL_act_161 : decode cL_act 161 = .ok (.if_icmp .le 7, 3) := by decide +kernel
theorem dL_act_164 : decode cL_act 164 = .ok (.bipush 99, 2) := by decide +kernel
theorem dL_act_166 : decode cL_act 166 = .ok (.istore 6, 2) := by decide +kernel
theorem dL_act_168 : decode cL_act 168 = .ok (.aload_n 1, 1) := by decide +kernel
theorem dL_act_169 : decode cL_act 169 = .ok (.getfield 27, 3) := by decide +kernel
theorem dL_act_172 : decode cL_act 172 = .ok (.iload_n 3, 1) := by decide +kernel
theorem dL_act_173 : decode cL_act 173 = .ok (.aaload, 1) := by decide +kernel
theorem dL_act_174 : decode cL_act 174 = .ok (.iload 4, 2) := by decide +kernel
theorem dL_act_176 : decode cL_act 176 = .ok (.iconst 0, 1) := by decide +kernel
theorem dL_act_177 : decode cL_act 177 = .ok (.aload_n 1, 1) := by decide +kernel
theorem dL_act_178 : decode cL_act 178 = .ok (.getfield 27, 3) := by decide +kernel
theorem dL_act_181 : decode cL_act 181 = .ok (.iload_n 3, 1) := by decide +kernel
theorem dL_act_182 : decode cL_act 182 = .ok (.aaload, 1) := by decide +kernel
theorem dL_act_183 : decode cL_act 183 = .ok (.iload 4, 2) := by decide +kernel
theorem dL_act_185 : decode cL_act 185 = .ok (.iaload, 1) := by decide +kernel
theorem dL_act_186 : decode cL_act 186 = .ok (.iload 6, 2) := by decide +kernel
theorem dL_act_188 : decode cL_act 188 = .ok (.iadd, 1) := by decide +kernel
theorem dL_act_189 : decode cL_act 189 = .ok (.invokestatic 30, 3) := by decide +kernel
theorem dL_act_192 : decode cL_act 192 = .ok (.iastore, 1) := by decide +kernel
theorem dL_act_193 : decode cL_act 193 = .ok (.aload_n 0, 1) := by decide +kernel
theorem dL_act_194 : decode cL_act 194 = .ok (.iload_n 3, 1) := by decide +kernel
theorem dL_act_195 : decode cL_act 195 = .ok (.iload 4, 2) := by decide +kernel
theorem dL_act_197 : decode cL_act 197 = .ok (.iload 6, 2) := by decide +kernel
theorem dL_act_199 : decode cL_act 199 = .ok (.invokevirtual 35, 3) := by decide +kernel
theorem dL_act_202 : decode cL_act 202 = .ok (.aload_n 1, 1) := by decide +kernel
theorem dL_act_203 : decode cL_act 203 = .ok (.getfield 27, 3) := by decide +kernel
theorem dL_act_206 : decode cL_act 206 = .ok (.iload_n 3, 1) := by decide +kernel
theorem dL_act_207 : decode cL_act 207 = .ok (.aaload, 1) := by decide +kernel
theorem dL_act_208 : decode cL_act 208 = .ok (.iload 4, 2) := by decide +kernel
theorem dL_act_210 : decode cL_act 210 = .ok (.iaload, 1) := by decide +kernel
theorem dL_act_211 : decode cL_act 211 = .ok (.if_icmp .ne 7, 3) := by decide +kernel
theorem dL_act_214 : decode cL_act 214 = .ok (.iconst 1, 1) := by decide +kernel
theorem dL_act_215 : decode cL_act 215 = .ok (.goto 4, 3) := by decide +kernel
theorem dL_act_218 : decode cL_act 218 = .ok (.iconst 0, 1) := by decide +kernel
theorem dL_act_219 : decode cL_act 219 = .ok (.ireturn, 1) := by decide +kernel
theorem dL_act_220 : decode cL_act 220 = .ok (.aload_n 1, 1) := by decide +kernel
theorem dL_act_221 : decode cL_act 221 = .ok (.getfield 38, 3) := by decide +kernel
theorem dL_act_224 : decode cL_act 224 = .ok (.iload_n 3, 1) := by decide +kernel
theorem dL_act_225 : decode cL_act 225 = .ok (.aaload, 1) := by decide +kernel
theorem dL_act_226 : decode cL_act 226 = .ok (.iload 4, 2) := by decide +kernel
theorem dL_act_228 : decode cL_act 228 = .ok (.iaload, 1) := by decide +kernel
theorem dL_act_229 : decode cL_act 229 = .ok (.istore 5, 2) := by decide +kernel
theorem dL_act_231 : decode cL_act 231 = .ok (.aload_n 1, 1) := by decide +kernel
theorem dL_act_232 : decode cL_act 232 = .ok (.getfield 38, 3) := by decide +kernel
theorem dL_act_235 : decode cL_act 235 = .ok (.iload_n 3, 1) := by decide +kernel
theorem dL_act_236 : decode cL_act 236 = .ok (.aaload, 1) := by decide +kernel
theorem dL_act_237 : decode cL_act 237 = .ok (.iload 4, 2) := by decide +kernel
theorem dL_act_239 : decode cL_act 239 = .ok (.iload_n 2, 1) := by decide +kernel
theorem dL_act_240 : decode cL_act 240 = .ok (.iconst 5, 1) := by decide +kernel
theorem dL_act_241 : decode cL_act 241 = .ok (.ishr, 1) := by decide +kernel
theorem dL_act_242 : decode cL_act 242 = .ok (.iconst 4, 1) := by decide +kernel
theorem dL_act_243 : decode cL_act 243 = .ok (.invokestatic 9, 3) := by decide +kernel
theorem dL_act_246 : decode cL_act 246 = .ok (.ifCond .ne 7, 3) := by decide +kernel
theorem dL_act_249 : decode cL_act 249 = .ok (.iconst 0, 1) := by decide +kernel
theorem dL_act_250 : decode cL_act 250 = .ok (.goto 11, 3) := by decide +kernel
theorem dL_act_253 : decode cL_act 253 = .ok (.iload_n 2, 1) := by decide +kernel
theorem dL_act_254 : decode cL_act 254 = .ok (.iconst 4, 1) := by decide +kernel
theorem dL_act_255 : decode cL_act 255 = .ok (.ishr, 1) := by decide +kernel
theorem dL_act_256 : decode cL_act 256 = .ok (.bipush 21, 2) := by decide +kernel
theorem dL_act_258 : decode cL_act 258 = .ok (.invokestatic 9, 3) := by decide +kernel
theorem dL_act_261 : decode cL_act 261 = .ok (.iastore, 1) := by decide +kernel
theorem dL_act_262 : decode cL_act 262 = .ok (.aload_n 1, 1) := by decide +kernel
theorem dL_act_263 : decode cL_act 263 = .ok (.getfield 41, 3) := by decide +kernel
theorem dL_act_266 : decode cL_act 266 = .ok (.iload_n 3, 1) := by decide +kernel
theorem dL_act_267 : decode cL_act 267 = .ok (.aaload, 1) := by decide +kernel
theorem dL_act_268 : decode cL_act 268 = .ok (.iload 4, 2) := by decide +kernel
theorem dL_act_270 : decode cL_act 270 = .ok (.iconst 0, 1) := by decide +kernel
theorem dL_act_271 : decode cL_act 271 = .ok (.iastore, 1) := by decide +kernel
theorem dL_act_272 : decode cL_act 272 = .ok (.aload_n 0, 1) := by decide +kernel
theorem dL_act_273 : decode cL_act 273 = .ok (.iload_n 3, 1) := by decide +kernel
theorem dL_act_274 : decode cL_act 274 = .ok (.iload 4, 2) := by decide +kernel
theorem dL_act_276 : decode cL_act 276 = .ok (.aload_n 1, 1) := by decide +kernel
theorem dL_act_277 : decode cL_act 277 = .ok (.getfield 38, 3) := by decide +kernel
theorem dL_act_280 : decode cL_act 280 = .ok (.iload_n 3, 1) := by decide +kernel
theorem dL_act_281 : decode cL_act 281 = .ok (.aaload, 1) := by decide +kernel
theorem dL_act_282 : decode cL_act 282 = .ok (.iload 4, 2) := by decide +kernel
theorem dL_act_284 : decode cL_act 284 = .ok (.iaload, 1) := by decide +kernel
theorem dL_act_285 : decode cL_act 285 = .ok (.invokevirtual 44, 3) := by decide +kernel
theorem dL_act_288 : decode cL_act 288 = .ok (.iload 5, 2) := by decide +kernel
theorem dL_act_290 : decode cL_act 290 = .ok (.if_icmp .ne 7, 3) := by decide +kernel
theorem dL_act_293 : decode cL_act 293 = .ok (.iconst 1, 1) := by decide +kernel
theorem dL_act_294 : decode cL_act 294 = .ok (.goto 4, 3) := by decide +kernel
theorem dL_act_297 : decode cL_act 297 = .ok (.iconst 0, 1) := by decide +kernel
theorem dL_act_298 : decode cL_act 298 = .ok (.ireturn, 1) := by decide +kernel
theorem dL_act_299 : decode cL_act 299 = .ok (.aload_n 1, 1) := by decide +kernel
theorem dL_act_300 : decode cL_act 300 = .ok (.getfield 46, 3) := by decide +kernel
theorem dL_act_303 : decode cL_act 303 = .ok (.iload_n 3, 1) := by decide +kernel
theorem dL_act_304 : decode cL_act 304 = .ok (.aaload, 1) := by decide +kernel
theorem dL_act_305 : decode cL_act 305 = .ok (.iload 4, 2) := by decide +kernel
theorem dL_act_307 : decode cL_act 307 = .ok (.iaload, 1) := by decide +kernel
theorem dL_act_308 : decode cL_act 308 = .ok (.istore 5, 2) := by decide +kernel
theorem dL_act_310 : decode cL_act 310 = .ok (.aload_n 1, 1) := by decide +kernel
theorem dL_act_311 : decode cL_act 311 = .ok (.getfield 46, 3) := by decide +kernel
theorem dL_act_314 : decode cL_act 314 = .ok (.iload_n 3, 1) := by decide +kernel
theorem dL_act_315 : decode cL_act 315 = .ok (.aaload, 1) := by decide +kernel
theorem dL_act_316 : decode cL_act 316 = .ok (.iload 4, 2) := by decide +kernel
theorem dL_act_318 : decode cL_act 318 = .ok (.iload_n 2, 1) := by decide +kernel
theorem dL_act_319 : decode cL_act 319 = .ok (.iconst 4, 1) := by decide +kernel
theorem dL_act_320 : decode cL_act 320 = .ok (.ishr, 1) := by decide +kernel
theorem dL_act_321 : decode cL_act 321 = .ok (.bipush 10, 2) := by decide +kernel
theorem dL_act_323 : decode cL_act 323 = .ok (.invokestatic 9, 3) := by decide +kernel
theorem dL_act_326 : decode cL_act 326 = .ok (.iastore, 1) := by decide +kernel
theorem dL_act_327 : decode cL_act 327 = .ok (.aload_n 0, 1) := by decide +kernel
theorem dL_act_328 : decode cL_act 328 = .ok (.iload_n 3, 1) := by decide +kernel
theorem dL_act_329 : decode cL_act 329 = .ok (.iload 4, 2) := by decide +kernel
theorem dL_act_331 : decode cL_act 331 = .ok (.aload_n 1, 1) := by decide +kernel
theorem dL_act_332 : decode cL_act 332 = .ok (.getfield 46, 3) := by decide +kernel
theorem dL_act_335 : decode cL_act 335 = .ok (.iload_n 3, 1) := by decide +kernel
theorem dL_act_336 : decode cL_act 336 = .ok (.aaload, 1) := by decide +kernel
theorem dL_act_337 : decode cL_act 337 = .ok (.iload 4, 2) := by decide +kernel
theorem dL_act_339 : decode cL_act 339 = .ok (.iaload, 1) := by decide +kernel
theorem dL_act_340 : decode cL_act 340 = .ok (.invokevirtual 49, 3) := by decide +kernel
theorem dL_act_343 : decode cL_act 343 = .ok (.iload 5, 2) := by decide +kernel
theorem dL_act_345 : decode cL_act 345 = .ok (.if_icmp .ne 7, 3) := by decide +kernel
theorem dL_act_348 : decode cL_act 348 = .ok (.iconst 1, 1) := by decide +kernel
theorem dL_act_349 : decode cL_act 349 = .ok (.goto 4, 3) := by decide +kernel
theorem dL_act_352 : decode cL_act 352 = .ok (.iconst 0, 1) := by decide +kernel
theorem dL_act_353 : decode cL_act 353 = .ok (.ireturn, 1) := by decide +kernel
theorem dL_act_354 : decode cL_act 354 = .ok (.aload_n 1, 1) := by decide +kernel
theorem dL_act_355 : decode cL_act 355 = .ok (.getfield 51, 3) := by decide +kernel
theorem dL_act_358 : decode cL_act 358 = .ok (.iload_n 3, 1) := by decide +kernel
theorem dL_act_359 : decode cL_act 359 = .ok (.aaload, 1) := by decide +kernel
theorem dL_act_360 : decode cL_act 360 = .ok (.iload 4, 2) := by decide +kernel
theorem dL_act_362 : decode cL_act 362 = .ok (.iaload, 1) := by decide +kernel
theorem dL_act_363 : decode cL_act 363 = .ok (.istore 5, 2) := by decide +kernel
theorem dL_act_365 : decode cL_act 365 = .ok (.aload_n 1, 1) := by decide +kernel
theorem dL_act_366 : decode cL_act 366 = .ok (.getfield 51, 3) := by decide +kernel
theorem dL_act_369 : decode cL_act 369 = .ok (.iload_n 3, 1) := by decide +kernel
theorem dL_act_370 : decode cL_act 370 = .ok (.aaload, 1) := by decide +kernel
theorem dL_act_371 : decode cL_act 371 = .ok (.iload 4, 2) := by decide +kernel
theorem dL_act_373 : decode cL_act 373 = .ok (.iload_n 2, 1) := by decide +kernel
theorem dL_act_374 : decode cL_act 374 = .ok (.iconst 2, 1) := by decide +kernel
theorem dL_act_375 : decode cL_act 375 = .ok (.ishr, 1) := by decide +kernel
theorem dL_act_376 : decode cL_act 376 = .ok (.bipush 91, 2) := by decide +kernel
theorem dL_act_378 : decode cL_act 378 = .ok (.invokestatic 9, 3) := by decide +kernel
theorem dL_act_381 : decode cL_act 381 = .ok (.iastore, 1) := by decide +kernel
theorem dL_act_382 : decode cL_act 382 = .ok (.aload_n 0, 1) := by decide +kernel
theorem dL_act_383 : decode cL_act 383 = .ok (.iload_n 3, 1) := by decide +kernel
theorem dL_act_384 : decode cL_act 384 = .ok (.iload 4, 2) := by decide +kernel
theorem dL_act_386 : decode cL_act 386 = .ok (.aload_n 1, 1) := by decide +kernel
theorem dL_act_387 : decode cL_act 387 = .ok (.getfield 51, 3) := by decide +kernel
theorem dL_act_390 : decode cL_act 390 = .ok (.iload_n 3, 1) := by decide +kernel
theorem dL_act_391 : decode cL_act 391 = .ok (.aaload, 1) := by decide +kernel
theorem dL_act_392 : decode cL_act 392 = .ok (.iload 4, 2) := by decide +kernel
theorem dL_act_394 : decode cL_act 394 = .ok (.iaload, 1) := by decide +kernel
theorem dL_act_395 : decode cL_act 395 = .ok (.invokevirtual 54, 3) := by decide +kernel
theorem dL_act_398 : decode cL_act 398 = .ok (.iload 5, 2) := by decide +kernel
theorem dL_act_400 : decode cL_act 400 = .ok (.if_icmp .ne 7, 3) := by decide +kernel
theorem dL_act_403 : decode cL_act 403 = .ok (.iconst 1, 1) := by decide +kernel
theorem dL_act_404 : decode cL_act 404 = .ok (.goto 4, 3) := by decide +kernel
theorem dL_act_407 : decode cL_act 407 = .ok (.iconst 0, 1) := by decide +kernel
theorem dL_act_408 : decode cL_act 408 = .ok (.ireturn, 1) := by decide +kernel
theorem dL_act_409 : decode cL_act 409 = .ok (.iload_n 2, 1) := by decide +kernel
theorem dL_act_410 : decode cL_act 410 = .ok (.iconst 4, 1) := by decide +kernel
theorem dL_act_411 : decode cL_act 411 = .ok (.ishr, 1) := by decide +kernel
theorem dL_act_412 : decode cL_act 412 = .ok (.bipush 12, 2) := by decide +kernel
theorem dL_act_414 : decode cL_act 414 = .ok (.invokestatic 9, 3) := by decide +kernel
theorem dL_act_417 : decode cL_act 417 = .ok (.istore 7, 2) := by decide +kernel
theorem dL_act_419 : decode cL_act 419 = .ok (.aload_n 1, 1) := by decide +kernel
theorem dL_act_420 : decode cL_act 420 = .ok (.getfield 57, 3) := by decide +kernel
theorem dL_act_423 : decode cL_act 423 = .ok (.iload 7, 2) := by decide +kernel
theorem dL_act_425 : decode cL_act 425 = .ok (.iaload, 1) := by decide +kernel
theorem dL_act_426 : decode cL_act 426 = .ok (.istore 5, 2) := by decide +kernel
theorem dL_act_428 : decode cL_act 428 = .ok (.aload_n 1, 1) := by decide +kernel
theorem dL_act_429 : decode cL_act 429 = .ok (.getfield 57, 3) := by decide +kernel
theorem dL_act_432 : decode cL_act 432 = .ok (.iload 7, 2) := by decide +kernel
theorem dL_act_434 : decode cL_act 434 = .ok (.iload_n 2, 1) := by decide +kernel
theorem dL_act_435 : decode cL_act 435 = .ok (.iconst 3, 1) := by decide +kernel
theorem dL_act_436 : decode cL_act 436 = .ok (.invokestatic 9, 3) := by decide +kernel
theorem dL_act_439 : decode cL_act 439 = .ok (.ifCond .ne 14, 3) := by decide +kernel
theorem dL_act_442 : decode cL_act 442 = .ok (.iload_n 2, 1) := by decide +kernel
theorem dL_act_443 : decode cL_act 443 = .ok (.iconst 2, 1) := by decide +kernel
theorem dL_act_444 : decode cL_act 444 = .ok (.ishr, 1) := by decide +kernel
theorem dL_act_445 : decode cL_act 445 = .ok (.bipush 10, 2) := by decide +kernel
theorem dL_act_447 : decode cL_act 447 = .ok (.invokestatic 9, 3) := by decide +kernel
theorem dL_act_450 : decode cL_act 450 = .ok (.goto 10, 3) := by decide +kernel
theorem dL_act_453 : decode cL_act 453 = .ok (.iload_n 2, 1) := by decide +kernel
theorem dL_act_454 : decode cL_act 454 = .ok (.iconst 2, 1) := by decide +kernel
theorem dL_act_455 : decode cL_act 455 = .ok (.ishr, 1) := by decide +kernel
theorem dL_act_456 : decode cL_act 456 = .ok (.iconst 3, 1) := by decide +kernel
theorem dL_act_457 : decode cL_act 457 = .ok (.invokestatic 9, 3) := by decide +kernel
theorem dL_act_460 : decode cL_act 460 = .ok (.iastore, 1) := by decide +kernel
theorem dL_act_461 : decode cL_act 461 = .ok (.aload_n 0, 1) := by decide +kernel
theorem dL_act_462 : decode cL_act 462 = .ok (.iload 7, 2) := by decide +kernel
theorem dL_act_464 : decode cL_act 464 = .ok (.aload_n 1, 1) := by decide +kernel
theorem dL_act_465 : decode cL_act 465 = .ok (.getfield 57, 3) := by decide +kernel
theorem dL_act_468 : decode cL_act 468 = .ok (.iload 7, 2) := by decide +kernel
theorem dL_act_470 : decode cL_act 470 = .ok (.iaload, 1) := by decide +kernel
theorem dL_act_471 : decode cL_act 471 = .ok (.invokevirtual 61, 3) := by decide +kernel
theorem dL_act_474 : decode cL_act 474 = .ok (.iload 5, 2) := by decide +kernel
theorem dL_act_476 : decode cL_act 476 = .ok (.if_icmp .ne 7, 3) := by decide +kernel
theorem dL_act_479 : decode cL_act 479 = .ok (.iconst 1, 1) := by decide +kernel
theorem dL_act_480 : decode cL_act 480 = .ok (.goto 4, 3) := by decide +kernel
theorem dL_act_483 : decode cL_act 483 = .ok (.iconst 0, 1) := by decide +kernel
theorem dL_act_484 : decode cL_act 484 = .ok (.ireturn, 1) := by decide +kernel
set_option maxRecDepth 20000 in
theorem ggL_build_X2_init : GoodIn wsL_build wsX2_init := goodIn_r _ [6, 7, 8, 9, 10, 11, 12, 13, 14, 15, 16, 17, 18, 89, 90, 91, 92, 93, 94, 95, 96, 97, 98, 99] (by decide +kernel) (by decide +kernel)
set_option maxRecDepth 20000 in
theorem gL_build_X2_init : GoodIn wsL_build (wsX2_init) := ggL_build_X2_init
set_option maxRecDepth 20000 in
theorem ggL_build_L_cell : GoodIn wsL_build wsL_cell := goodIn_r _ [22, 23] (by decide +kernel) (by decide +kernel)
set_option maxRecDepth 20000 in
theorem gL_build_L_cell : GoodIn wsL_build (va_wsS RL 65 yL_cell wsL_cell) := goodIn_app (goodIn_of _ (by decide +kernel)) ggL_build_L_cell
set_option maxRecDepth 20000 in
theorem ggL_build_L_act : GoodIn wsL_build wsL_act := goodIn_ca (goodIn_ca (goodIn_r _ [26, 27, 28, 29, 30, 31, 32, 33, 34, 35, 36, 37, 38, 39, 21, 40, 41, 42, 43, 44, 45, 46, 47, 48, 49, 50, 51, 52, 53, 54, 55, 56, 57, 58, 59, 60, 61, 62, 63, 64, 65, 66, 67, 68, 69, 70, 71, 72, 73, 74, 75, 76, 77, 78, 79, 80, 81, 82, 83, 84, 85, 86, 87, 88, 89, 90, 91, 92, 93, 94, 95, 96, 97, 98, 99, 100, 101, 102, 103, 104, 105, 106, 107, 108, 109, 110, 111, 112, 113, 114, 115, 116] (by decide +kernel) (by decide +kernel)) (goodIn_sub (fun _ h => List.mem_cons_of_mem _ (List.mem_append_left _ (List.mem_append_right _ h))) (by decide +kernel))) (goodIn_sub (fun _ h => List.mem_cons_of_mem _ (List.mem_append_right _ h)) (by decide +kernel))
set_option maxRecDepth 20000 in
theorem gL_build_L_act : GoodIn wsL_build (va_wsS RL 69 yL_act wsL_act) := goodIn_app (goodIn_of _ (by decide +kernel)) ggL_build_L_act
theorem dL_build_0 : decode cL_build 0 = .ok (.new 16, 3) := by decide +kernel
theorem dL_build_3 : decode cL_build 3 = .ok (.dup, 1) := by decide +kernel
theorem dL_build_4 : decode cL_build 4 = .ok (.invokespecial 64, 3) := by decide +kernel
theorem dL_build_7 : decode cL_build 7 = .ok (.astore_n 2, 1) := by decide +kernel
theorem dL_build_8 : decode cL_build 8 = .ok (.iconst 0, 1) := by decide +kernel
theorem dL_build_9 : decode cL_build 9 = .ok (.istore_n 3, 1) := by decide +kernel
theorem dL_build_10 : decode cL_build 10 = .ok (.iload_n 3, 1) := by decide +kernel
theorem dL_build_11 : decode cL_build 11 = .ok (.bipush 48, 2) := by decide +kernel
theorem dL_build_13 : decode cL_build 13 = .ok (.if_icmp .ge 40, 3) := by decide +kernel
theorem dL_build_16 : decode cL_build 16 = .ok (.aload_n 0, 1) := by decide +kernel
theorem dL_build_17 : decode cL_build 17 = .ok (.aload_n 2, 1) := by decide +kernel
theorem dL_build_18 : decode cL_build 18 = .ok (.aload_n 1, 1) := by decide +kernel
theorem dL_build_19 : decode cL_build 19 = .ok (.iload_n 3, 1) := by decide +kernel
theorem dL_build_20 : decode cL_build 20 = .ok (.bipush 16, 2) := by decide +kernel
theorem dL_build_22 : decode cL_build 22 = .ok (.irem, 1) := by decide +kernel
theorem dL_build_23 : decode cL_build 23 = .ok (.invokestatic 65, 3) := by decide +kernel
theorem dL_build_26 : decode cL_build 26 = .ok (.iload_n 3, 1) := by decide +kernel
theorem dL_build_27 : decode cL_build 27 = .ok (.bipush 16, 2) := by decide +kernel
theorem dL_build_29 : decode cL_build 29 = .ok (.idiv, 1) := by decide +kernel
theorem dL_build_30 : decode cL_build 30 = .ok (.iconst 4, 1) := by decide +kernel
theorem dL_build_31 : decode cL_build 31 = .ok (.imul, 1) := by decide +kernel
theorem dL_build_32 : decode cL_build 32 = .ok (.ishr, 1) := by decide +kernel
theorem dL_build_33 : decode cL_build 33 = .ok (.sipush 191, 3) := by decide +kernel
theorem dL_build_36 : decode cL_build 36 = .ok (.iload_n 3, 1) := by decide +kernel
theorem dL_build_37 : decode cL_build 37 = .ok (.imul, 1) := by decide +kernel
theorem dL_build_38 : decode cL_build 38 = .ok (.iadd, 1) := by decide +kernel
theorem dL_build_39 : decode cL_build 39 = .ok (.invokestatic 69, 3) := by decide +kernel
theorem dL_build_42 : decode cL_build 42 = .ok (.ifCond .ne 5, 3) := by decide +kernel
theorem dL_build_45 : decode cL_build 45 = .ok (.aconst_null, 1) := by decide +kernel
theorem dL_build_46 : decode cL_build 46 = .ok (.areturn, 1) := by decide +kernel
theorem dL_build_47 : decode cL_build 47 = .ok (.iinc 3 1, 3) := by decide +kernel
theorem dL_build_50 : decode cL_build 50 = .ok (.goto (-40), 3) := by decide +kernel
theorem dL_build_53 : decode cL_build 53 = .ok (.aload_n 2, 1) := by decide +kernel
theorem dL_build_54 : decode cL_build 54 = .ok (.areturn, 1) := by decide +kernel
