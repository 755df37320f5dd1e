theorem dL_agrees_271 : decode cL_agrees 271 = .ok (.aload_n 1, 1) := by decide +kernel
theorem dL_agrees_272 : decode cL_agrees 272 = .ok (.getfield 122, 3) := by decide +kernel
theorem dL_agrees_275 : decode cL_agrees 275 = .ok (.lconst 0, 1) := by decide +kernel
theorem dL_agrees_276 : decode cL_agrees 276 = .ok (.lcmp, 1) := by decide +kernel
theorem dL_agrees_277 : decode cL_agrees 277 = .ok (.ifCond .eq 22, 3) := by decide +kernel
theorem dL_agrees_280 : decode cL_agrees 280 = .ok (.aload_n 0, 1) := by decide +kernel
theorem dL_agrees_281 : decode cL_agrees 281 = .ok (.invokevirtual 124, 3) := by decide +kernel
theorem dL_agrees_284 : decode cL_agrees 284 = .ok (.aload_n 1, 1) := by decide +kernel
theorem dL_agrees_285 : decode cL_agrees 285 = .ok (.getfield 54, 3) := by decide +kernel
theorem dL_agrees_288 : decode cL_agrees 288 = .ok (.l2f, 1) := by decide +kernel
theorem dL_agrees_289 : decode cL_agrees 289 = .ok (.aload_n 1, 1) := by decide +kernel
theorem dL_agrees_290 : decode cL_agrees 290 = .ok (.getfield 122, 3) := by decide +kernel
theorem dL_agrees_293 : decode cL_agrees 293 = .ok (.l2f, 1) := by decide +kernel
theorem dL_agrees_294 : decode cL_agrees 294 = .ok (.fdiv, 1) := by decide +kernel
theorem dL_agrees_295 : decode cL_agrees 295 = .ok (.fcmp .l, 1) := by decide +kernel
theorem dL_agrees_296 : decode cL_agrees 296 = .ok (.ifCond .ne 33, 3) := by decide +kernel
theorem dL_agrees_299 : decode cL_agrees 299 = .ok (.aload_n 1, 1) := by decide +kernel
theorem dL_agrees_300 : decode cL_agrees 300 = .ok (.getfield 128, 3) := by decide +kernel
theorem dL_agrees_303 : decode cL_agrees 303 = .ok (.ifCond .eq 22, 3) := by decide +kernel
theorem dL_agrees_306 : decode cL_agrees 306 = .ok (.aload_n 0, 1) := by decide +kernel
theorem dL_agrees_307 : decode cL_agrees 307 = .ok (.invokevirtual 131, 3) := by decide +kernel
theorem dL_agrees_310 : decode cL_agrees 310 = .ok (.aload_n 1, 1) := by decide +kernel
theorem dL_agrees_311 : decode cL_agrees 311 = .ok (.getfield 135, 3) := by decide +kernel
theorem dL_agrees_314 : decode cL_agrees 314 = .ok (.i2d, 1) := by decide +kernel
theorem dL_agrees_315 : decode cL_agrees 315 = .ok (.aload_n 1, 1) := by decide +kernel
theorem dL_agrees_316 : decode cL_agrees 316 = .ok (.getfield 128, 3) := by decide +kernel
theorem dL_agrees_319 : decode cL_agrees 319 = .ok (.i2d, 1) := by decide +kernel
theorem dL_agrees_320 : decode cL_agrees 320 = .ok (.ddiv, 1) := by decide +kernel
theorem dL_agrees_321 : decode cL_agrees 321 = .ok (.dcmp .l, 1) := by decide +kernel
theorem dL_agrees_322 : decode cL_agrees 322 = .ok (.ifCond .ne 7, 3) := by decide +kernel
theorem dL_agrees_325 : decode cL_agrees 325 = .ok (.iconst 1, 1) := by decide +kernel
theorem dL_agrees_326 : decode cL_agrees 326 = .ok (.goto 4, 3) := by decide +kernel
theorem dL_agrees_329 : decode cL_agrees 329 = .ok (.iconst 0, 1) := by decide +kernel
theorem dL_agrees_330 : decode cL_agrees 330 = .ok (.ireturn, 1) := by decide +kernel
set_option maxRecDepth 20000 in
theorem ggL_acts_L_low : GoodIn wsL_acts wsL_low := goodIn_r _ [14, 15] (by decide +kernel) (by decide +kernel)
set_option maxRecDepth 20000 in
theorem gL_acts_L_low : GoodIn wsL_acts (va_wsS RL 138 yL_low wsL_low) := goodIn_app (goodIn_of _ (by decide +kernel)) ggL_acts_L_low
set_option maxRecDepth 20000 in
theorem ggL_acts_X4_order : GoodIn wsL_acts wsX4_order := goodIn_ca (goodIn_ca (goodIn_ca (goodIn_ca (goodIn_r _ [20, 21, 22, 23, 24, 25, 26, 27, 28, 29, 30, 31, 32, 33, 19, 34, 35, 36, 37, 38, 39, 40, 41, 42, 43, 44, 45, 46, 47, 48, 49, 50, 51, 52, 53, 260, 261, 262, 263, 264, 265, 266, 267, 268, 269, 270, 271, 272, 273, 274, 275, 276, 277] (by decide +kernel) (by decide +kernel)) (goodIn_sub (fun _ h => List.mem_cons_of_mem _ (List.mem_append_left _ (List.mem_append_left _ (List.mem_append_left _ (List.mem_append_right _ h))))) (by decide +kernel))) (goodIn_sub (fun _ h => List.mem_cons_of_mem _ (List.mem_append_left _ (List.mem_append_left _ (List.mem_append_right _ h)))) (by decide +kernel))) (goodIn_sub (fun _ h => List.mem_cons_of_mem _ (List.mem_append_left _ (List.mem_append_right _ h))) (by decide +kernel))) (goodIn_sub (fun _ h => List.mem_cons_of_mem _ (List.mem_append_right _ h)) (by decide +kernel))
set_option maxRecDepth 20000 in
theorem gL_acts_X4_order : GoodIn wsL_acts (wsV RL 146 RX4 yX4_order wsX4_order) := goodIn_app (goodIn_of _ (by decide +kernel)) ggL_acts_X4_order
set_option maxRecDepth 20000 in
theorem ggL_acts_X4_change : GoodIn wsL_acts wsX4_change := goodIn_ca (goodIn_ca (goodIn_ca (goodIn_r _ [57, 21, 22, 23, 24, 27, 28, 58, 59, 60, 61, 6, 3, 7, 62, 31, 32, 33, 19, 34, 35, 260, 261, 262, 263, 264, 265, 266, 267, 268, 269, 270, 271, 272] (by decide +kernel) (by decide +kernel)) (goodIn_sub (fun _ h => List.mem_cons_of_mem _ (List.mem_append_left _ (List.mem_append_left _ (List.mem_append_left _ (List.mem_append_right _ h))))) (by decide +kernel))) (goodIn_sub (fun _ h => List.mem_cons_of_mem _ (List.mem_append_left _ (List.mem_append_left _ (List.mem_append_right _ h)))) (by decide +kernel))) (goodIn_sub (fun _ h => List.mem_cons_of_mem _ (List.mem_append_right _ h)) (by decide +kernel))
set_option maxRecDepth 20000 in
theorem gL_acts_X4_change : GoodIn wsL_acts (wsV RL 157 RX4 yX4_change wsX4_change) := goodIn_app (goodIn_of _ (by decide +kernel)) ggL_acts_X4_change
set_option maxRecDepth 20000 in
theorem ggL_acts_X4_setShare : GoodIn wsL_acts wsX4_setShare := goodIn_ca (goodIn_r _ [66, 23, 24, 67, 36, 37, 19, 38, 260, 261, 262, 263, 264, 265, 266, 267, 268, 269, 270, 271, 272] (by decide +kernel) (by decide +kernel)) (goodIn_sub (fun _ h => List.mem_cons_of_mem _ (List.mem_append_left _ (List.mem_append_left _ (List.mem_append_right _ h)))) (by decide +kernel))
set_option maxRecDepth 20000 in
theorem gL_acts_X4_setShare : GoodIn wsL_acts (wsV RL 163 RX4 yX4_setShare wsX4_setShare) := goodIn_app (goodIn_of _ (by decide +kernel)) ggL_acts_X4_setShare
set_option maxRecDepth 20000 in
theorem ggL_acts_X4_setContract : GoodIn wsL_acts wsX4_setContract := goodIn_ca (goodIn_r _ [71, 23, 24, 72, 73, 74, 75, 36, 37, 19, 38, 260, 261, 262, 263, 264, 265, 266, 267, 268, 269, 270, 271, 272, 278, 279, 280] (by decide +kernel) (by decide +kernel)) (goodIn_sub (fun _ h => List.mem_cons_of_mem _ (List.mem_append_left _ (List.mem_append_left _ (List.mem_append_right _ h)))) (by decide +kernel))
set_option maxRecDepth 20000 in
theorem gL_acts_X4_setContract : GoodIn wsL_acts (wsV RL 175 RX4 yX4_setContract wsX4_setContract) := goodIn_app (goodIn_of _ (by decide +kernel)) ggL_acts_X4_setContract
set_option maxRecDepth 20000 in
theorem ggL_acts_X4_setWidth : GoodIn wsL_acts wsX4_setWidth := goodIn_ca (goodIn_ca (goodIn_r _ [79, 23, 24, 27, 28, 30, 29, 36, 37, 19, 38, 80, 81, 82, 42, 83, 44, 52, 50, 84, 9, 3, 10, 260, 261, 262, 263, 264, 265, 266, 267, 268, 269, 270, 271, 272, 273, 274, 275, 276, 277] (by decide +kernel) (by decide +kernel)) (goodIn_sub (fun _ h => List.mem_cons_of_mem _ (List.mem_append_left _ (List.mem_append_left _ (List.mem_append_right _ h)))) (by decide +kernel))) (goodIn_sub (fun _ h => List.mem_cons_of_mem _ (List.mem_append_right _ h)) (by decide +kernel))
set_option maxRecDepth 20000 in
theorem gL_acts_X4_setWidth : GoodIn wsL_acts (wsV RL 181 RX4 yX4_setWidth wsX4_setWidth) := goodIn_app (goodIn_of _ (by decide +kernel)) ggL_acts_X4_setWidth
set_option maxRecDepth 20000 in
theorem ggL_acts_X5_passes : GoodIn wsL_acts wsX5_passes := goodIn_r _ [89, 90, 91, 92, 93, 94, 95, 96, 97, 98, 99, 100, 101, 102, 88, 103, 104, 105, 106, 2, 3, 4, 107, 108, 109, 110, 111, 112, 113, 114, 9, 10, 115, 116, 117, 118, 119, 120, 121, 122, 123, 124, 125, 126, 127, 13, 128, 1, 129, 130, 131, 132, 237, 238, 239, 240, 241, 242, 243, 244, 245, 246, 247, 248, 249, 250, 251, 252, 253, 254, 255, 256, 257, 258, 259] (by decide +kernel) (by decide +kernel)
set_option maxRecDepth 20000 in
theorem gL_acts_X5_passes : GoodIn wsL_acts (wsV RL 184 RX5 yX5_passes wsX5_passes) := goodIn_app (goodIn_of _ (by decide +kernel)) ggL_acts_X5_passes
set_option maxRecDepth 20000 in
theorem ggL_acts_X4_pass : GoodIn wsL_acts wsX4_pass := goodIn_ca (goodIn_ca (goodIn_r _ [136, 23, 24, 27, 28, 137, 138, 36, 37, 19, 38, 139, 140, 141, 142, 58, 59, 143, 30, 29, 144, 31, 32, 33, 34, 35, 145, 146, 147, 148, 149, 150, 151, 152, 153, 154, 155, 156, 157, 158, 159, 160, 161, 162, 163, 164, 165, 60, 166, 167, 168, 169, 170, 67, 171, 2, 3, 4, 172, 173, 72, 174, 175, 176, 177, 178, 179, 180, 181, 182, 183, 184, 185, 186, 187, 188, 189, 190, 9, 10, 191, 192, 193, 194, 195, 196, 197, 198, 199, 200, 42, 201, 44, 202, 203, 204, 205, 206, 207, 208, 209, 210, 211, 212, 213, 214, 215, 216, 217, 218, 219, 220, 221, 222, 223, 224, 225, 226, 227, 228, 229, 230, 231, 232, 233, 234, 235, 236, 51, 52, 260, 261, 262, 263, 264, 265, 266, 267, 268, 269, 270, 271, 272, 281, 282, 283, 284, 285, 286, 287, 288, 289, 290, 291, 292, 293, 294, 295, 296, 297, 298, 299, 278, 279, 280, 273, 274, 275, 276, 277] (by decide +kernel) (by decide +kernel)) (goodIn_sub (fun _ h => List.mem_cons_of_mem _ (List.mem_append_left _ (List.mem_append_left _ (List.mem_append_right _ h)))) (by decide +kernel))) (goodIn_sub (fun _ h => List.mem_cons_of_mem _ (List.mem_append_right _ h)) (by decide +kernel))
set_option maxRecDepth 20000 in
theorem gL_acts_X4_pass : GoodIn wsL_acts (wsV RL 187 RX4 yX4_pass wsX4_pass) := goodIn_app (goodIn_of _ (by decide +kernel)) ggL_acts_X4_pass
theorem dL_acts_0 : decode cL_acts 0 = .ok (.iload_n 2, 1) := by decide +kernel
theorem dL_acts_1 : decode cL_acts 1 = .ok (.bipush 8, 2) := by decide +kernel
theorem dL_acts_3 : decode cL_acts 3 = .ok (.invokestatic 138, 3) := by decide +kernel
theorem dL_acts_6 : decode cL_acts 6 = .ok (.tableswitch 528 0 5 #[38, 38, 216, 334, 369, 438], 38) := by decide +kernel
theorem dL_acts_44 : decode cL_acts 44 = .ok (.iload_n 2, 1) := by decide +kernel
theorem dL_acts_45 : decode cL_acts 45 = .ok (.iconst 3, 1) := by decide +kernel
theorem dL_acts_46 : decode cL_acts 46 = .ok (.ishr, 1) := by decide +kernel
theorem dL_acts_47 : decode cL_acts 47 = .ok (.iconst 3, 1) := by decide +kernel
theorem dL_acts_48 : decode cL_acts 48 = .ok (.invokestatic 138, 3) := by decide +kernel
theorem dL_acts_51 : decode cL_acts 51 = .ok (.istore_n 3, 1) := by decide +kernel
theorem dL_acts_52 : decode cL_acts 52 = .ok (.iconst 0, 1) := by decide +kernel
theorem dL_acts_53 : decode cL_acts 53 = .ok (.istore 4, 2) := by decide +kernel
theorem dL_acts_55 : decode cL_acts 55 = .ok (.iconst 0, 1) := by decide +kernel
theorem dL_acts_56 : decode cL_acts 56 = .ok (.istore 5, 2) := by decide +kernel
theorem dL_acts_58 : decode cL_acts 58 = .ok (.iload 5, 2) := by decide +kernel
theorem dL_acts_60 : decode cL_acts 60 = .ok (.aload_n 1, 1) := by decide +kernel
theorem dL_acts_61 : decode cL_acts 61 = .ok (.getfield 73, 3) := by decide +kernel
theorem dL_acts_64 : decode cL_acts 64 = .ok (.if_icmp .ge 40, 3) := by decide +kernel
theorem dL_acts_67 : decode cL_acts 67 = .ok (.iload 4, 2) := by decide +kernel
theorem dL_acts_69 : decode cL_acts 69 = .ok (.aload_n 1, 1) := by decide +kernel
theorem dL_acts_70 : decode cL_acts 70 = .ok (.getfield 141, 3) := by decide +kernel
theorem dL_acts_73 : decode cL_acts 73 = .ok (.iload 5, 2) := by decide +kernel
theorem dL_acts_75 : decode cL_acts 75 = .ok (.iaload, 1) := by decide +kernel
theorem dL_acts_76 : decode cL_acts 76 = .ok (.iload_n 3, 1) := by decide +kernel
theorem dL_acts_77 : decode cL_acts 77 = .ok (.if_icmp .ne 17, 3) := by decide +kernel
theorem dL_acts_80 : decode cL_acts 80 = .ok (.aload_n 1, 1) := by decide +kernel
theorem dL_acts_81 : decode cL_acts 81 = .ok (.getfield 80, 3) := by decide +kernel
theorem dL_acts_84 : decode cL_acts 84 = .ok (.iload 5, 2) := by decide +kernel
theorem dL_acts_86 : decode cL_acts 86 = .ok (.iaload, 1) := by decide +kernel
theorem dL_acts_87 : decode cL_acts 87 = .ok (.ifCond .le 7, 3) := by decide +kernel
theorem dL_acts_90 : decode cL_acts 90 = .ok (.iconst 1, 1) := by decide +kernel
theorem dL_acts_91 : decode cL_acts 91 = .ok (.goto 4, 3) := by decide +kernel
theorem dL_acts_94 : decode cL_acts 94 = .ok (.iconst 0, 1) := by decide +kernel
theorem dL_acts_95 : decode cL_acts 95 = .ok (.iadd, 1) := by decide +kernel
theorem dL_acts_96 : decode cL_acts 96 = .ok (.istore 4, 2) := by decide +kernel
theorem dL_acts_98 : decode cL_acts 98 = .ok (.iinc 5 1, 3) := by decide +kernel
theorem dL_acts_101 : decode cL_acts 101 = .ok (.goto (-43), 3) := by decide +kernel
theorem dL_acts_104 : decode cL_acts 104 = .ok (.aload_n 1, 1) := by decide +kernel
theorem dL_acts_105 : decode cL_acts 105 = .ok (.getfield 73, 3) := by decide +kernel
theorem dL_acts_108 : decode cL_acts 108 = .ok (.bipush 10, 2) := by decide +kernel
theorem dL_acts_110 : decode cL_acts 110 = .ok (.if_icmp .eq 9, 3) := by decide +kernel
theorem dL_acts_113 : decode cL_acts 113 = .ok (.iload 4, 2) := by decide +kernel
theorem dL_acts_115 : decode cL_acts 115 = .ok (.iconst 3, 1) := by decide +kernel
theorem dL_acts_116 : decode cL_acts 116 = .ok (.if_icmp .ne 5, 3) := by decide +kernel
theorem dL_acts_119 : decode cL_acts 119 = .ok (.iconst 1, 1) := by decide +kernel
theorem dL_acts_120 : decode cL_acts 120 = .ok (.ireturn, 1) := by decide +kernel
theorem dL_acts_121 : decode cL_acts 121 = .ok (.aload_n 1, 1) := by decide +kernel
theorem dL_acts_122 : decode cL_acts 122 = .ok (.getfield 73, 3) := by decide +kernel
theorem dL_acts_125 : decode cL_acts 125 = .ok (.istore 5, 2) := by decide +kernel
theorem dL_acts_127 : decode cL_acts 127 = .ok (.aload_n 1, 1) := by decide +kernel
theorem dL_acts_128 : decode cL_acts 128 = .ok (.getfield 141, 3) := by decide +kernel
theorem dL_acts_131 : decode cL_acts 131 = .ok (.iload 5, 2) := by decide +kernel
theorem dL_acts_133 : decode cL_acts 133 = .ok (.iload_n 3, 1) := by decide +kernel
theorem dL_acts_134 : decode cL_acts 134 = .ok (.iastore, 1) := by decide +kernel
theorem dL_acts_135 : decode cL_acts 135 = .ok (.aload_n 1, 1) := by decide +kernel
theorem dL_acts_136 : decode cL_acts 136 = .ok (.getfield 143, 3) := by decide +kernel
theorem dL_acts_139 : decode cL_acts 139 = .ok (.iload 5, 2) := by decide +kernel
theorem dL_acts_141 : decode cL_acts 141 = .ok (.bipush 20, 2) := by decide +kernel
theorem dL_acts_143 : decode cL_acts 143 = .ok (.iload_n 2, 1) := by decide +kernel
theorem dL_acts_144 : decode cL_acts 144 = .ok (.iconst 5, 1) := by decide +kernel
theorem dL_acts_145 : decode cL_acts 145 = .ok (.ishr, 1) := by decide +kernel
theorem dL_acts_146 : decode cL_acts 146 = .ok (.sipush 400, 3) := by decide +kernel
theorem dL_acts_149 : decode cL_acts 149 = .ok (.aload_n 1, 1) := by decide +kernel
theorem dL_acts_150 : decode cL_acts 150 = .ok (.getfield 95, 3) := by decide +kernel
theorem dL_acts_153 : decode cL_acts 153 = .ok (.invokestatic 9, 3) := by decide +kernel
theorem dL_acts_156 : decode cL_acts 156 = .ok (.bipush 19, 2) := by decide +kernel
theorem dL_acts_158 : decode cL_acts 158 = .ok (.isub, 1) := by decide +kernel
theorem dL_acts_159 : decode cL_acts 159 = .ok (.invokestatic 138, 3) := by decide +kernel
theorem dL_acts_162 : decode cL_acts 162 = .ok (.iadd, 1) := by decide +kernel
theorem dL_acts_163 : decode cL_acts 163 = .ok (.iastore, 1) := by decide +kernel
theorem dL_acts_164 : decode cL_acts 164 = .ok (.aload_n 1, 1) := by decide +kernel
theorem dL_acts_165 : decode cL_acts 165 = .ok (.getfield 80, 3) := by decide +kernel
theorem dL_acts_168 : decode cL_acts 168 = .ok (.iload 5, 2) := by decide +kernel
theorem dL_acts_170 : decode cL_acts 170 = .ok (.iconst 1, 1) := by decide +kernel
theorem dL_acts_171 : decode cL_acts 171 = .ok (.iload_n 2, 1) := by decide +kernel
theorem dL_acts_172 : decode cL_acts 172 = .ok (.bipush 14, 2) := by decide +kernel
theorem dL_acts_174 : decode cL_acts 174 = .ok (.ishr, 1) := by decide +kernel
theorem dL_acts_175 : decode cL_acts 175 = .ok (.bipush 8, 2) := by decide +kernel
theorem dL_acts_177 : decode cL_acts 177 = .ok (.invokestatic 138, 3) := by decide +kernel
theorem dL_acts_180 : decode cL_acts 180 = .ok (.iadd, 1) := by decide +kernel
theorem dL_acts_181 : decode cL_acts 181 = .ok (.iastore, 1) := by decide +kernel
theorem dL_acts_182 : decode cL_acts 182 = .ok (.aload_n 1, 1) := by decide +kernel
theorem dL_acts_183 : decode cL_acts 183 = .ok (.dup, 1) := by decide +kernel
theorem dL_acts_184 : decode cL_acts 184 = .ok (.getfield 73, 3) := by decide +kernel
theorem dL_acts_187 : decode cL_acts 187 = .ok (.iconst 1, 1) := by decide +kernel
theorem dL_acts_188 : decode cL_acts 188 = .ok (.iadd, 1) := by decide +kernel
theorem dL_acts_189 : decode cL_acts 189 = .ok (.putfield 73, 3) := by decide +kernel
theorem dL_acts_192 : decode cL_acts 192 = .ok (.aload_n 0, 1) := by decide +kernel
theorem dL_acts_193 : decode cL_acts 193 = .ok (.iload_n 3, 1) := by decide +kernel
theorem dL_acts_194 : decode cL_acts 194 = .ok (.aload_n 1, 1) := by decide +kernel
theorem dL_acts_195 : decode cL_acts 195 = .ok (.getfield 143, 3) := by decide +kernel
theorem dL_acts_198 : decode cL_acts 198 = .ok (.iload 5, 2) := by decide +kernel
theorem dL_acts_200 : decode cL_acts 200 = .ok (.iaload, 1) := by decide +kernel
theorem dL_acts_201 : decode cL_acts 201 = .ok (.aload_n 1, 1) := by decide +kernel
theorem dL_acts_202 : decode cL_acts 202 = .ok (.getfield 80, 3) := by decide +kernel
theorem dL_acts_205 : decode cL_acts 205 = .ok (.iload 5, 2) := by decide +kernel
theorem dL_acts_207 : decode cL_acts 207 = .ok (.iaload, 1) := by decide +kernel
theorem dL_acts_208 : decode cL_acts 208 = .ok (.invokevirtual 146, 3) := by decide +kernel
theorem dL_acts_211 : decode cL_acts 211 = .ok (.iload 5, 2) := by decide +kernel
theorem dL_acts_213 : decode cL_acts 213 = .ok (.if_icmp .ne 7, 3) := by decide +kernel
theorem dL_acts_216 : decode cL_acts 216 = .ok (.iconst 1, 1) := by decide +kernel
theorem dL_acts_217 : decode cL_acts 217 = .ok (.goto 4, 3) := by decide +kernel
theorem dL_acts_220 : decode cL_acts 220 = .ok (.iconst 0, 1) := by decide +kernel
theorem dL_acts_221 : decode cL_acts 221 = .ok (.ireturn, 1) := by decide +kernel
theorem dL_acts_222 : decode cL_acts 222 = .ok (.iload_n 2, 1) := by decide +kernel
theorem dL_acts_223 : decode cL_acts 223 = .ok (.iconst 3, 1) := by decide +kernel
theorem dL_acts_224 : decode cL_acts 224 = .ok (.ishr, 1) := by decide +kernel
theorem dL_acts_225 : decode cL_acts 225 = .ok (.iconst 3, 1) := by decide +kernel
theorem dL_acts_226 : decode cL_acts 226 = .ok (.invokestatic 138, 3) := by decide +kernel
theorem dL_acts_229 : decode cL_acts 229 = .ok (.istore_n 3, 1) := by decide +kernel
theorem dL_acts_230 : decode cL_acts 230 = .ok (.aload_n 1, 1) := by decide +kernel
theorem dL_acts_231 : decode cL_acts 231 = .ok (.getfield 34, 3) := by decide +kernel
theorem dL_acts_234 : decode cL_acts 234 = .ok (.ifCond .gt 11, 3) := by decide +kernel
theorem dL_acts_237 : decode cL_acts 237 = .ok (.iload_n 3, 1) := by decide +kernel
theorem dL_acts_238 : decode cL_acts 238 = .ok (.aload_n 1, 1) := by decide +kernel
theorem dL_acts_239 : decode cL_acts 239 = .ok (.getfield 110, 3) := by decide +kernel
theorem dL_acts_242 : decode cL_acts 242 = .ok (.if_icmp .ne 5, 3) := by decide +kernel
theorem dL_acts_245 : decode cL_acts 245 = .ok (.iconst 1, 1) := by decide +kernel
theorem dL_acts_246 : decode cL_acts 246 = .ok (.ireturn, 1) := by decide +kernel
theorem dL_acts_247 : decode cL_acts 247 = .ok (.aload_n 1, 1) := by decide +kernel
theorem dL_acts_248 : decode cL_acts 248 = .ok (.iconst 1, 1) := by decide +kernel
theorem dL_acts_249 : decode cL_acts 249 = .ok (.aload_n 1, 1) := by decide +kernel
theorem dL_acts_250 : decode cL_acts 250 = .ok (.getfield 110, 3) := by decide +kernel
theorem dL_acts_253 : decode cL_acts 253 = .ok (.ifCond .ge 7, 3) := by decide +kernel
theorem dL_acts_256 : decode cL_acts 256 = .ok (.iconst 0, 1) := by decide +kernel
theorem dL_acts_257 : decode cL_acts 257 = .ok (.goto 25, 3) := by decide +kernel
theorem dL_acts_260 : decode cL_acts 260 = .ok (.aload_n 1, 1) := by decide +kernel
theorem dL_acts_261 : decode cL_acts 261 = .ok (.getfield 119, 3) := by decide +kernel
theorem dL_acts_264 : decode cL_acts 264 = .ok (.iload_n 3, 1) := by decide +kernel
theorem dL_acts_265 : decode cL_acts 265 = .ok (.iaload, 1) := by decide +kernel
theorem dL_acts_266 : decode cL_acts 266 = .ok (.aload_n 1, 1) := by decide +kernel
theorem dL_acts_267 : decode cL_acts 267 = .ok (.getfield 119, 3) := by decide +kernel
theorem dL_acts_270 : decode cL_acts 270 = .ok (.aload_n 1, 1) := by decide +kernel
theorem dL_acts_271 : decode cL_acts 271 = .ok (.getfield 110, 3) := by decide +kernel
theorem dL_acts_274 : decode cL_acts 274 = .ok (.iaload, 1) := by decide +kernel
theorem dL_acts_275 : decode cL_acts 275 = .ok (.isub, 1) := by decide +kernel
theorem dL_acts_276 : decode cL_acts 276 = .ok (.invokestatic 150, 3) := by decide +kernel
theorem dL_acts_279 : decode cL_acts 279 = .ok (.bipush 40, 2) := by decide +kernel
theorem dL_acts_281 : decode cL_acts 281 = .ok (.idiv, 1) := by decide +kernel
theorem dL_acts_282 : decode cL_acts 282 = .ok (.iadd, 1) := by decide +kernel
theorem dL_acts_283 : decode cL_acts 283 = .ok (.putfield 34, 3) := by decide +kernel
theorem dL_acts_286 : decode cL_acts 286 = .ok (.aload_n 1, 1) := by decide +kernel
theorem dL_acts_287 : decode cL_acts 287 = .ok (.aload_n 1, 1) := by decide +kernel
theorem dL_acts_288 : decode cL_acts 288 = .ok (.getfield 110, 3) := by decide +kernel
theorem dL_acts_291 : decode cL_acts 291 = .ok (.ifCond .ge 10, 3) := by decide +kernel
theorem dL_acts_294 : decode cL_acts 294 = .ok (.aload_n 1, 1) := by decide +kernel
theorem dL_acts_295 : decode cL_acts 295 = .ok (.getfield 153, 3) := by decide +kernel
theorem dL_acts_298 : decode cL_acts 298 = .ok (.goto 16, 3) := by decide +kernel
theorem dL_acts_301 : decode cL_acts 301 = .ok (.iload_n 3, 1) := by decide +kernel
theorem dL_acts_302 : decode cL_acts 302 = .ok (.aload_n 1, 1) := by decide +kernel
theorem dL_acts_303 : decode cL_acts 303 = .ok (.getfield 110, 3) := by decide +kernel
theorem dL_acts_306 : decode cL_acts 306 = .ok (.if_icmp .le 7, 3) := by decide +kernel
theorem dL_acts_309 : decode cL_acts 309 = .ok (.iconst 1, 1) := by decide +kernel
theorem dL_acts_310 : decode cL_acts 310 = .ok (.goto 4, 3) := by decide +kernel
theorem dL_acts_313 : decode cL_acts 313 = .ok (.iconst 0, 1) := by decide +kernel
theorem dL_acts_314 : decode cL_acts 314 = .ok (.putfield 153, 3) := by decide +kernel
theorem dL_acts_317 : decode cL_acts 317 = .ok (.aload_n 1, 1) := by decide +kernel
theorem dL_acts_318 : decode cL_acts 318 = .ok (.iload_n 3, 1) := by decide +kernel
theorem dL_acts_319 : decode cL_acts 319 = .ok (.putfield 110, 3) := by decide +kernel
theorem dL_acts_322 : decode cL_acts 322 = .ok (.aload_n 0, 1) := by decide +kernel
theorem dL_acts_323 : decode cL_acts 323 = .ok (.iload_n 3, 1) := by decide +kernel
theorem dL_acts_324 : decode cL_acts 324 = .ok (.invokevirtual 157, 3) := by decide +kernel
theorem dL_acts_327 : decode cL_acts 327 = .ok (.aload_n 1, 1) := by decide +kernel
theorem dL_acts_328 : decode cL_acts 328 = .ok (.getfield 34, 3) := by decide +kernel
theorem dL_acts_331 : decode cL_acts 331 = .ok (.if_icmp .ne 7, 3) := by decide +kernel
theorem dL_acts_334 : decode cL_acts 334 = .ok (.iconst 1, 1) := by decide +kernel
theorem dL_acts_335 : decode cL_acts 335 = .ok (.goto 4, 3) := by decide +kernel
theorem dL_acts_338 : decode cL_acts 338 = .ok (.iconst 0, 1) := by decide +kernel
theorem dL_acts_339 : decode cL_acts 339 = .ok (.ireturn, 1) := by decide +kernel
theorem dL_acts_340 : decode cL_acts 340 = .ok (.aload_n 1, 1) := by decide +kernel
theorem dL_acts_341 : decode cL_acts 341 = .ok (.getfield 160, 3) := by decide +kernel
theorem dL_acts_344 : decode cL_acts 344 = .ok (.istore_n 3, 1) := by decide +kernel
theorem dL_acts_345 : decode cL_acts 345 = .ok (.aload_n 1, 1) := by decide +kernel
theorem dL_acts_346 : decode cL_acts 346 = .ok (.iload_n 2, 1) := by decide +kernel
theorem dL_acts_347 : decode cL_acts 347 = .ok (.iconst 3, 1) := by decide +kernel
theorem dL_acts_348 : decode cL_acts 348 = .ok (.ishr, 1) := by decide +kernel
theorem dL_acts_349 : decode cL_acts 349 = .ok (.bipush 51, 2) := by decide +kernel
theorem dL_acts_351 : decode cL_acts 351 = .ok (.invokestatic 138, 3) := by decide +kernel
theorem dL_acts_354 : decode cL_acts 354 = .ok (.putfield 160, 3) := by decide +kernel
theorem dL_acts_357 : decode cL_acts 357 = .ok (.aload_n 0, 1) := by decide +kernel
theorem dL_acts_358 : decode cL_acts 358 = .ok (.aload_n 1, 1) := by decide +kernel
theorem dL_acts_359 : decode cL_acts 359 = .ok (.getfield 160, 3) := by decide +kernel
theorem dL_acts_362 : decode cL_acts 362 = .ok (.invokevirtual 163, 3) := by decide +kernel
theorem dL_acts_365 : decode cL_acts 365 = .ok (.iload_n 3, 1) := by decide +kernel
theorem dL_acts_366 : decode cL_acts 366 = .ok (.if_icmp .ne 7, 3) := by decide +kernel
theorem dL_acts_369 : decode cL_acts 369 = .ok (.iconst 1, 1) := by decide +kernel
theorem dL_acts_370 : decode cL_acts 370 = .ok (.goto 4, 3) := by decide +kernel
theorem dL_acts_373 : decode cL_acts 373 = .ok (.iconst 0, 1) := by decide +kernel
theorem dL_acts_374 : decode cL_acts 374 = .ok (.ireturn, 1) := by decide +kernel
theorem dL_acts_375 : decode cL_acts 375 = .ok (.aload_n 1, 1) := by decide +kernel
theorem dL_acts_376 : decode cL_acts 376 = .ok (.getfield 166, 3) := by decide +kernel
theorem dL_acts_379 : decode cL_acts 379 = .ok (.istore_n 3, 1) := by decide +kernel
theorem dL_acts_380 : decode cL_acts 380 = .ok (.aload_n 1, 1) := by decide +kernel
theorem dL_acts_381 : decode cL_acts 381 = .ok (.iload_n 2, 1) := by decide +kernel
theorem dL_acts_382 : decode cL_acts 382 = .ok (.iconst 3, 1) := by decide +kernel
theorem dL_acts_383 : decode cL_acts 383 = .ok (.ishr, 1) := by decide +kernel
theorem dL_acts_384 : decode cL_acts 384 = .ok (.sipush 6000, 3) := by decide +kernel
theorem dL_acts_387 : decode cL_acts 387 = .ok (.invokestatic 138, 3) := by decide +kernel
theorem dL_acts_390 : decode cL_acts 390 = .ok (.putfield 166, 3) := by decide +kernel
theorem dL_acts_393 : decode cL_acts 393 = .ok (.aload_n 1, 1) := by decide +kernel
theorem dL_acts_394 : decode cL_acts 394 = .ok (.iload_n 2, 1) := by decide +kernel
theorem dL_acts_395 : decode cL_acts 395 = .ok (.iconst 5, 1) := by decide +kernel
theorem dL_acts_396 : decode cL_acts 396 = .ok (.ishr, 1) := by decide +kernel
theorem dL_acts_397 : decode cL_acts 397 = .ok (.bipush 100, 2) := by decide +kernel
theorem dL_acts_399 : decode cL_acts 399 = .ok (.invokestatic 138, 3) := by decide +kernel
theorem dL_acts_402 : decode cL_acts 402 = .ok (.putfield 169, 3) := by decide +kernel
theorem dL_acts_405 : decode cL_acts 405 = .ok (.aload_n 1, 1) := by decide +kernel
theorem dL_acts_406 : decode cL_acts 406 = .ok (.iload_n 2, 1) := by decide +kernel
theorem dL_acts_407 : decode cL_acts 407 = .ok (.bipush 9, 2) := by decide +kernel
theorem dL_acts_409 : decode cL_acts 409 = .ok (.ishr, 1) := by decide +kernel
theorem dL_acts_410 : decode cL_acts 410 = .ok (.bipush 100, 2) := by decide +kernel
theorem dL_acts_412 : decode cL_acts 412 = .ok (.invokestatic 138, 3) := by decide +kernel
theorem dL_acts_415 : decode cL_acts 415 = .ok (.putfield 172, 3) := by decide +kernel
theorem dL_acts_418 : decode cL_acts 418 = .ok (.aload_n 0, 1) := by decide +kernel
theorem dL_acts_419 : decode cL_acts 419 = .ok (.aload_n 1, 1) := by decide +kernel
theorem dL_acts_420 : decode cL_acts 420 = .ok (.getfield 166, 3) := by decide +kernel
theorem dL_acts_423 : decode cL_acts 423 = .ok (.aload_n 1, 1) := by decide +kernel
theorem dL_acts_424 : decode cL_acts 424 = .ok (.getfield 169, 3) := by decide +kernel
theorem dL_acts_427 : decode cL_acts 427 = .ok (.aload_n 1, 1) := by decide +kernel
theorem dL_acts_428 : decode cL_acts 428 = .ok (.getfield 172, 3) := by decide +kernel
theorem dL_acts_431 : decode cL_acts 431 = .ok (.invokevirtual 175, 3) := by decide +kernel
theorem dL_acts_434 : decode cL_acts 434 = .ok (.iload_n 3, 1) := by decide +kernel
theorem dL_acts_435 : decode cL_acts 435 = .ok (.if_icmp .ne 7, 3) := by decide +kernel
theorem dL_acts_438 : decode cL_acts 438 = .ok (.iconst 1, 1) := by decide +kernel
theorem dL_acts_439 : decode cL_acts 439 = .ok (.goto 4, 3) := by decide +kernel
theorem dL_acts_442 : decode cL_acts 442 = .ok (.iconst 0, 1) := by decide +kernel
theorem dL_acts_443 : decode cL_acts 443 = .ok (.ireturn, 1) := by decide +kernel
theorem dL_acts_444 : decode cL_acts 444 = .ok (.sipush 200, 3) := by decide +kernel
theorem dL_acts_447 : decode cL_acts 447 = .ok (.istore_n 3, 1) := by decide +kernel
theorem dL_acts_448 : decode cL_acts 448 = .ok (.iconst 0, 1) := by decide +kernel
theorem dL_acts_449 : decode cL_acts 449 = .ok (.istore 4, 2) := by decide +kernel
theorem dL_acts_451 : decode cL_acts 451 = .ok (.iload 4, 2) := by decide +kernel
theorem dL_acts_453 : decode cL_acts 453 = .ok (.aload_n 1, 1) := by decide +kernel
theorem dL_acts_454 : decode cL_acts 454 = .ok (.getfield 73, 3) := by decide +kernel
theorem dL_acts_457 : decode cL_acts 457 = .ok (.if_icmp .ge 35, 3) := by decide +kernel
theorem dL_acts_460 : decode cL_acts 460 = .ok (.aload_n 1, 1) := by decide +kernel
theorem dL_acts_461 : decode cL_acts 461 = .ok (.getfield 80, 3) := by decide +kernel
theorem dL_acts_464 : decode cL_acts 464 = .ok (.iload 4, 2) := by decide +kernel
theorem dL_acts_466 : decode cL_acts 466 = .ok (.iaload, 1) := by decide +kernel
theorem dL_acts_467 : decode cL_acts 467 = .ok (.ifCond .le 17, 3) := by decide +kernel
theorem dL_acts_470 : decode cL_acts 470 = .ok (.iload_n 3, 1) := by decide +kernel
theorem dL_acts_471 : decode cL_acts 471 = .ok (.aload_n 1, 1) := by decide +kernel
theorem dL_acts_472 : decode cL_acts 472 = .ok (.getfield 143, 3) := by decide +kernel
theorem dL_acts_475 : decode cL_acts 475 = .ok (.iload 4, 2) := by decide +kernel
theorem dL_acts_477 : decode cL_acts 477 = .ok (.iaload, 1) := by decide +kernel
theorem dL_acts_478 : decode cL_acts 478 = .ok (.invokestatic 178, 3) := by decide +kernel
theorem dL_acts_481 : decode cL_acts 481 = .ok (.goto 4, 3) := by decide +kernel
theorem dL_acts_484 : decode cL_acts 484 = .ok (.iload_n 3, 1) := by decide +kernel
theorem dL_acts_485 : decode cL_acts 485 = .ok (.istore_n 3, 1) := by decide +kernel
theorem dL_acts_486 : decode cL_acts 486 = .ok (.iinc 4 1, 3) := by decide +kernel
theorem dL_acts_489 : decode cL_acts 489 = .ok (.goto (-38), 3) := by decide +kernel
theorem dL_acts_492 : decode cL_acts 492 = .ok (.aload_n 1, 1) := by decide +kernel
theorem dL_acts_493 : decode cL_acts 493 = .ok (.getfield 95, 3) := by decide +kernel
theorem dL_acts_496 : decode cL_acts 496 = .ok (.istore 4, 2) := by decide +kernel
theorem dL_acts_498 : decode cL_acts 498 = .ok (.aload_n 1, 1) := by decide +kernel
theorem dL_acts_499 : decode cL_acts 499 = .ok (.iload_n 3, 1) := by decide +kernel
theorem dL_acts_500 : decode cL_acts 500 = .ok (.iload_n 2, 1) := by decide +kernel
theorem dL_acts_501 : decode cL_acts 501 = .ok (.iconst 3, 1) := by decide +kernel
theorem dL_acts_502 : decode cL_acts 502 = .ok (.ishr, 1) := by decide +kernel
theorem dL_acts_503 : decode cL_acts 503 = .ok (.sipush 801, 3) := by decide +kernel
theorem dL_acts_506 : decode cL_acts 506 = .ok (.iload_n 3, 1) := by decide +kernel
theorem dL_acts_507 : decode cL_acts 507 = .ok (.isub, 1) := by decide +kernel
theorem dL_acts_508 : decode cL_acts 508 = .ok (.invokestatic 138, 3) := by decide +kernel
theorem dL_acts_511 : decode cL_acts 511 = .ok (.iadd, 1) := by decide +kernel
theorem dL_acts_512 : decode cL_acts 512 = .ok (.putfield 95, 3) := by decide +kernel
theorem dL_acts_515 : decode cL_acts 515 = .ok (.aload_n 0, 1) := by decide +kernel
theorem dL_acts_516 : decode cL_acts 516 = .ok (.aload_n 1, 1) := by decide +kernel
theorem dL_acts_517 : decode cL_acts 517 = .ok (.getfield 95, 3) := by decide +kernel
theorem dL_acts_520 : decode cL_acts 520 = .ok (.invokevirtual 181, 3) := by decide +kernel
theorem dL_acts_523 : decode cL_acts 523 = .ok (.iload 4, 2) := by decide +kernel
theorem dL_acts_525 : decode cL_acts 525 = .ok (.if_icmp .ne 7, 3) := by decide +kernel
theorem dL_acts_528 : decode cL_acts 528 = .ok (.iconst 1, 1) := by decide +kernel
theorem dL_acts_529 : decode cL_acts 529 = .ok (.goto 4, 3) := by decide +kernel
theorem dL_acts_532 : decode cL_acts 532 = .ok (.iconst 0, 1) := by decide +kernel
theorem dL_acts_533 : decode cL_acts 533 = .ok (.ireturn, 1) := by decide +kernel
theorem dL_acts_534 : decode cL_acts 534 = .ok (.iconst 1, 1) := by decide +kernel
theorem dL_acts_535 : decode cL_acts 535 = .ok (.iload_n 2, 1) := by decide +kernel
theorem dL_acts_536 : decode cL_acts 536 = .ok (.iconst 3, 1) := by decide +kernel
theorem dL_acts_537 : decode cL_acts 537 = .ok (.ishr, 1) := by decide +kernel
theorem dL_acts_538 : decode cL_acts 538 = .ok (.iconst 4, 1) := by decide +kernel
theorem dL_acts_539 : decode cL_acts 539 = .ok (.invokestatic 138, 3) := by decide +kernel
theorem dL_acts_542 : decode cL_acts 542 = .ok (.iadd, 1) := by decide +kernel
theorem dL_acts_543 : decode cL_acts 543 = .ok (.istore_n 3, 1) := by decide +kernel
theorem dL_acts_544 : decode cL_acts 544 = .ok (.iconst 0, 1) := by decide +kernel
theorem dL_acts_545 : decode cL_acts 545 = .ok (.istore 4, 2) := by decide +kernel
theorem dL_acts_547 : decode cL_acts 547 = .ok (.iconst 0, 1) := by decide +kernel
theorem dL_acts_548 : decode cL_acts 548 = .ok (.istore 5, 2) := by decide +kernel
theorem dL_acts_550 : decode cL_acts 550 = .ok (.iload 5, 2) := by decide +kernel
theorem dL_acts_552 : decode cL_acts 552 = .ok (.iload_n 3, 1) := by decide +kernel
theorem dL_acts_553 : decode cL_acts 553 = .ok (.if_icmp .ge 18, 3) := by decide +kernel
theorem dL_acts_556 : decode cL_acts 556 = .ok (.iload 4, 2) := by decide +kernel
theorem dL_acts_558 : decode cL_acts 558 = .ok (.aload_n 1, 1) := by decide +kernel
theorem dL_acts_559 : decode cL_acts 559 = .ok (.invokevirtual 184, 3) := by decide +kernel
theorem dL_acts_562 : decode cL_acts 562 = .ok (.iadd, 1) := by decide +kernel
theorem dL_acts_563 : decode cL_acts 563 = .ok (.istore 4, 2) := by decide +kernel
theorem dL_acts_565 : decode cL_acts 565 = .ok (.iinc 5 1, 3) := by decide +kernel
theorem dL_acts_568 : decode cL_acts 568 = .ok (.goto (-18), 3) := by decide +kernel
theorem dL_acts_571 : decode cL_acts 571 = .ok (.aload_n 0, 1) := by decide +kernel
theorem dL_acts_572 : decode cL_acts 572 = .ok (.iload_n 3, 1) := by decide +kernel
theorem dL_acts_573 : decode cL_acts 573 = .ok (.invokevirtual 187, 3) := by decide +kernel
theorem dL_acts_576 : decode cL_acts 576 = .ok (.iload 4, 2) := by decide +kernel
theorem dL_acts_578 : decode cL_acts 578 = .ok (.if_icmp .ne 7, 3) := by decide +kernel
theorem dL_acts_581 : decode cL_acts 581 = .ok (.iconst 1, 1) := by decide +kernel
theorem dL_acts_582 : decode cL_acts 582 = .ok (.goto 4, 3) := by decide +kernel
theorem dL_acts_585 : decode cL_acts 585 = .ok (.iconst 0, 1) := by decide +kernel
theorem dL_acts_586 : decode cL_acts 586 = .ok (.ireturn, 1) := by decide +kernel
set_option maxRecDepth 20000 in
theorem ggL_law_X4_init : GoodIn wsL_law wsX4_init := goodIn_r _ [8, 9, 10, 11, 12, 13, 14, 15, 16, 17, 18, 19, 20, 21, 22, 23, 24, 25, 26, 27, 28, 29, 30, 31, 32, 33, 34, 35, 36, 37, 38, 39, 40, 41, 42, 43, 44, 45, 46, 47, 48, 49, 50, 51, 52, 53, 54, 55, 56, 57, 58, 59, 60, 61, 62, 63, 399, 400, 401, 402, 403, 404, 405, 406, 407, 408, 409, 410, 411, 435, 436, 437, 438, 439, 440, 441, 442, 443, 444, 445, 446, 447, 448, 449, 450, 451, 452, 453, 454, 455, 456, 457, 458, 459, 460, 461] (by decide +kernel) (by decide +kernel)
set_option maxRecDepth 20000 in
theorem gL_law_X4_init : GoodIn wsL_law (wsX4_init) := ggL_law_X4_init
set_option maxRecDepth 20000 in
theorem ggL_law_X5_init : GoodIn wsL_law wsX5_init := goodIn_r _ [65, 66, 10, 11, 12, 67, 68, 69, 70, 71, 72, 73, 74, 75, 76, 77, 78, 412, 413, 414, 415, 416, 417, 418, 419, 420, 421, 422, 423, 424, 425, 426, 427, 428, 429, 430, 431, 432, 433, 434] (by decide +kernel) (by decide +kernel)
set_option maxRecDepth 20000 in
theorem gL_law_X5_init_n191 : GoodIn wsL_law (wsX5_init) := ggL_law_X5_init
set_option maxRecDepth 20000 in
theorem ggL_law_L_cell : GoodIn wsL_law wsL_cell := goodIn_r _ [82, 83] (by decide +kernel) (by decide +kernel)
set_option maxRecDepth 20000 in
theorem gL_law_L_cell : GoodIn wsL_law (va_wsS RL 192 yL_cell wsL_cell) := goodIn_app (goodIn_of _ (by decide +kernel)) ggL_law_L_cell
set_option maxRecDepth 20000 in
theorem ggL_law_L_low : GoodIn wsL_law wsL_low := goodIn_r _ [86, 87] (by decide +kernel) (by decide +kernel)
set_option maxRecDepth 20000 in
theorem gL_law_L_low : GoodIn wsL_law (va_wsS RL 138 yL_low wsL_low) := goodIn_app (goodIn_of _ (by decide +kernel)) ggL_law_L_low
set_option maxRecDepth 20000 in
theorem ggL_law_X4_addGrade : GoodIn wsL_law wsX4_addGrade := goodIn_ca (goodIn_ca (goodIn_r _ [91, 92, 93, 94, 95, 96, 13, 97, 98, 2, 99, 100, 101, 102, 103, 399, 400, 401, 402, 403, 404, 405, 406, 407, 408, 409, 410, 411] (by decide +kernel) (by decide +kernel)) (goodIn_sub (fun _ h => List.mem_append_left _ (List.mem_append_left _ (List.mem_append_left _ (List.mem_append_left _ (List.mem_append_left _ (List.mem_append_right _ h)))))) (by decide +kernel))) (goodIn_sub (fun _ h => List.mem_append_left _ (List.mem_append_left _ (List.mem_append_left _ (List.mem_append_left _ (List.mem_append_right _ h))))) (by decide +kernel))
set_option maxRecDepth 20000 in
theorem gL_law_X4_addGrade : GoodIn wsL_law (wsV RL 196 RX4 yX4_addGrade wsX4_addGrade) := goodIn_app (goodIn_of _ (by decide +kernel)) ggL_law_X4_addGrade
set_option maxRecDepth 20000 in
theorem ggL_law_L_acts : GoodIn wsL_law wsL_acts := goodIn_ca (goodIn_ca (goodIn_ca (goodIn_ca (goodIn_c gr_L_acts_c (goodIn_app (goodIn_app (goodIn_app (goodIn_app (goodIn_app (goodIn_app (goodIn_app gr_L_acts_1 (goodIn_app gr_L_acts_2 (goodIn_app gr_L_acts_3 (goodIn_app gr_L_acts_4 (goodIn_app gr_L_acts_5 (goodIn_app gr_L_acts_6 (goodIn_app gr_L_acts_7 (goodIn_app gr_L_acts_8 (goodIn_app gr_L_acts_9 gr_L_acts_10))))))))) gr_L_acts_X5) gr_L_acts_X4) gr_L_acts_X3) gr_L_acts_X0) gr_L_acts_X2) gr_L_acts_X1)) (goodIn_sub (fun _ h => List.mem_append_left _ (List.mem_append_left _ (List.mem_append_left _ (List.mem_append_right _ h)))) (by decide +kernel))) (goodIn_sub (fun _ h => List.mem_append_left _ (List.mem_append_left _ (List.mem_append_left _ (List.mem_append_left _ (List.mem_append_left _ (List.mem_append_right _ h)))))) (by decide +kernel))) (goodIn_sub (fun _ h => List.mem_append_left _ (List.mem_append_left _ (List.mem_append_right _ h))) (by decide +kernel))) (goodIn_sub (fun _ h => List.mem_append_left _ (List.mem_append_left _ (List.mem_append_left _ (List.mem_append_left _ (List.mem_append_right _ h))))) (by decide +kernel))
set_option maxRecDepth 20000 in
theorem gL_law_L_acts : GoodIn wsL_law (va_wsS RL 199 yL_acts wsL_acts) := goodIn_app (goodIn_of _ (by decide +kernel)) ggL_law_L_acts
set_option maxRecDepth 20000 in
theorem ggL_law_L_agrees : GoodIn wsL_law wsL_agrees := goodIn_ca (goodIn_ca (goodIn_ca (goodIn_c gr_L_agrees_c (goodIn_app (goodIn_app (goodIn_app (goodIn_app (goodIn_app (goodIn_app gr_L_agrees_1 (goodIn_app gr_L_agrees_2 (goodIn_app gr_L_agrees_3 (goodIn_app gr_L_agrees_4 (goodIn_app gr_L_agrees_5 (goodIn_app gr_L_agrees_6 (goodIn_app gr_L_agrees_7 (goodIn_app gr_L_agrees_8 gr_L_agrees_9)))))))) gr_L_agrees_X5) gr_L_agrees_X4) gr_L_agrees_X2) gr_L_agrees_X3) gr_L_agrees_X1)) (goodIn_sub (fun _ h => List.mem_append_left _ (List.mem_append_right _ h)) (by decide +kernel))) (goodIn_sub (fun _ h => List.mem_append_left _ (List.mem_append_left _ (List.mem_append_left _ (List.mem_append_right _ h)))) (by decide +kernel))) (goodIn_sub (fun _ h => List.mem_append_right _ h) (by decide +kernel))
set_option maxRecDepth 20000 in
theorem gL_law_L_agrees : GoodIn wsL_law (va_wsS RL 203 yL_agrees wsL_agrees) := goodIn_app (goodIn_of _ (by decide +kernel)) ggL_law_L_agrees
theorem dL_law_0 : decode cL_law 0 = .ok (.new 16, 3) := by decide +kernel
theorem dL_law_3 : decode cL_law 3 = .ok (.dup, 1) := by decide +kernel
theorem dL_law_4 : decode cL_law 4 = .ok (.invokespecial 190, 3) := by decide +kernel
theorem dL_law_7 : decode cL_law 7 = .ok (.astore_n 1, 1) := by decide +kernel
theorem dL_law_8 : decode cL_law 8 = .ok (.new 27, 3) := by decide +kernel
theorem dL_law_11 : decode cL_law 11 = .ok (.dup, 1) := by decide +kernel
theorem dL_law_12 : decode cL_law 12 = .ok (.invokespecial 191, 3) := by decide +kernel
theorem dL_law_15 : decode cL_law 15 = .ok (.astore_n 2, 1) := by decide +kernel
theorem dL_law_16 : decode cL_law 16 = .ok (.iconst 1, 1) := by decide +kernel
theorem dL_law_17 : decode cL_law 17 = .ok (.istore_n 3, 1) := by decide +kernel
theorem dL_law_18 : decode cL_law 18 = .ok (.iconst 0, 1) := by decide +kernel
theorem dL_law_19 : decode cL_law 19 = .ok (.istore 4, 2) := by decide +kernel
theorem dL_law_21 : decode cL_law 21 = .ok (.iload 4, 2) := by decide +kernel
theorem dL_law_23 : decode cL_law 23 = .ok (.iconst 3, 1) := by decide +kernel
theorem dL_law_24 : decode cL_law 24 = .ok (.if_icmp .ge 62, 3) := by decide +kernel
theorem dL_law_27 : decode cL_law 27 = .ok (.aload_n 2, 1) := by decide +kernel
theorem dL_law_28 : decode cL_law 28 = .ok (.getfield 119, 3) := by decide +kernel
theorem dL_law_31 : decode cL_law 31 = .ok (.iload 4, 2) := by decide +kernel
theorem dL_law_33 : decode cL_law 33 = .ok (.bipush 40, 2) := by decide +kernel
theorem dL_law_35 : decode cL_law 35 = .ok (.bipush 50, 2) := by decide +kernel
theorem dL_law_37 : decode cL_law 37 = .ok (.iload 4, 2) := by decide +kernel
theorem dL_law_39 : decode cL_law 39 = .ok (.imul, 1) := by decide +kernel
theorem dL_law_40 : decode cL_law 40 = .ok (.iadd, 1) := by decide +kernel
theorem dL_law_41 : decode cL_law 41 = .ok (.aload_n 0, 1) := by decide +kernel
theorem dL_law_42 : decode cL_law 42 = .ok (.iload 4, 2) := by decide +kernel
theorem dL_law_44 : decode cL_law 44 = .ok (.invokestatic 192, 3) := by decide +kernel
theorem dL_law_47 : decode cL_law 47 = .ok (.bipush 50, 2) := by decide +kernel
theorem dL_law_49 : decode cL_law 49 = .ok (.invokestatic 138, 3) := by decide +kernel
theorem dL_law_52 : decode cL_law 52 = .ok (.iadd, 1) := by decide +kernel
theorem dL_law_53 : decode cL_law 53 = .ok (.iastore, 1) := by decide +kernel
theorem dL_law_54 : decode cL_law 54 = .ok (.iload_n 3, 1) := by decide +kernel
theorem dL_law_55 : decode cL_law 55 = .ok (.ifCond .eq 23, 3) := by decide +kernel
theorem dL_law_58 : decode cL_law 58 = .ok (.aload_n 1, 1) := by decide +kernel
theorem dL_law_59 : decode cL_law 59 = .ok (.aload_n 2, 1) := by decide +kernel
theorem dL_law_60 : decode cL_law 60 = .ok (.getfield 119, 3) := by decide +kernel
theorem dL_law_63 : decode cL_law 63 = .ok (.iload 4, 2) := by decide +kernel
theorem dL_law_65 : decode cL_law 65 = .ok (.iaload, 1) := by decide +kernel
theorem dL_law_66 : decode cL_law 66 = .ok (.invokevirtual 196, 3) := by decide +kernel
theorem dL_law_69 : decode cL_law 69 = .ok (.iload 4, 2) := by decide +kernel
theorem dL_law_71 : decode cL_law 71 = .ok (.if_icmp .ne 7, 3) := by decide +kernel
theorem dL_law_74 : decode cL_law 74 = .ok (.iconst 1, 1) := by decide +kernel
theorem dL_law_75 : decode cL_law 75 = .ok (.goto 4, 3) := by decide +kernel
theorem dL_law_78 : decode cL_law 78 = .ok (.iconst 0, 1) := by decide +kernel
theorem dL_law_79 : decode cL_law 79 = .ok (.istore_n 3, 1) := by decide +kernel
theorem dL_law_80 : decode cL_law 80 = .ok (.iinc 4 1, 3) := by decide +kernel
theorem dL_law_83 : decode cL_law 83 = .ok (.goto (-62), 3) := by decide +kernel
theorem dL_law_86 : decode cL_law 86 = .ok (.iconst 0, 1) := by decide +kernel
theorem dL_law_87 : decode cL_law 87 = .ok (.istore 4, 2) := by decide +kernel
theorem dL_law_89 : decode cL_law 89 = .ok (.iload 4, 2) := by decide +kernel
theorem dL_law_91 : decode cL_law 91 = .ok (.bipush 26, 2) := by decide +kernel
theorem dL_law_93 : decode cL_law 93 = .ok (.if_icmp .ge 43, 3) := by decide +kernel
theorem dL_law_96 : decode cL_law 96 = .ok (.iload_n 3, 1) := by decide +kernel
theorem dL_law_97 : decode cL_law 97 = .ok (.ifCond .eq 39, 3) := by decide +kernel
theorem dL_law_100 : decode cL_law 100 = .ok (.aload_n 1, 1) := by decide +kernel
theorem dL_law_101 : decode cL_law 101 = .ok (.aload_n 2, 1) := by decide +kernel
theorem dL_law_102 : decode cL_law 102 = .ok (.aload_n 0, 1) := by decide +kernel
theorem dL_law_103 : decode cL_law 103 = .ok (.iconst 3, 1) := by decide +kernel
theorem dL_law_104 : decode cL_law 104 = .ok (.iload 4, 2) := by decide +kernel
theorem dL_law_106 : decode cL_law 106 = .ok (.iadd, 1) := by decide +kernel
theorem dL_law_107 : decode cL_law 107 = .ok (.invokestatic 192, 3) := by decide +kernel
theorem dL_law_110 : decode cL_law 110 = .ok (.invokestatic 199, 3) := by decide +kernel
theorem dL_law_113 : decode cL_law 113 = .ok (.ifCond .eq 15, 3) := by decide +kernel
theorem dL_law_116 : decode cL_law 116 = .ok (.aload_n 1, 1) := by decide +kernel
theorem dL_law_117 : decode cL_law 117 = .ok (.aload_n 2, 1) := by decide +kernel
theorem dL_law_118 : decode cL_law 118 = .ok (.invokestatic 203, 3) := by decide +kernel
theorem dL_law_121 : decode cL_law 121 = .ok (.ifCond .eq 7, 3) := by decide +kernel
theorem dL_law_124 : decode cL_law 124 = .ok (.iconst 1, 1) := by decide +kernel
theorem dL_law_125 : decode cL_law 125 = .ok (.goto 4, 3) := by decide +kernel
theorem dL_law_128 : decode cL_law 128 = .ok (.iconst 0, 1) := by decide +kernel
theorem dL_law_129 : decode cL_law 129 = .ok (.istore_n 3, 1) := by decide +kernel
theorem dL_law_130 : decode cL_law 130 = .ok (.iinc 4 1, 3) := by decide +kernel
theorem dL_law_133 : decode cL_law 133 = .ok (.goto (-44), 3) := by decide +kernel
theorem dL_law_136 : decode cL_law 136 = .ok (.iload_n 3, 1) := by decide +kernel
theorem dL_law_137 : decode cL_law 137 = .ok (.ireturn, 1) := by decide +kernel
abbrev vwCl : List vw_C := [(RX0, TX0, 3), (RX1, TX1, 8), (RX2, TX2, 11), (RX3, TX3, 5), (RX4, TX4, 13), (RX5, TX5, 23)]
