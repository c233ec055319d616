set_option maxRecDepth 20000 in
theorem ggL_holds_X6_farmer : GoodIn wsL_holds wsX6_farmer := goodIn_r _ [6, 7, 8, 9, 10, 11, 12, 13, 14, 15, 16, 17, 18, 19, 20, 21, 22, 23, 24, 25, 26, 27, 28, 29, 30, 31, 32, 162, 163, 164, 165, 166, 167, 168, 169, 170, 171, 172, 173, 174, 175, 176, 177, 178, 179, 180, 181, 182, 183, 184, 185, 186, 187, 188, 189, 190, 191, 192, 193, 194, 195] (by decide +kernel) (by decide +kernel)
set_option maxRecDepth 20000 in
theorem gL_holds_X6_farmer : GoodIn wsL_holds (wsV RL 18 RX6 yX6_farmer wsX6_farmer) := goodIn_app (goodIn_of _ (by decide +kernel)) ggL_holds_X6_farmer
set_option maxRecDepth 20000 in
theorem ggL_holds_X6_count : GoodIn wsL_holds wsX6_count := goodIn_r _ [36, 7, 37, 38, 39, 40, 41, 42, 43, 44, 45, 46, 47, 48, 49, 50, 51, 52, 53, 15, 54, 55, 5, 56, 57, 58, 59, 19, 60, 61, 62, 17, 18, 20, 21, 63, 64, 65, 66, 67, 68, 69, 70, 71, 72, 73, 162, 163, 164, 165, 166, 167, 174, 175, 176, 177, 178, 179, 180, 181, 182, 183, 184, 185, 186, 187, 188, 189, 196, 197, 198, 199, 200, 201, 202, 203, 204, 168, 169, 170, 171, 172, 173, 205, 206, 207, 208, 209, 210, 211, 212] (by decide +kernel) (by decide +kernel)
set_option maxRecDepth 20000 in
theorem gL_holds_X6_count : GoodIn wsL_holds (wsV RL 12 RX6 yX6_count wsX6_count) := goodIn_app (goodIn_of _ (by decide +kernel)) ggL_holds_X6_count
set_option maxRecDepth 20000 in
theorem ggL_holds_X6_hours : GoodIn wsL_holds wsX6_hours := goodIn_r _ [77, 7, 8, 78, 70, 71, 19, 72, 67, 73, 79, 80, 5, 81, 82, 83, 84, 85, 86, 87, 162, 163, 164, 165, 166, 167, 174, 175, 176, 177, 178, 179, 180, 181, 182, 183, 184, 185, 186, 187, 188, 189, 205, 206, 207, 208, 209, 210, 211, 212] (by decide +kernel) (by decide +kernel)
set_option maxRecDepth 20000 in
theorem gL_holds_X6_hours : GoodIn wsL_holds (wsV RL 73 RX6 yX6_hours wsX6_hours) := goodIn_app (goodIn_of _ (by decide +kernel)) ggL_holds_X6_hours
set_option maxRecDepth 20000 in
theorem ggL_holds_X6_fuel : GoodIn wsL_holds wsX6_fuel := goodIn_r _ [91, 7, 92, 93, 78, 70, 71, 19, 72, 67, 73, 162, 163, 164, 165, 166, 167, 205, 206, 207, 208, 209, 210, 211, 212, 174, 175, 176, 177, 178, 179, 180, 181, 182, 183, 184, 185, 186, 187, 188, 189] (by decide +kernel) (by decide +kernel)
set_option maxRecDepth 20000 in
theorem gL_holds_X6_fuel : GoodIn wsL_holds (wsV RL 76 RX6 yX6_fuel wsX6_fuel) := goodIn_app (goodIn_of _ (by decide +kernel)) ggL_holds_X6_fuel
set_option maxRecDepth 20000 in
theorem ggL_holds_X6_machine : GoodIn wsL_holds wsX6_machine := goodIn_r _ [97, 7, 8, 98, 99, 100, 101, 102, 93, 103, 15, 78, 70, 71, 19, 72, 67, 73, 104, 105, 106, 85, 107, 87, 108, 109, 5, 110, 111, 112, 162, 163, 164, 165, 166, 167, 205, 206, 207, 208, 209, 210, 211, 212, 174, 175, 176, 177, 178, 179, 180, 181, 182, 183, 184, 185, 186, 187, 188, 189] (by decide +kernel) (by decide +kernel)
set_option maxRecDepth 20000 in
theorem gL_holds_X6_machine : GoodIn wsL_holds (wsV RL 22 RX6 yX6_machine wsX6_machine) := goodIn_app (goodIn_of _ (by decide +kernel)) ggL_holds_X6_machine
set_option maxRecDepth 20000 in
theorem ggL_holds_X6_booked : GoodIn wsL_holds wsX6_booked := goodIn_r _ [116, 7, 8, 15, 37, 78, 70, 71, 19, 72, 67, 73, 79, 80, 5, 81, 117, 118, 119, 120, 26, 121, 28, 29, 30, 31, 32, 122, 123, 124, 125, 126, 127, 128, 162, 163, 164, 165, 166, 167, 174, 175, 176, 177, 178, 179, 180, 181, 182, 183, 184, 185, 186, 187, 188, 189, 190, 191, 192, 193, 194, 195] (by decide +kernel) (by decide +kernel)
set_option maxRecDepth 20000 in
theorem gL_holds_X6_booked : GoodIn wsL_holds (wsV RL 81 RX6 yX6_booked wsX6_booked) := goodIn_app (goodIn_of _ (by decide +kernel)) ggL_holds_X6_booked
set_option maxRecDepth 20000 in
theorem ggL_holds_X6_booking : GoodIn wsL_holds wsX6_booking := goodIn_r _ [132, 7, 8, 133, 134, 135, 136, 137, 15, 138, 139, 140, 19, 141, 26, 142, 28, 29, 30, 31, 32, 143, 144, 145, 146, 147, 148, 27, 121, 149, 150, 151, 69, 70, 71, 72, 67, 73, 62, 17, 18, 20, 21, 55, 5, 56, 152, 153, 154, 155, 111, 156, 157, 158, 159, 160, 161, 162, 163, 164, 165, 166, 167, 190, 191, 192, 193, 194, 195, 174, 175, 176, 177, 178, 179, 180, 181, 182, 183, 184, 185, 186, 187, 188, 189, 205, 206, 207, 208, 209, 210, 211, 212, 168, 169, 170, 171, 172, 173] (by decide +kernel) (by decide +kernel)
set_option maxRecDepth 20000 in
theorem gL_holds_X6_booking : GoodIn wsL_holds (wsV RL 25 RX6 yX6_booking wsX6_booking) := goodIn_app (goodIn_of _ (by decide +kernel)) ggL_holds_X6_booking
theorem dL_holds_0 : decode cL_holds 0 = .ok (.iconst 0, 1) := by decide +kernel
theorem dL_holds_1 : decode cL_holds 1 = .ok (.istore_n 1, 1) := by decide +kernel
theorem dL_holds_2 : decode cL_holds 2 = .ok (.iconst 0, 1) := by decide +kernel
theorem dL_holds_3 : decode cL_holds 3 = .ok (.istore_n 2, 1) := by decide +kernel
theorem dL_holds_4 : decode cL_holds 4 = .ok (.iconst 0, 1) := by decide +kernel
theorem dL_holds_5 : decode cL_holds 5 = .ok (.istore_n 3, 1) := by decide +kernel
theorem dL_holds_6 : decode cL_holds 6 = .ok (.iconst 0, 1) := by decide +kernel
theorem dL_holds_7 : decode cL_holds 7 = .ok (.istore 4, 2) := by decide +kernel
theorem dL_holds_9 : decode cL_holds 9 = .ok (.iconst 0, 1) := by decide +kernel
theorem dL_holds_10 : decode cL_holds 10 = .ok (.istore 5, 2) := by decide +kernel
theorem dL_holds_12 : decode cL_holds 12 = .ok (.iconst 0, 1) := by decide +kernel
theorem dL_holds_13 : decode cL_holds 13 = .ok (.istore 6, 2) := by decide +kernel
theorem dL_holds_15 : decode cL_holds 15 = .ok (.iload 6, 2) := by decide +kernel
theorem dL_holds_17 : decode cL_holds 17 = .ok (.bipush 6, 2) := by decide +kernel
theorem dL_holds_19 : decode cL_holds 19 = .ok (.if_icmp .ge 64, 3) := by decide +kernel
theorem dL_holds_22 : decode cL_holds 22 = .ok (.iload_n 3, 1) := by decide +kernel
theorem dL_holds_23 : decode cL_holds 23 = .ok (.aload_n 0, 1) := by decide +kernel
theorem dL_holds_24 : decode cL_holds 24 = .ok (.iload 6, 2) := by decide +kernel
theorem dL_holds_26 : decode cL_holds 26 = .ok (.iconst 0, 1) := by decide +kernel
theorem dL_holds_27 : decode cL_holds 27 = .ok (.invokevirtual 18, 3) := by decide +kernel
theorem dL_holds_30 : decode cL_holds 30 = .ok (.iadd, 1) := by decide +kernel
theorem dL_holds_31 : decode cL_holds 31 = .ok (.istore_n 3, 1) := by decide +kernel
theorem dL_holds_32 : decode cL_holds 32 = .ok (.iload_n 1, 1) := by decide +kernel
theorem dL_holds_33 : decode cL_holds 33 = .ok (.aload_n 0, 1) := by decide +kernel
theorem dL_holds_34 : decode cL_holds 34 = .ok (.iload 6, 2) := by decide +kernel
theorem dL_holds_36 : decode cL_holds 36 = .ok (.iconst 5, 1) := by decide +kernel
theorem dL_holds_37 : decode cL_holds 37 = .ok (.invokevirtual 18, 3) := by decide +kernel
theorem dL_holds_40 : decode cL_holds 40 = .ok (.iadd, 1) := by decide +kernel
theorem dL_holds_41 : decode cL_holds 41 = .ok (.istore_n 1, 1) := by decide +kernel
theorem dL_holds_42 : decode cL_holds 42 = .ok (.iload_n 2, 1) := by decide +kernel
theorem dL_holds_43 : decode cL_holds 43 = .ok (.aload_n 0, 1) := by decide +kernel
theorem dL_holds_44 : decode cL_holds 44 = .ok (.iload 6, 2) := by decide +kernel
theorem dL_holds_46 : decode cL_holds 46 = .ok (.bipush 6, 2) := by decide +kernel
theorem dL_holds_48 : decode cL_holds 48 = .ok (.invokevirtual 18, 3) := by decide +kernel
theorem dL_holds_51 : decode cL_holds 51 = .ok (.iadd, 1) := by decide +kernel
theorem dL_holds_52 : decode cL_holds 52 = .ok (.istore_n 2, 1) := by decide +kernel
theorem dL_holds_53 : decode cL_holds 53 = .ok (.iload 4, 2) := by decide +kernel
theorem dL_holds_55 : decode cL_holds 55 = .ok (.aload_n 0, 1) := by decide +kernel
theorem dL_holds_56 : decode cL_holds 56 = .ok (.iload 6, 2) := by decide +kernel
theorem dL_holds_58 : decode cL_holds 58 = .ok (.iconst 4, 1) := by decide +kernel
theorem dL_holds_59 : decode cL_holds 59 = .ok (.invokevirtual 18, 3) := by decide +kernel
theorem dL_holds_62 : decode cL_holds 62 = .ok (.iadd, 1) := by decide +kernel
theorem dL_holds_63 : decode cL_holds 63 = .ok (.istore 4, 2) := by decide +kernel
theorem dL_holds_65 : decode cL_holds 65 = .ok (.iload 5, 2) := by decide +kernel
theorem dL_holds_67 : decode cL_holds 67 = .ok (.aload_n 0, 1) := by decide +kernel
theorem dL_holds_68 : decode cL_holds 68 = .ok (.iload 6, 2) := by decide +kernel
theorem dL_holds_70 : decode cL_holds 70 = .ok (.iconst 2, 1) := by decide +kernel
theorem dL_holds_71 : decode cL_holds 71 = .ok (.invokevirtual 18, 3) := by decide +kernel
theorem dL_holds_74 : decode cL_holds 74 = .ok (.iadd, 1) := by decide +kernel
theorem dL_holds_75 : decode cL_holds 75 = .ok (.istore 5, 2) := by decide +kernel
theorem dL_holds_77 : decode cL_holds 77 = .ok (.iinc 6 1, 3) := by decide +kernel
theorem dL_holds_80 : decode cL_holds 80 = .ok (.goto (-65), 3) := by decide +kernel
theorem dL_holds_83 : decode cL_holds 83 = .ok (.iconst 0, 1) := by decide +kernel
theorem dL_holds_84 : decode cL_holds 84 = .ok (.istore 6, 2) := by decide +kernel
theorem dL_holds_86 : decode cL_holds 86 = .ok (.iconst 0, 1) := by decide +kernel
theorem dL_holds_87 : decode cL_holds 87 = .ok (.istore 7, 2) := by decide +kernel
theorem dL_holds_89 : decode cL_holds 89 = .ok (.iconst 0, 1) := by decide +kernel
theorem dL_holds_90 : decode cL_holds 90 = .ok (.istore 8, 2) := by decide +kernel
theorem dL_holds_92 : decode cL_holds 92 = .ok (.iconst 0, 1) := by decide +kernel
theorem dL_holds_93 : decode cL_holds 93 = .ok (.istore 9, 2) := by decide +kernel
theorem dL_holds_95 : decode cL_holds 95 = .ok (.iconst 0, 1) := by decide +kernel
theorem dL_holds_96 : decode cL_holds 96 = .ok (.istore 10, 2) := by decide +kernel
theorem dL_holds_98 : decode cL_holds 98 = .ok (.iload 10, 2) := by decide +kernel
theorem dL_holds_100 : decode cL_holds 100 = .ok (.aload_n 0, 1) := by decide +kernel
theorem dL_holds_101 : decode cL_holds 101 = .ok (.iconst 2, 1) := by decide +kernel
theorem dL_holds_102 : decode cL_holds 102 = .ok (.invokevirtual 12, 3) := by decide +kernel
theorem dL_holds_105 : decode cL_holds 105 = .ok (.if_icmp .ge 187, 3) := by decide +kernel
theorem dL_holds_108 : decode cL_holds 108 = .ok (.iconst 0, 1) := by decide +kernel
theorem dL_holds_109 : decode cL_holds 109 = .ok (.istore 11, 2) := by decide +kernel
theorem dL_holds_111 : decode cL_holds 111 = .ok (.iconst 0, 1) := by decide +kernel
theorem dL_holds_112 : decode cL_holds 112 = .ok (.istore 12, 2) := by decide +kernel
theorem dL_holds_114 : decode cL_holds 114 = .ok (.iload 12, 2) := by decide +kernel
theorem dL_holds_116 : decode cL_holds 116 = .ok (.bipush 6, 2) := by decide +kernel
theorem dL_holds_118 : decode cL_holds 118 = .ok (.if_icmp .ge 22, 3) := by decide +kernel
theorem dL_holds_121 : decode cL_holds 121 = .ok (.iload 11, 2) := by decide +kernel
theorem dL_holds_123 : decode cL_holds 123 = .ok (.aload_n 0, 1) := by decide +kernel
theorem dL_holds_124 : decode cL_holds 124 = .ok (.iload 10, 2) := by decide +kernel
theorem dL_holds_126 : decode cL_holds 126 = .ok (.iload 12, 2) := by decide +kernel
theorem dL_holds_128 : decode cL_holds 128 = .ok (.invokevirtual 73, 3) := by decide +kernel
theorem dL_holds_131 : decode cL_holds 131 = .ok (.iadd, 1) := by decide +kernel
theorem dL_holds_132 : decode cL_holds 132 = .ok (.istore 11, 2) := by decide +kernel
theorem dL_holds_134 : decode cL_holds 134 = .ok (.iinc 12 1, 3) := by decide +kernel
theorem dL_holds_137 : decode cL_holds 137 = .ok (.goto (-23), 3) := by decide +kernel
theorem dL_holds_140 : decode cL_holds 140 = .ok (.aload_n 0, 1) := by decide +kernel
theorem dL_holds_141 : decode cL_holds 141 = .ok (.iload 10, 2) := by decide +kernel
theorem dL_holds_143 : decode cL_holds 143 = .ok (.invokevirtual 76, 3) := by decide +kernel
theorem dL_holds_146 : decode cL_holds 146 = .ok (.fstore 12, 2) := by decide +kernel
theorem dL_holds_148 : decode cL_holds 148 = .ok (.iload 6, 2) := by decide +kernel
theorem dL_holds_150 : decode cL_holds 150 = .ok (.aload_n 0, 1) := by decide +kernel
theorem dL_holds_151 : decode cL_holds 151 = .ok (.iload 10, 2) := by decide +kernel
theorem dL_holds_153 : decode cL_holds 153 = .ok (.iconst 4, 1) := by decide +kernel
theorem dL_holds_154 : decode cL_holds 154 = .ok (.invokevirtual 22, 3) := by decide +kernel
theorem dL_holds_157 : decode cL_holds 157 = .ok (.iadd, 1) := by decide +kernel
theorem dL_holds_158 : decode cL_holds 158 = .ok (.istore 6, 2) := by decide +kernel
theorem dL_holds_160 : decode cL_holds 160 = .ok (.iload 7, 2) := by decide +kernel
theorem dL_holds_162 : decode cL_holds 162 = .ok (.aload_n 0, 1) := by decide +kernel
theorem dL_holds_163 : decode cL_holds 163 = .ok (.iload 10, 2) := by decide +kernel
theorem dL_holds_165 : decode cL_holds 165 = .ok (.iconst 2, 1) := by decide +kernel
theorem dL_holds_166 : decode cL_holds 166 = .ok (.invokevirtual 22, 3) := by decide +kernel
theorem dL_holds_169 : decode cL_holds 169 = .ok (.iadd, 1) := by decide +kernel
theorem dL_holds_170 : decode cL_holds 170 = .ok (.istore 7, 2) := by decide +kernel
theorem dL_holds_172 : decode cL_holds 172 = .ok (.iload 8, 2) := by decide +kernel
theorem dL_holds_174 : decode cL_holds 174 = .ok (.aload_n 0, 1) := by decide +kernel
theorem dL_holds_175 : decode cL_holds 175 = .ok (.iload 10, 2) := by decide +kernel
theorem dL_holds_177 : decode cL_holds 177 = .ok (.bipush 7, 2) := by decide +kernel
theorem dL_holds_179 : decode cL_holds 179 = .ok (.invokevirtual 22, 3) := by decide +kernel
theorem dL_holds_182 : decode cL_holds 182 = .ok (.iadd, 1) := by decide +kernel
theorem dL_holds_183 : decode cL_holds 183 = .ok (.istore 8, 2) := by decide +kernel
theorem dL_holds_185 : decode cL_holds 185 = .ok (.iconst 1, 1) := by decide +kernel
theorem dL_holds_186 : decode cL_holds 186 = .ok (.iconst 2, 1) := by decide +kernel
theorem dL_holds_187 : decode cL_holds 187 = .ok (.aload_n 0, 1) := by decide +kernel
theorem dL_holds_188 : decode cL_holds 188 = .ok (.iload 10, 2) := by decide +kernel
theorem dL_holds_190 : decode cL_holds 190 = .ok (.iconst 0, 1) := by decide +kernel
theorem dL_holds_191 : decode cL_holds 191 = .ok (.invokevirtual 22, 3) := by decide +kernel
theorem dL_holds_194 : decode cL_holds 194 = .ok (.imul, 1) := by decide +kernel
theorem dL_holds_195 : decode cL_holds 195 = .ok (.aload_n 0, 1) := by decide +kernel
theorem dL_holds_196 : decode cL_holds 196 = .ok (.iload 10, 2) := by decide +kernel
theorem dL_holds_198 : decode cL_holds 198 = .ok (.iconst 5, 1) := by decide +kernel
theorem dL_holds_199 : decode cL_holds 199 = .ok (.invokevirtual 22, 3) := by decide +kernel
theorem dL_holds_202 : decode cL_holds 202 = .ok (.iadd, 1) := by decide +kernel
theorem dL_holds_203 : decode cL_holds 203 = .ok (.ishl, 1) := by decide +kernel
theorem dL_holds_204 : decode cL_holds 204 = .ok (.istore 13, 2) := by decide +kernel
theorem dL_holds_206 : decode cL_holds 206 = .ok (.iload 9, 2) := by decide +kernel
theorem dL_holds_208 : decode cL_holds 208 = .ok (.iload 13, 2) := by decide +kernel
theorem dL_holds_210 : decode cL_holds 210 = .ok (.iand, 1) := by decide +kernel
theorem dL_holds_211 : decode cL_holds 211 = .ok (.ifCond .ne 66, 3) := by decide +kernel
theorem dL_holds_214 : decode cL_holds 214 = .ok (.iload 11, 2) := by decide +kernel
theorem dL_holds_216 : decode cL_holds 216 = .ok (.aload_n 0, 1) := by decide +kernel
theorem dL_holds_217 : decode cL_holds 217 = .ok (.iload 10, 2) := by decide +kernel
theorem dL_holds_219 : decode cL_holds 219 = .ok (.iconst 3, 1) := by decide +kernel
theorem dL_holds_220 : decode cL_holds 220 = .ok (.invokevirtual 22, 3) := by decide +kernel
theorem dL_holds_223 : decode cL_holds 223 = .ok (.if_icmp .ne 54, 3) := by decide +kernel
theorem dL_holds_226 : decode cL_holds 226 = .ok (.iload 11, 2) := by decide +kernel
theorem dL_holds_228 : decode cL_holds 228 = .ok (.aload_n 0, 1) := by decide +kernel
theorem dL_holds_229 : decode cL_holds 229 = .ok (.iload 10, 2) := by decide +kernel
theorem dL_holds_231 : decode cL_holds 231 = .ok (.iconst 4, 1) := by decide +kernel
theorem dL_holds_232 : decode cL_holds 232 = .ok (.invokevirtual 22, 3) := by decide +kernel
theorem dL_holds_235 : decode cL_holds 235 = .ok (.if_icmp .gt 42, 3) := by decide +kernel
theorem dL_holds_238 : decode cL_holds 238 = .ok (.fload 12, 2) := by decide +kernel
theorem dL_holds_240 : decode cL_holds 240 = .ok (.fconst 0, 1) := by decide +kernel
theorem dL_holds_241 : decode cL_holds 241 = .ok (.fcmp .l, 1) := by decide +kernel
theorem dL_holds_242 : decode cL_holds 242 = .ok (.ifCond .lt 35, 3) := by decide +kernel
theorem dL_holds_245 : decode cL_holds 245 = .ok (.fload 12, 2) := by decide +kernel
theorem dL_holds_247 : decode cL_holds 247 = .ok (.ldc 80, 2) := by decide +kernel
theorem dL_holds_249 : decode cL_holds 249 = .ok (.fcmp .g, 1) := by decide +kernel
theorem dL_holds_250 : decode cL_holds 250 = .ok (.ifCond .gt 27, 3) := by decide +kernel
theorem dL_holds_253 : decode cL_holds 253 = .ok (.aload_n 0, 1) := by decide +kernel
theorem dL_holds_254 : decode cL_holds 254 = .ok (.iload 10, 2) := by decide +kernel
theorem dL_holds_256 : decode cL_holds 256 = .ok (.iconst 1, 1) := by decide +kernel
theorem dL_holds_257 : decode cL_holds 257 = .ok (.invokevirtual 81, 3) := by decide +kernel
theorem dL_holds_260 : decode cL_holds 260 = .ok (.bipush 12, 2) := by decide +kernel
theorem dL_holds_262 : decode cL_holds 262 = .ok (.if_icmp .gt 15, 3) := by decide +kernel
theorem dL_holds_265 : decode cL_holds 265 = .ok (.aload_n 0, 1) := by decide +kernel
theorem dL_holds_266 : decode cL_holds 266 = .ok (.iload 10, 2) := by decide +kernel
theorem dL_holds_268 : decode cL_holds 268 = .ok (.iconst 2, 1) := by decide +kernel
theorem dL_holds_269 : decode cL_holds 269 = .ok (.invokevirtual 81, 3) := by decide +kernel
theorem dL_holds_272 : decode cL_holds 272 = .ok (.bipush 12, 2) := by decide +kernel
theorem dL_holds_274 : decode cL_holds 274 = .ok (.if_icmp .le 5, 3) := by decide +kernel
theorem dL_holds_277 : decode cL_holds 277 = .ok (.iconst 0, 1) := by decide +kernel
theorem dL_holds_278 : decode cL_holds 278 = .ok (.ireturn, 1) := by decide +kernel
theorem dL_holds_279 : decode cL_holds 279 = .ok (.iload 9, 2) := by decide +kernel
theorem dL_holds_281 : decode cL_holds 281 = .ok (.iload 13, 2) := by decide +kernel
theorem dL_holds_283 : decode cL_holds 283 = .ok (.ior, 1) := by decide +kernel
theorem dL_holds_284 : decode cL_holds 284 = .ok (.istore 9, 2) := by decide +kernel
theorem dL_holds_286 : decode cL_holds 286 = .ok (.iinc 10 1, 3) := by decide +kernel
theorem dL_holds_289 : decode cL_holds 289 = .ok (.goto (-191), 3) := by decide +kernel
theorem dL_holds_292 : decode cL_holds 292 = .ok (.iconst 0, 1) := by decide +kernel
theorem dL_holds_293 : decode cL_holds 293 = .ok (.istore 10, 2) := by decide +kernel
theorem dL_holds_295 : decode cL_holds 295 = .ok (.iconst 0, 1) := by decide +kernel
theorem dL_holds_296 : decode cL_holds 296 = .ok (.istore 11, 2) := by decide +kernel
theorem dL_holds_298 : decode cL_holds 298 = .ok (.iload 11, 2) := by decide +kernel
theorem dL_holds_300 : decode cL_holds 300 = .ok (.aload_n 0, 1) := by decide +kernel
theorem dL_holds_301 : decode cL_holds 301 = .ok (.iconst 4, 1) := by decide +kernel
theorem dL_holds_302 : decode cL_holds 302 = .ok (.invokevirtual 12, 3) := by decide +kernel
theorem dL_holds_305 : decode cL_holds 305 = .ok (.if_icmp .ge 73, 3) := by decide +kernel
theorem dL_holds_308 : decode cL_holds 308 = .ok (.aload_n 0, 1) := by decide +kernel
theorem dL_holds_309 : decode cL_holds 309 = .ok (.iload 11, 2) := by decide +kernel
theorem dL_holds_311 : decode cL_holds 311 = .ok (.iconst 2, 1) := by decide +kernel
theorem dL_holds_312 : decode cL_holds 312 = .ok (.invokevirtual 25, 3) := by decide +kernel
theorem dL_holds_315 : decode cL_holds 315 = .ok (.istore 12, 2) := by decide +kernel
theorem dL_holds_317 : decode cL_holds 317 = .ok (.iload 10, 2) := by decide +kernel
theorem dL_holds_319 : decode cL_holds 319 = .ok (.iload 12, 2) := by decide +kernel
theorem dL_holds_321 : decode cL_holds 321 = .ok (.ifCond .lt 7, 3) := by decide +kernel
theorem dL_holds_324 : decode cL_holds 324 = .ok (.iconst 1, 1) := by decide +kernel
theorem dL_holds_325 : decode cL_holds 325 = .ok (.goto 4, 3) := by decide +kernel
theorem dL_holds_328 : decode cL_holds 328 = .ok (.iconst 0, 1) := by decide +kernel
theorem dL_holds_329 : decode cL_holds 329 = .ok (.iadd, 1) := by decide +kernel
theorem dL_holds_330 : decode cL_holds 330 = .ok (.istore 10, 2) := by decide +kernel
theorem dL_holds_332 : decode cL_holds 332 = .ok (.iload 12, 2) := by decide +kernel
theorem dL_holds_334 : decode cL_holds 334 = .ok (.ifCond .lt 38, 3) := by decide +kernel
theorem dL_holds_337 : decode cL_holds 337 = .ok (.iload 12, 2) := by decide +kernel
theorem dL_holds_339 : decode cL_holds 339 = .ok (.aload_n 0, 1) := by decide +kernel
theorem dL_holds_340 : decode cL_holds 340 = .ok (.iconst 0, 1) := by decide +kernel
theorem dL_holds_341 : decode cL_holds 341 = .ok (.invokevirtual 12, 3) := by decide +kernel
theorem dL_holds_344 : decode cL_holds 344 = .ok (.if_icmp .le 26, 3) := by decide +kernel
theorem dL_holds_347 : decode cL_holds 347 = .ok (.aload_n 0, 1) := by decide +kernel
theorem dL_holds_348 : decode cL_holds 348 = .ok (.iload 11, 2) := by decide +kernel
theorem dL_holds_350 : decode cL_holds 350 = .ok (.iconst 3, 1) := by decide +kernel
theorem dL_holds_351 : decode cL_holds 351 = .ok (.invokevirtual 25, 3) := by decide +kernel
theorem dL_holds_354 : decode cL_holds 354 = .ok (.iconst 1, 1) := by decide +kernel
theorem dL_holds_355 : decode cL_holds 355 = .ok (.if_icmp .lt 15, 3) := by decide +kernel
theorem dL_holds_358 : decode cL_holds 358 = .ok (.aload_n 0, 1) := by decide +kernel
theorem dL_holds_359 : decode cL_holds 359 = .ok (.iload 11, 2) := by decide +kernel
theorem dL_holds_361 : decode cL_holds 361 = .ok (.iconst 3, 1) := by decide +kernel
theorem dL_holds_362 : decode cL_holds 362 = .ok (.invokevirtual 25, 3) := by decide +kernel
theorem dL_holds_365 : decode cL_holds 365 = .ok (.bipush 12, 2) := by decide +kernel
theorem dL_holds_367 : decode cL_holds 367 = .ok (.if_icmp .le 5, 3) := by decide +kernel
theorem dL_holds_370 : decode cL_holds 370 = .ok (.iconst 0, 1) := by decide +kernel
theorem dL_holds_371 : decode cL_holds 371 = .ok (.ireturn, 1) := by decide +kernel
theorem dL_holds_372 : decode cL_holds 372 = .ok (.iinc 11 1, 3) := by decide +kernel
theorem dL_holds_375 : decode cL_holds 375 = .ok (.goto (-77), 3) := by decide +kernel
theorem dL_holds_378 : decode cL_holds 378 = .ok (.aload_n 0, 1) := by decide +kernel
theorem dL_holds_379 : decode cL_holds 379 = .ok (.bipush 15, 2) := by decide +kernel
theorem dL_holds_381 : decode cL_holds 381 = .ok (.invokevirtual 12, 3) := by decide +kernel
theorem dL_holds_384 : decode cL_holds 384 = .ok (.iload_n 2, 1) := by decide +kernel
theorem dL_holds_385 : decode cL_holds 385 = .ok (.isub, 1) := by decide +kernel
theorem dL_holds_386 : decode cL_holds 386 = .ok (.istore 11, 2) := by decide +kernel
theorem dL_holds_388 : decode cL_holds 388 = .ok (.iload_n 3, 1) := by decide +kernel
theorem dL_holds_389 : decode cL_holds 389 = .ok (.aload_n 0, 1) := by decide +kernel
theorem dL_holds_390 : decode cL_holds 390 = .ok (.bipush 17, 2) := by decide +kernel
theorem dL_holds_392 : decode cL_holds 392 = .ok (.invokevirtual 12, 3) := by decide +kernel
theorem dL_holds_395 : decode cL_holds 395 = .ok (.iload_n 1, 1) := by decide +kernel
theorem dL_holds_396 : decode cL_holds 396 = .ok (.isub, 1) := by decide +kernel
theorem dL_holds_397 : decode cL_holds 397 = .ok (.iload_n 2, 1) := by decide +kernel
theorem dL_holds_398 : decode cL_holds 398 = .ok (.isub, 1) := by decide +kernel
theorem dL_holds_399 : decode cL_holds 399 = .ok (.if_icmp .ne 60, 3) := by decide +kernel
theorem dL_holds_402 : decode cL_holds 402 = .ok (.iload_n 3, 1) := by decide +kernel
theorem dL_holds_403 : decode cL_holds 403 = .ok (.aload_n 0, 1) := by decide +kernel
theorem dL_holds_404 : decode cL_holds 404 = .ok (.bipush 8, 2) := by decide +kernel
theorem dL_holds_406 : decode cL_holds 406 = .ok (.invokevirtual 12, 3) := by decide +kernel
theorem dL_holds_409 : decode cL_holds 409 = .ok (.if_icmp .ne 50, 3) := by decide +kernel
theorem dL_holds_412 : decode cL_holds 412 = .ok (.aload_n 0, 1) := by decide +kernel
theorem dL_holds_413 : decode cL_holds 413 = .ok (.bipush 7, 2) := by decide +kernel
theorem dL_holds_415 : decode cL_holds 415 = .ok (.invokevirtual 12, 3) := by decide +kernel
theorem dL_holds_418 : decode cL_holds 418 = .ok (.aload_n 0, 1) := by decide +kernel
theorem dL_holds_419 : decode cL_holds 419 = .ok (.bipush 17, 2) := by decide +kernel
theorem dL_holds_421 : decode cL_holds 421 = .ok (.invokevirtual 12, 3) := by decide +kernel
theorem dL_holds_424 : decode cL_holds 424 = .ok (.aload_n 0, 1) := by decide +kernel
theorem dL_holds_425 : decode cL_holds 425 = .ok (.bipush 16, 2) := by decide +kernel
theorem dL_holds_427 : decode cL_holds 427 = .ok (.invokevirtual 12, 3) := by decide +kernel
theorem dL_holds_430 : decode cL_holds 430 = .ok (.isub, 1) := by decide +kernel
theorem dL_holds_431 : decode cL_holds 431 = .ok (.aload_n 0, 1) := by decide +kernel
theorem dL_holds_432 : decode cL_holds 432 = .ok (.bipush 15, 2) := by decide +kernel
theorem dL_holds_434 : decode cL_holds 434 = .ok (.invokevirtual 12, 3) := by decide +kernel
theorem dL_holds_437 : decode cL_holds 437 = .ok (.isub, 1) := by decide +kernel
theorem dL_holds_438 : decode cL_holds 438 = .ok (.if_icmp .ne 21, 3) := by decide +kernel
theorem dL_holds_441 : decode cL_holds 441 = .ok (.iload 11, 2) := by decide +kernel
theorem dL_holds_443 : decode cL_holds 443 = .ok (.ifCond .lt 16, 3) := by decide +kernel
theorem dL_holds_446 : decode cL_holds 446 = .ok (.iload 11, 2) := by decide +kernel
theorem dL_holds_448 : decode cL_holds 448 = .ok (.iconst 5, 1) := by decide +kernel
theorem dL_holds_449 : decode cL_holds 449 = .ok (.iload 8, 2) := by decide +kernel
theorem dL_holds_451 : decode cL_holds 451 = .ok (.imul, 1) := by decide +kernel
theorem dL_holds_452 : decode cL_holds 452 = .ok (.if_icmp .gt 7, 3) := by decide +kernel
theorem dL_holds_455 : decode cL_holds 455 = .ok (.iconst 1, 1) := by decide +kernel
theorem dL_holds_456 : decode cL_holds 456 = .ok (.goto 4, 3) := by decide +kernel
theorem dL_holds_459 : decode cL_holds 459 = .ok (.iconst 0, 1) := by decide +kernel
theorem dL_holds_460 : decode cL_holds 460 = .ok (.istore 12, 2) := by decide +kernel
theorem dL_holds_462 : decode cL_holds 462 = .ok (.iload 12, 2) := by decide +kernel
theorem dL_holds_464 : decode cL_holds 464 = .ok (.ifCond .eq 61, 3) := by decide +kernel
theorem dL_holds_467 : decode cL_holds 467 = .ok (.iload 5, 2) := by decide +kernel
theorem dL_holds_469 : decode cL_holds 469 = .ok (.iload 6, 2) := by decide +kernel
theorem dL_holds_471 : decode cL_holds 471 = .ok (.if_icmp .ne 54, 3) := by decide +kernel
theorem dL_holds_474 : decode cL_holds 474 = .ok (.iload 4, 2) := by decide +kernel
theorem dL_holds_476 : decode cL_holds 476 = .ok (.aload_n 0, 1) := by decide +kernel
theorem dL_holds_477 : decode cL_holds 477 = .ok (.iconst 3, 1) := by decide +kernel
theorem dL_holds_478 : decode cL_holds 478 = .ok (.invokevirtual 12, 3) := by decide +kernel
theorem dL_holds_481 : decode cL_holds 481 = .ok (.if_icmp .ne 44, 3) := by decide +kernel
theorem dL_holds_484 : decode cL_holds 484 = .ok (.iload 10, 2) := by decide +kernel
theorem dL_holds_486 : decode cL_holds 486 = .ok (.iload 4, 2) := by decide +kernel
theorem dL_holds_488 : decode cL_holds 488 = .ok (.if_icmp .ne 37, 3) := by decide +kernel
theorem dL_holds_491 : decode cL_holds 491 = .ok (.iload 7, 2) := by decide +kernel
theorem dL_holds_493 : decode cL_holds 493 = .ok (.aload_n 0, 1) := by decide +kernel
theorem dL_holds_494 : decode cL_holds 494 = .ok (.bipush 12, 2) := by decide +kernel
theorem dL_holds_496 : decode cL_holds 496 = .ok (.invokevirtual 12, 3) := by decide +kernel
theorem dL_holds_499 : decode cL_holds 499 = .ok (.if_icmp .ne 26, 3) := by decide +kernel
theorem dL_holds_502 : decode cL_holds 502 = .ok (.aload_n 0, 1) := by decide +kernel
theorem dL_holds_503 : decode cL_holds 503 = .ok (.iconst 5, 1) := by decide +kernel
theorem dL_holds_504 : decode cL_holds 504 = .ok (.invokevirtual 12, 3) := by decide +kernel
theorem dL_holds_507 : decode cL_holds 507 = .ok (.aload_n 0, 1) := by decide +kernel
theorem dL_holds_508 : decode cL_holds 508 = .ok (.iconst 3, 1) := by decide +kernel
theorem dL_holds_509 : decode cL_holds 509 = .ok (.invokevirtual 12, 3) := by decide +kernel
theorem dL_holds_512 : decode cL_holds 512 = .ok (.iadd, 1) := by decide +kernel
theorem dL_holds_513 : decode cL_holds 513 = .ok (.aload_n 0, 1) := by decide +kernel
theorem dL_holds_514 : decode cL_holds 514 = .ok (.iconst 4, 1) := by decide +kernel
theorem dL_holds_515 : decode cL_holds 515 = .ok (.invokevirtual 12, 3) := by decide +kernel
theorem dL_holds_518 : decode cL_holds 518 = .ok (.if_icmp .gt 7, 3) := by decide +kernel
theorem dL_holds_521 : decode cL_holds 521 = .ok (.iconst 1, 1) := by decide +kernel
theorem dL_holds_522 : decode cL_holds 522 = .ok (.goto 4, 3) := by decide +kernel
theorem dL_holds_525 : decode cL_holds 525 = .ok (.iconst 0, 1) := by decide +kernel
theorem dL_holds_526 : decode cL_holds 526 = .ok (.ireturn, 1) := by decide +kernel
set_option maxRecDepth 20000 in
theorem ggL_law_X6_init : GoodIn wsL_law wsX6_init := goodIn_r _ [6, 7, 8, 9, 10, 11, 12, 13, 14, 15, 16, 17, 18, 19, 20, 21, 22, 23, 24, 25, 26, 27, 28, 29, 30, 31, 32, 33, 34, 35, 36, 37, 38, 39, 40, 41, 42, 43, 44, 45, 46, 47, 48, 49, 50, 51, 52, 53, 54, 55, 56, 57, 58, 59, 60, 61, 62, 63, 64, 65, 66, 67, 68, 461, 462, 463, 464, 465, 466, 467, 468, 469, 470, 471, 472, 473, 474, 475, 476, 455, 456, 457, 458, 459, 460, 477, 478, 479, 480, 481, 482, 483, 484, 485, 486, 487, 488, 489, 490, 491, 492, 493, 494, 495, 496, 497, 498, 499, 500, 501, 502, 503, 504, 505] (by decide +kernel) (by decide +kernel)
set_option maxRecDepth 20000 in
theorem gL_law_X6_init : GoodIn wsL_law (wsX6_init) := ggL_law_X6_init
set_option maxRecDepth 20000 in
theorem ggL_law_X6_undo : GoodIn wsL_law wsX6_undo := goodIn_r _ [72, 19, 73, 13, 74, 75, 76, 77, 18, 78, 79, 80, 81, 82, 83, 61, 84, 85, 86, 12, 87, 88, 89, 90, 91, 92, 93, 94, 95, 96, 97, 98, 40, 41, 99, 100, 101, 102, 103, 104, 105, 106, 29, 107, 108, 109, 31, 110, 111, 46, 112, 113, 114, 115, 116, 117, 118, 119, 33, 120, 121, 122, 35, 123, 124, 125, 126, 127, 128, 129, 130, 52, 131, 132, 133, 134, 135, 136, 137, 138, 37, 139, 140, 141, 39, 142, 143, 144, 145, 146, 147, 148, 455, 456, 457, 458, 459, 460, 477, 478, 461, 462, 463, 464, 465, 466, 467, 468, 469, 470, 471, 472, 473, 474, 475, 476, 486, 487, 488, 489, 490, 491, 492, 493, 494, 495, 496, 497, 498, 499, 500, 501, 502, 503, 504, 505] (by decide +kernel) (by decide +kernel)
set_option maxRecDepth 20000 in
theorem gL_law_X6_undo : GoodIn wsL_law (wsV RL 85 RX6 yX6_undo wsX6_undo) := goodIn_app (goodIn_of _ (by decide +kernel)) ggL_law_X6_undo
set_option maxRecDepth 20000 in
theorem ggL_law_X6_restore : GoodIn wsL_law wsX6_restore := goodIn_r _ [152, 153, 73, 19, 13, 15, 154, 155, 156, 157, 18, 158, 79, 61, 159, 160, 161, 162, 80, 81, 82, 83, 163, 85, 86, 12, 87, 88, 89, 90, 91, 92, 93, 94, 95, 96, 97, 98, 40, 41, 99, 100, 101, 102, 103, 104, 105, 106, 29, 107, 108, 109, 31, 110, 111, 46, 112, 113, 114, 115, 116, 117, 118, 119, 33, 120, 121, 122, 35, 123, 124, 125, 126, 127, 128, 129, 130, 52, 131, 132, 133, 134, 135, 136, 137, 138, 37, 139, 140, 141, 39, 142, 143, 144, 145, 146, 147, 148, 84, 455, 456, 457, 458, 459, 460, 461, 462, 463, 464, 465, 466, 467, 468, 469, 470, 471, 472, 473, 474, 475, 476, 477, 478, 486, 487, 488, 489, 490, 491, 492, 493, 494, 495, 496, 497, 498, 499, 500, 501, 502, 503, 504, 505] (by decide +kernel) (by decide +kernel)
set_option maxRecDepth 20000 in
theorem gL_law_X6_restore : GoodIn wsL_law (wsV RL 62 RX6 yX6_restore wsX6_restore) := goodIn_app (goodIn_of _ (by decide +kernel)) ggL_law_X6_restore
set_option maxRecDepth 20000 in
theorem ggL_law_X6_keep : GoodIn wsL_law wsX6_keep := goodIn_r _ [167, 15, 13, 153, 154, 84, 85, 86, 12, 87, 88, 89, 90, 91, 92, 93, 94, 95, 96, 97, 98, 40, 41, 99, 100, 101, 102, 103, 104, 105, 106, 29, 107, 108, 109, 31, 110, 111, 46, 112, 113, 114, 115, 116, 117, 118, 119, 33, 120, 121, 122, 35, 123, 124, 125, 126, 127, 128, 129, 130, 52, 131, 132, 133, 134, 135, 136, 137, 138, 37, 139, 140, 141, 39, 142, 143, 144, 145, 146, 147, 148, 455, 456, 457, 458, 459, 460, 461, 462, 463, 464, 465, 466, 467, 468, 469, 470, 471, 472, 473, 474, 475, 476, 486, 487, 488, 489, 490, 491, 492, 493, 494, 495, 496, 497, 498, 499, 500, 501, 502, 503, 504, 505] (by decide +kernel) (by decide +kernel)
set_option maxRecDepth 20000 in
theorem gL_law_X6_keep : GoodIn wsL_law (wsV RL 89 RX6 yX6_keep wsX6_keep) := goodIn_app (goodIn_of _ (by decide +kernel)) ggL_law_X6_keep
set_option maxRecDepth 20000 in
theorem ggL_law_L_told : GoodIn wsL_law wsL_told := goodIn_r _ [171, 172, 173, 174, 175, 176, 2, 177, 13, 154, 178, 179, 180, 181, 182, 183, 184, 185, 186, 19, 74, 23, 187, 188, 189, 190, 191, 192, 193, 194, 195, 196, 197, 12, 198, 199, 103, 104, 105, 106, 29, 200, 201, 202, 203, 88, 204, 116, 117, 118, 119, 33, 205, 206, 207, 208, 209, 210, 211, 212, 213, 214, 215, 216, 217, 218, 219, 220, 89, 221, 135, 136, 137, 138, 37, 222, 223, 224, 225, 226, 227, 228, 229, 230, 231, 232, 233, 234, 235, 236, 35, 237, 52, 238, 239, 240, 241, 242, 243, 244, 245, 246, 247, 248, 249, 250, 251, 252, 253, 254, 255, 256, 257, 258, 259, 260, 261, 262, 263, 264, 265, 266, 267, 268, 269, 270, 271, 272, 273, 31, 274, 46, 455, 456, 457, 458, 459, 460, 461, 462, 463, 464, 465, 466, 467, 468, 469, 470, 471, 472, 473, 474, 475, 476, 477, 478, 479, 480, 481, 482, 483, 484, 485, 486, 487, 488, 489, 490, 491, 492, 493, 494, 495, 496, 497, 498, 499, 500, 501, 502, 503, 504, 505] (by decide +kernel) (by decide +kernel)
set_option maxRecDepth 20000 in
theorem gL_law_L_told : GoodIn wsL_law (va_wsS RL 92 yL_told wsL_told) := goodIn_app (goodIn_of _ (by decide +kernel)) ggL_law_L_told
set_option maxRecDepth 20000 in
theorem ggL_law_L_cell : GoodIn wsL_law wsL_cell := goodIn_r _ [277] (by decide +kernel) (by decide +kernel)
set_option maxRecDepth 20000 in
theorem gL_law_L_cell : GoodIn wsL_law (va_wsS RL 96 yL_cell wsL_cell) := goodIn_app (goodIn_of _ (by decide +kernel)) ggL_law_L_cell
set_option maxRecDepth 20000 in
theorem ggL_law_X6_count : GoodIn wsL_law wsX6_count := goodIn_r _ [177, 13, 154, 178, 179, 180, 181, 182, 183, 184, 185, 186, 19, 74, 23, 187, 188, 189, 190, 191, 192, 193, 2, 194, 195, 196, 197, 12, 198, 199, 103, 104, 105, 106, 29, 200, 201, 202, 203, 88, 204, 116, 117, 118, 119, 33, 455, 456, 457, 458, 459, 460, 461, 462, 463, 464, 465, 466, 467, 468, 469, 470, 471, 472, 473, 474, 475, 476, 477, 478, 479, 480, 481, 482, 483, 484, 485, 486, 487, 488, 489, 490, 491, 492, 493, 494, 495, 496, 497, 498, 499] (by decide +kernel) (by decide +kernel)
set_option maxRecDepth 20000 in
theorem gL_law_X6_count : GoodIn wsL_law (wsV RL 12 RX6 yX6_count wsX6_count) := goodIn_app (goodIn_of _ (by decide +kernel)) ggL_law_X6_count
set_option maxRecDepth 20000 in
theorem ggL_law_L_act : GoodIn wsL_law wsL_act := goodIn_sub inlL_act (by decide +kernel)
set_option maxRecDepth 20000 in
theorem gL_law_L_act : GoodIn wsL_law (va_wsS RL 100 yL_act wsL_act) := goodIn_app (goodIn_of _ (by decide +kernel)) ggL_law_L_act
set_option maxRecDepth 20000 in
theorem ggL_law_L_isDone : GoodIn wsL_law wsL_isDone := goodIn_r _ [434, 435] (by decide +kernel) (by decide +kernel)
set_option maxRecDepth 20000 in
theorem gL_law_L_isDone : GoodIn wsL_law (va_wsS RL 104 yL_isDone wsL_isDone) := goodIn_app (goodIn_of _ (by decide +kernel)) ggL_law_L_isDone
set_option maxRecDepth 20000 in
theorem ggL_law_L_holds : GoodIn wsL_law wsL_holds := goodIn_sub inlL_holds (by decide +kernel)
set_option maxRecDepth 20000 in
theorem gL_law_L_holds : GoodIn wsL_law (va_wsS RL 108 yL_holds wsL_holds) := goodIn_app (goodIn_of _ (by decide +kernel)) ggL_law_L_holds
theorem dL_law_0 : decode cL_law 0 = .ok (.new 13, 3) := by decide +kernel
