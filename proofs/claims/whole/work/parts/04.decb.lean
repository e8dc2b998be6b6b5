theorem dX6_init_0 : decode cX6_init 0 = .ok (.aload_n 0, 1) := by decide +kernel
theorem dX6_init_1 : decode cX6_init 1 = .ok (.invokespecial 1, 3) := by decide +kernel
theorem dX6_init_4 : decode cX6_init 4 = .ok (.aload_n 0, 1) := by decide +kernel
theorem dX6_init_5 : decode cX6_init 5 = .ok (.bipush 12, 2) := by decide +kernel
theorem dX6_init_7 : decode cX6_init 7 = .ok (.newarray .int, 2) := by decide +kernel
theorem dX6_init_9 : decode cX6_init 9 = .ok (.putfield 7, 3) := by decide +kernel
theorem dX6_init_12 : decode cX6_init 12 = .ok (.aload_n 0, 1) := by decide +kernel
theorem dX6_init_13 : decode cX6_init 13 = .ok (.bipush 40, 2) := by decide +kernel
theorem dX6_init_15 : decode cX6_init 15 = .ok (.newarray .int, 2) := by decide +kernel
theorem dX6_init_17 : decode cX6_init 17 = .ok (.putfield 13, 3) := by decide +kernel
theorem dX6_init_20 : decode cX6_init 20 = .ok (.aload_n 0, 1) := by decide +kernel
theorem dX6_init_21 : decode cX6_init 21 = .ok (.bipush 40, 2) := by decide +kernel
theorem dX6_init_23 : decode cX6_init 23 = .ok (.newarray .int, 2) := by decide +kernel
theorem dX6_init_25 : decode cX6_init 25 = .ok (.putfield 16, 3) := by decide +kernel
theorem dX6_init_28 : decode cX6_init 28 = .ok (.aload_n 0, 1) := by decide +kernel
theorem dX6_init_29 : decode cX6_init 29 = .ok (.bipush 40, 2) := by decide +kernel
theorem dX6_init_31 : decode cX6_init 31 = .ok (.newarray .int, 2) := by decide +kernel
theorem dX6_init_33 : decode cX6_init 33 = .ok (.putfield 19, 3) := by decide +kernel
theorem dX6_init_36 : decode cX6_init 36 = .ok (.aload_n 0, 1) := by decide +kernel
theorem dX6_init_37 : decode cX6_init 37 = .ok (.bipush 40, 2) := by decide +kernel
theorem dX6_init_39 : decode cX6_init 39 = .ok (.newarray .int, 2) := by decide +kernel
theorem dX6_init_41 : decode cX6_init 41 = .ok (.putfield 22, 3) := by decide +kernel
theorem dX6_init_44 : decode cX6_init 44 = .ok (.aload_n 0, 1) := by decide +kernel
theorem dX6_init_45 : decode cX6_init 45 = .ok (.bipush 40, 2) := by decide +kernel
theorem dX6_init_47 : decode cX6_init 47 = .ok (.newarray .int, 2) := by decide +kernel
theorem dX6_init_49 : decode cX6_init 49 = .ok (.putfield 25, 3) := by decide +kernel
theorem dX6_init_52 : decode cX6_init 52 = .ok (.aload_n 0, 1) := by decide +kernel
theorem dX6_init_53 : decode cX6_init 53 = .ok (.bipush 40, 2) := by decide +kernel
theorem dX6_init_55 : decode cX6_init 55 = .ok (.newarray .int, 2) := by decide +kernel
theorem dX6_init_57 : decode cX6_init 57 = .ok (.putfield 28, 3) := by decide +kernel
theorem dX6_init_60 : decode cX6_init 60 = .ok (.aload_n 0, 1) := by decide +kernel
theorem dX6_init_61 : decode cX6_init 61 = .ok (.bipush 40, 2) := by decide +kernel
theorem dX6_init_63 : decode cX6_init 63 = .ok (.newarray .int, 2) := by decide +kernel
theorem dX6_init_65 : decode cX6_init 65 = .ok (.putfield 31, 3) := by decide +kernel
theorem dX6_init_68 : decode cX6_init 68 = .ok (.aload_n 0, 1) := by decide +kernel
theorem dX6_init_69 : decode cX6_init 69 = .ok (.bipush 40, 2) := by decide +kernel
theorem dX6_init_71 : decode cX6_init 71 = .ok (.newarray .int, 2) := by decide +kernel
theorem dX6_init_73 : decode cX6_init 73 = .ok (.putfield 34, 3) := by decide +kernel
theorem dX6_init_76 : decode cX6_init 76 = .ok (.aload_n 0, 1) := by decide +kernel
theorem dX6_init_77 : decode cX6_init 77 = .ok (.bipush 40, 2) := by decide +kernel
theorem dX6_init_79 : decode cX6_init 79 = .ok (.newarray .int, 2) := by decide +kernel
theorem dX6_init_81 : decode cX6_init 81 = .ok (.putfield 37, 3) := by decide +kernel
theorem dX6_init_84 : decode cX6_init 84 = .ok (.aload_n 0, 1) := by decide +kernel
theorem dX6_init_85 : decode cX6_init 85 = .ok (.bipush 40, 2) := by decide +kernel
theorem dX6_init_87 : decode cX6_init 87 = .ok (.newarray .int, 2) := by decide +kernel
theorem dX6_init_89 : decode cX6_init 89 = .ok (.putfield 40, 3) := by decide +kernel
theorem dX6_init_92 : decode cX6_init 92 = .ok (.aload_n 0, 1) := by decide +kernel
theorem dX6_init_93 : decode cX6_init 93 = .ok (.bipush 120, 2) := by decide +kernel
theorem dX6_init_95 : decode cX6_init 95 = .ok (.newarray .int, 2) := by decide +kernel
theorem dX6_init_97 : decode cX6_init 97 = .ok (.putfield 43, 3) := by decide +kernel
theorem dX6_init_100 : decode cX6_init 100 = .ok (.aload_n 0, 1) := by decide +kernel
theorem dX6_init_101 : decode cX6_init 101 = .ok (.bipush 40, 2) := by decide +kernel
theorem dX6_init_103 : decode cX6_init 103 = .ok (.newarray .int, 2) := by decide +kernel
theorem dX6_init_105 : decode cX6_init 105 = .ok (.putfield 46, 3) := by decide +kernel
theorem dX6_init_108 : decode cX6_init 108 = .ok (.aload_n 0, 1) := by decide +kernel
theorem dX6_init_109 : decode cX6_init 109 = .ok (.iconst 4, 1) := by decide +kernel
theorem dX6_init_110 : decode cX6_init 110 = .ok (.newarray .int, 2) := by decide +kernel
theorem dX6_init_112 : decode cX6_init 112 = .ok (.putfield 49, 3) := by decide +kernel
theorem dX6_init_115 : decode cX6_init 115 = .ok (.aload_n 0, 1) := by decide +kernel
theorem dX6_init_116 : decode cX6_init 116 = .ok (.bipush 76, 2) := by decide +kernel
theorem dX6_init_118 : decode cX6_init 118 = .ok (.newarray .int, 2) := by decide +kernel
theorem dX6_init_120 : decode cX6_init 120 = .ok (.putfield 52, 3) := by decide +kernel
theorem dX6_init_123 : decode cX6_init 123 = .ok (.aload_n 0, 1) := by decide +kernel
theorem dX6_init_124 : decode cX6_init 124 = .ok (.iconst 5, 1) := by decide +kernel
theorem dX6_init_125 : decode cX6_init 125 = .ok (.newarray .int, 2) := by decide +kernel
theorem dX6_init_127 : decode cX6_init 127 = .ok (.putfield 55, 3) := by decide +kernel
theorem dX6_init_130 : decode cX6_init 130 = .ok (.aload_n 0, 1) := by decide +kernel
theorem dX6_init_131 : decode cX6_init 131 = .ok (.iconst 5, 1) := by decide +kernel
theorem dX6_init_132 : decode cX6_init 132 = .ok (.newarray .boolean, 2) := by decide +kernel
theorem dX6_init_134 : decode cX6_init 134 = .ok (.putfield 58, 3) := by decide +kernel
theorem dX6_init_137 : decode cX6_init 137 = .ok (.aload_n 0, 1) := by decide +kernel
theorem dX6_init_138 : decode cX6_init 138 = .ok (.iconst 5, 1) := by decide +kernel
theorem dX6_init_139 : decode cX6_init 139 = .ok (.newarray .int, 2) := by decide +kernel
theorem dX6_init_141 : decode cX6_init 141 = .ok (.putfield 62, 3) := by decide +kernel
theorem dX6_init_144 : decode cX6_init 144 = .ok (.aload_n 0, 1) := by decide +kernel
theorem dX6_init_145 : decode cX6_init 145 = .ok (.iconst 5, 1) := by decide +kernel
theorem dX6_init_146 : decode cX6_init 146 = .ok (.newarray .int, 2) := by decide +kernel
theorem dX6_init_148 : decode cX6_init 148 = .ok (.putfield 65, 3) := by decide +kernel
theorem dX6_init_151 : decode cX6_init 151 = .ok (.aload_n 0, 1) := by decide +kernel
theorem dX6_init_152 : decode cX6_init 152 = .ok (.iconst (-1), 1) := by decide +kernel
theorem dX6_init_153 : decode cX6_init 153 = .ok (.putfield 68, 3) := by decide +kernel
theorem dX6_init_156 : decode cX6_init 156 = .ok (.aload_n 0, 1) := by decide +kernel
theorem dX6_init_157 : decode cX6_init 157 = .ok (.iconst 5, 1) := by decide +kernel
theorem dX6_init_158 : decode cX6_init 158 = .ok (.newarray .int, 2) := by decide +kernel
theorem dX6_init_160 : decode cX6_init 160 = .ok (.putfield 72, 3) := by decide +kernel
theorem dX6_init_163 : decode cX6_init 163 = .ok (.aload_n 0, 1) := by decide +kernel
theorem dX6_init_164 : decode cX6_init 164 = .ok (.bipush 80, 2) := by decide +kernel
theorem dX6_init_166 : decode cX6_init 166 = .ok (.newarray .int, 2) := by decide +kernel
theorem dX6_init_168 : decode cX6_init 168 = .ok (.putfield 75, 3) := by decide +kernel
theorem dX6_init_171 : decode cX6_init 171 = .ok (.aload_n 0, 1) := by decide +kernel
theorem dX6_init_172 : decode cX6_init 172 = .ok (.bipush 80, 2) := by decide +kernel
theorem dX6_init_174 : decode cX6_init 174 = .ok (.newarray .int, 2) := by decide +kernel
theorem dX6_init_176 : decode cX6_init 176 = .ok (.putfield 78, 3) := by decide +kernel
theorem dX6_init_179 : decode cX6_init 179 = .ok (.aload_n 0, 1) := by decide +kernel
theorem dX6_init_180 : decode cX6_init 180 = .ok (.bipush 80, 2) := by decide +kernel
theorem dX6_init_182 : decode cX6_init 182 = .ok (.newarray .int, 2) := by decide +kernel
theorem dX6_init_184 : decode cX6_init 184 = .ok (.putfield 81, 3) := by decide +kernel
theorem dX6_init_187 : decode cX6_init 187 = .ok (.aload_n 0, 1) := by decide +kernel
theorem dX6_init_188 : decode cX6_init 188 = .ok (.bipush 80, 2) := by decide +kernel
theorem dX6_init_190 : decode cX6_init 190 = .ok (.newarray .int, 2) := by decide +kernel
theorem dX6_init_192 : decode cX6_init 192 = .ok (.putfield 84, 3) := by decide +kernel
theorem dX6_init_195 : decode cX6_init 195 = .ok (.aload_n 0, 1) := by decide +kernel
theorem dX6_init_196 : decode cX6_init 196 = .ok (.bipush 80, 2) := by decide +kernel
theorem dX6_init_198 : decode cX6_init 198 = .ok (.newarray .int, 2) := by decide +kernel
theorem dX6_init_200 : decode cX6_init 200 = .ok (.putfield 87, 3) := by decide +kernel
theorem dX6_init_203 : decode cX6_init 203 = .ok (.aload_n 0, 1) := by decide +kernel
theorem dX6_init_204 : decode cX6_init 204 = .ok (.bipush 80, 2) := by decide +kernel
theorem dX6_init_206 : decode cX6_init 206 = .ok (.newarray .int, 2) := by decide +kernel
theorem dX6_init_208 : decode cX6_init 208 = .ok (.putfield 90, 3) := by decide +kernel
theorem dX6_init_211 : decode cX6_init 211 = .ok (.aload_n 0, 1) := by decide +kernel
theorem dX6_init_212 : decode cX6_init 212 = .ok (.bipush 80, 2) := by decide +kernel
theorem dX6_init_214 : decode cX6_init 214 = .ok (.newarray .int, 2) := by decide +kernel
theorem dX6_init_216 : decode cX6_init 216 = .ok (.putfield 93, 3) := by decide +kernel
theorem dX6_init_219 : decode cX6_init 219 = .ok (.aload_n 0, 1) := by decide +kernel
theorem dX6_init_220 : decode cX6_init 220 = .ok (.sipush 240, 3) := by decide +kernel
theorem dX6_init_223 : decode cX6_init 223 = .ok (.newarray .int, 2) := by decide +kernel
theorem dX6_init_225 : decode cX6_init 225 = .ok (.putfield 96, 3) := by decide +kernel
theorem dX6_init_228 : decode cX6_init 228 = .ok (.aload_n 0, 1) := by decide +kernel
theorem dX6_init_229 : decode cX6_init 229 = .ok (.bipush 80, 2) := by decide +kernel
theorem dX6_init_231 : decode cX6_init 231 = .ok (.newarray .int, 2) := by decide +kernel
theorem dX6_init_233 : decode cX6_init 233 = .ok (.putfield 99, 3) := by decide +kernel
theorem dX6_init_236 : decode cX6_init 236 = .ok (.aload_n 0, 1) := by decide +kernel
theorem dX6_init_237 : decode cX6_init 237 = .ok (.iconst 3, 1) := by decide +kernel
theorem dX6_init_238 : decode cX6_init 238 = .ok (.newarray .int, 2) := by decide +kernel
theorem dX6_init_240 : decode cX6_init 240 = .ok (.putfield 102, 3) := by decide +kernel
theorem dX6_init_243 : decode cX6_init 243 = .ok (.aload_n 0, 1) := by decide +kernel
theorem dX6_init_244 : decode cX6_init 244 = .ok (.iconst 4, 1) := by decide +kernel
theorem dX6_init_245 : decode cX6_init 245 = .ok (.newarray .int, 2) := by decide +kernel
theorem dX6_init_247 : decode cX6_init 247 = .ok (.putfield 105, 3) := by decide +kernel
theorem dX6_init_250 : decode cX6_init 250 = .ok (.iconst 0, 1) := by decide +kernel
theorem dX6_init_251 : decode cX6_init 251 = .ok (.istore_n 1, 1) := by decide +kernel
theorem dX6_init_252 : decode cX6_init 252 = .ok (.iload_n 1, 1) := by decide +kernel
theorem dX6_init_253 : decode cX6_init 253 = .ok (.bipush 76, 2) := by decide +kernel
theorem dX6_init_255 : decode cX6_init 255 = .ok (.if_icmp .ge 32, 3) := by decide +kernel
theorem dX6_init_258 : decode cX6_init 258 = .ok (.aload_n 0, 1) := by decide +kernel
theorem dX6_init_259 : decode cX6_init 259 = .ok (.getfield 52, 3) := by decide +kernel
theorem dX6_init_262 : decode cX6_init 262 = .ok (.iload_n 1, 1) := by decide +kernel
theorem dX6_init_263 : decode cX6_init 263 = .ok (.bipush 100, 2) := by decide +kernel
theorem dX6_init_265 : decode cX6_init 265 = .ok (.iload_n 1, 1) := by decide +kernel
theorem dX6_init_266 : decode cX6_init 266 = .ok (.bipush 19, 2) := by decide +kernel
theorem dX6_init_268 : decode cX6_init 268 = .ok (.idiv, 1) := by decide +kernel
theorem dX6_init_269 : decode cX6_init 269 = .ok (.iconst 1, 1) := by decide +kernel
theorem dX6_init_270 : decode cX6_init 270 = .ok (.iadd, 1) := by decide +kernel
theorem dX6_init_271 : decode cX6_init 271 = .ok (.imul, 1) := by decide +kernel
theorem dX6_init_272 : decode cX6_init 272 = .ok (.bipush 20, 2) := by decide +kernel
theorem dX6_init_274 : decode cX6_init 274 = .ok (.iload_n 1, 1) := by decide +kernel
theorem dX6_init_275 : decode cX6_init 275 = .ok (.bipush 19, 2) := by decide +kernel
theorem dX6_init_277 : decode cX6_init 277 = .ok (.irem, 1) := by decide +kernel
theorem dX6_init_278 : decode cX6_init 278 = .ok (.isub, 1) := by decide +kernel
theorem dX6_init_279 : decode cX6_init 279 = .ok (.imul, 1) := by decide +kernel
theorem dX6_init_280 : decode cX6_init 280 = .ok (.iastore, 1) := by decide +kernel
theorem dX6_init_281 : decode cX6_init 281 = .ok (.iinc 1 1, 3) := by decide +kernel
theorem dX6_init_284 : decode cX6_init 284 = .ok (.goto (-32), 3) := by decide +kernel
theorem dX6_init_287 : decode cX6_init 287 = .ok (.iconst 0, 1) := by decide +kernel
theorem dX6_init_288 : decode cX6_init 288 = .ok (.istore_n 1, 1) := by decide +kernel
theorem dX6_init_289 : decode cX6_init 289 = .ok (.iload_n 1, 1) := by decide +kernel
theorem dX6_init_290 : decode cX6_init 290 = .ok (.iconst 5, 1) := by decide +kernel
theorem dX6_init_291 : decode cX6_init 291 = .ok (.if_icmp .ge 24, 3) := by decide +kernel
theorem dX6_init_294 : decode cX6_init 294 = .ok (.aload_n 0, 1) := by decide +kernel
theorem dX6_init_295 : decode cX6_init 295 = .ok (.getfield 65, 3) := by decide +kernel
theorem dX6_init_298 : decode cX6_init 298 = .ok (.iload_n 1, 1) := by decide +kernel
theorem dX6_init_299 : decode cX6_init 299 = .ok (.bipush 50, 2) := by decide +kernel
theorem dX6_init_301 : decode cX6_init 301 = .ok (.iastore, 1) := by decide +kernel
theorem dX6_init_302 : decode cX6_init 302 = .ok (.aload_n 0, 1) := by decide +kernel
theorem dX6_init_303 : decode cX6_init 303 = .ok (.getfield 62, 3) := by decide +kernel
theorem dX6_init_306 : decode cX6_init 306 = .ok (.iload_n 1, 1) := by decide +kernel
theorem dX6_init_307 : decode cX6_init 307 = .ok (.iconst (-1), 1) := by decide +kernel
theorem dX6_init_308 : decode cX6_init 308 = .ok (.iastore, 1) := by decide +kernel
theorem dX6_init_309 : decode cX6_init 309 = .ok (.iinc 1 1, 3) := by decide +kernel
theorem dX6_init_312 : decode cX6_init 312 = .ok (.goto (-23), 3) := by decide +kernel
theorem dX6_init_315 : decode cX6_init 315 = .ok (.return_, 1) := by decide +kernel
theorem dX6_thrown_0 : decode cX6_thrown 0 = .ok (.aload_n 0, 1) := by decide +kernel
theorem dX6_thrown_1 : decode cX6_thrown 1 = .ok (.getfield 108, 3) := by decide +kernel
theorem dX6_thrown_4 : decode cX6_thrown 4 = .ok (.ireturn, 1) := by decide +kernel
theorem dX6_asked_0 : decode cX6_asked 0 = .ok (.aload_n 0, 1) := by decide +kernel
theorem dX6_asked_1 : decode cX6_asked 1 = .ok (.iload_n 1, 1) := by decide +kernel
theorem dX6_asked_2 : decode cX6_asked 2 = .ok (.ifCond .eq 7, 3) := by decide +kernel
theorem dX6_asked_5 : decode cX6_asked 5 = .ok (.iconst 0, 1) := by decide +kernel
theorem dX6_asked_6 : decode cX6_asked 6 = .ok (.goto 4, 3) := by decide +kernel
theorem dX6_asked_9 : decode cX6_asked 9 = .ok (.iconst 1, 1) := by decide +kernel
theorem dX6_asked_10 : decode cX6_asked 10 = .ok (.putfield 108, 3) := by decide +kernel
theorem dX6_asked_13 : decode cX6_asked 13 = .ok (.iload_n 1, 1) := by decide +kernel
theorem dX6_asked_14 : decode cX6_asked 14 = .ok (.ireturn, 1) := by decide +kernel
theorem dX6_asked__0 : decode cX6_asked_ 0 = .ok (.aload_n 0, 1) := by decide +kernel
theorem dX6_asked__1 : decode cX6_asked_ 1 = .ok (.iload_n 1, 1) := by decide +kernel
theorem dX6_asked__2 : decode cX6_asked_ 2 = .ok (.ifCond .ne 7, 3) := by decide +kernel
theorem dX6_asked__5 : decode cX6_asked_ 5 = .ok (.iconst 1, 1) := by decide +kernel
theorem dX6_asked__6 : decode cX6_asked_ 6 = .ok (.goto 12, 3) := by decide +kernel
theorem dX6_asked__9 : decode cX6_asked_ 9 = .ok (.iload_n 2, 1) := by decide +kernel
theorem dX6_asked__10 : decode cX6_asked_ 10 = .ok (.ifCond .eq 7, 3) := by decide +kernel
theorem dX6_asked__13 : decode cX6_asked_ 13 = .ok (.iconst 0, 1) := by decide +kernel
theorem dX6_asked__14 : decode cX6_asked_ 14 = .ok (.goto 4, 3) := by decide +kernel
theorem dX6_asked__17 : decode cX6_asked_ 17 = .ok (.iconst 2, 1) := by decide +kernel
theorem dX6_asked__18 : decode cX6_asked_ 18 = .ok (.putfield 108, 3) := by decide +kernel
theorem dX6_asked__21 : decode cX6_asked_ 21 = .ok (.aload_n 0, 1) := by decide +kernel
theorem dX6_asked__22 : decode cX6_asked_ 22 = .ok (.getfield 108, 3) := by decide +kernel
theorem dX6_asked__25 : decode cX6_asked_ 25 = .ok (.ifCond .ne 7, 3) := by decide +kernel
theorem dX6_asked__28 : decode cX6_asked_ 28 = .ok (.iconst 1, 1) := by decide +kernel
theorem dX6_asked__29 : decode cX6_asked_ 29 = .ok (.goto 4, 3) := by decide +kernel
theorem dX6_asked__32 : decode cX6_asked_ 32 = .ok (.iconst 0, 1) := by decide +kernel
theorem dX6_asked__33 : decode cX6_asked_ 33 = .ok (.ireturn, 1) := by decide +kernel
theorem dX6_asked___0 : decode cX6_asked__ 0 = .ok (.aload_n 0, 1) := by decide +kernel
theorem dX6_asked___1 : decode cX6_asked__ 1 = .ok (.iload_n 1, 1) := by decide +kernel
theorem dX6_asked___2 : decode cX6_asked__ 2 = .ok (.ifCond .ne 7, 3) := by decide +kernel
theorem dX6_asked___5 : decode cX6_asked__ 5 = .ok (.iconst 1, 1) := by decide +kernel
theorem dX6_asked___6 : decode cX6_asked__ 6 = .ok (.goto 20, 3) := by decide +kernel
theorem dX6_asked___9 : decode cX6_asked__ 9 = .ok (.iload_n 2, 1) := by decide +kernel
theorem dX6_asked___10 : decode cX6_asked__ 10 = .ok (.ifCond .ne 7, 3) := by decide +kernel
theorem dX6_asked___13 : decode cX6_asked__ 13 = .ok (.iconst 2, 1) := by decide +kernel
theorem dX6_asked___14 : decode cX6_asked__ 14 = .ok (.goto 12, 3) := by decide +kernel
theorem dX6_asked___17 : decode cX6_asked__ 17 = .ok (.iload_n 3, 1) := by decide +kernel
theorem dX6_asked___18 : decode cX6_asked__ 18 = .ok (.ifCond .eq 7, 3) := by decide +kernel
theorem dX6_asked___21 : decode cX6_asked__ 21 = .ok (.iconst 0, 1) := by decide +kernel
theorem dX6_asked___22 : decode cX6_asked__ 22 = .ok (.goto 4, 3) := by decide +kernel
theorem dX6_asked___25 : decode cX6_asked__ 25 = .ok (.iconst 3, 1) := by decide +kernel
theorem dX6_asked___26 : decode cX6_asked__ 26 = .ok (.putfield 108, 3) := by decide +kernel
theorem dX6_asked___29 : decode cX6_asked__ 29 = .ok (.aload_n 0, 1) := by decide +kernel
theorem dX6_asked___30 : decode cX6_asked__ 30 = .ok (.getfield 108, 3) := by decide +kernel
theorem dX6_asked___33 : decode cX6_asked__ 33 = .ok (.ifCond .ne 7, 3) := by decide +kernel
theorem dX6_asked___36 : decode cX6_asked__ 36 = .ok (.iconst 1, 1) := by decide +kernel
theorem dX6_asked___37 : decode cX6_asked__ 37 = .ok (.goto 4, 3) := by decide +kernel
theorem dX6_asked___40 : decode cX6_asked__ 40 = .ok (.iconst 0, 1) := by decide +kernel
theorem dX6_asked___41 : decode cX6_asked__ 41 = .ok (.ireturn, 1) := by decide +kernel
theorem dX6_in_0 : decode cX6_in 0 = .ok (.iload_n 0, 1) := by decide +kernel
theorem dX6_in_1 : decode cX6_in 1 = .ok (.iload_n 1, 1) := by decide +kernel
theorem dX6_in_2 : decode cX6_in 2 = .ok (.if_icmp .lt 12, 3) := by decide +kernel
theorem dX6_in_5 : decode cX6_in 5 = .ok (.iload_n 0, 1) := by decide +kernel
theorem dX6_in_6 : decode cX6_in 6 = .ok (.iload_n 2, 1) := by decide +kernel
theorem dX6_in_7 : decode cX6_in 7 = .ok (.if_icmp .gt 7, 3) := by decide +kernel
theorem dX6_in_10 : decode cX6_in 10 = .ok (.iconst 1, 1) := by decide +kernel
theorem dX6_in_11 : decode cX6_in 11 = .ok (.goto 4, 3) := by decide +kernel
theorem dX6_in_14 : decode cX6_in 14 = .ok (.iconst 0, 1) := by decide +kernel
theorem dX6_in_15 : decode cX6_in 15 = .ok (.ireturn, 1) := by decide +kernel
theorem dX6_isStone_0 : decode cX6_isStone 0 = .ok (.iload_n 1, 1) := by decide +kernel
theorem dX6_isStone_1 : decode cX6_isStone 1 = .ok (.iconst 0, 1) := by decide +kernel
theorem dX6_isStone_2 : decode cX6_isStone 2 = .ok (.aload_n 0, 1) := by decide +kernel
theorem dX6_isStone_3 : decode cX6_isStone 3 = .ok (.getfield 111, 3) := by decide +kernel
theorem dX6_isStone_6 : decode cX6_isStone 6 = .ok (.iconst 1, 1) := by decide +kernel
theorem dX6_isStone_7 : decode cX6_isStone 7 = .ok (.isub, 1) := by decide +kernel
theorem dX6_isStone_8 : decode cX6_isStone 8 = .ok (.invokestatic 114, 3) := by decide +kernel
theorem dX6_isStone_11 : decode cX6_isStone 11 = .ok (.ireturn, 1) := by decide +kernel
theorem dX6_isPolished_0 : decode cX6_isPolished 0 = .ok (.iload_n 1, 1) := by decide +kernel
theorem dX6_isPolished_1 : decode cX6_isPolished 1 = .ok (.iconst 0, 1) := by decide +kernel
theorem dX6_isPolished_2 : decode cX6_isPolished 2 = .ok (.aload_n 0, 1) := by decide +kernel
theorem dX6_isPolished_3 : decode cX6_isPolished 3 = .ok (.getfield 118, 3) := by decide +kernel
theorem dX6_isPolished_6 : decode cX6_isPolished 6 = .ok (.iconst 1, 1) := by decide +kernel
theorem dX6_isPolished_7 : decode cX6_isPolished 7 = .ok (.isub, 1) := by decide +kernel
theorem dX6_isPolished_8 : decode cX6_isPolished 8 = .ok (.invokestatic 114, 3) := by decide +kernel
theorem dX6_isPolished_11 : decode cX6_isPolished 11 = .ok (.ireturn, 1) := by decide +kernel
theorem dX6_isBuyer_0 : decode cX6_isBuyer 0 = .ok (.iload_n 0, 1) := by decide +kernel
theorem dX6_isBuyer_1 : decode cX6_isBuyer 1 = .ok (.iconst 0, 1) := by decide +kernel
theorem dX6_isBuyer_2 : decode cX6_isBuyer 2 = .ok (.iconst 4, 1) := by decide +kernel
theorem dX6_isBuyer_3 : decode cX6_isBuyer 3 = .ok (.invokestatic 114, 3) := by decide +kernel
theorem dX6_isBuyer_6 : decode cX6_isBuyer 6 = .ok (.ireturn, 1) := by decide +kernel
theorem dX6_within_0 : decode cX6_within 0 = .ok (.iload_n 0, 1) := by decide +kernel
theorem dX6_within_1 : decode cX6_within 1 = .ok (.ifCond .ge 7, 3) := by decide +kernel
theorem dX6_within_4 : decode cX6_within 4 = .ok (.iconst 0, 1) := by decide +kernel
theorem dX6_within_5 : decode cX6_within 5 = .ok (.goto 13, 3) := by decide +kernel
theorem dX6_within_8 : decode cX6_within 8 = .ok (.iload_n 0, 1) := by decide +kernel
theorem dX6_within_9 : decode cX6_within 9 = .ok (.iload_n 1, 1) := by decide +kernel
theorem dX6_within_10 : decode cX6_within 10 = .ok (.if_icmp .le 7, 3) := by decide +kernel
theorem dX6_within_13 : decode cX6_within 13 = .ok (.iload_n 1, 1) := by decide +kernel
theorem dX6_within_14 : decode cX6_within 14 = .ok (.goto 4, 3) := by decide +kernel
theorem dX6_within_17 : decode cX6_within 17 = .ok (.iload_n 0, 1) := by decide +kernel
theorem dX6_within_18 : decode cX6_within 18 = .ok (.ireturn, 1) := by decide +kernel
theorem dX6_middle_0 : decode cX6_middle 0 = .ok (.iload_n 0, 1) := by decide +kernel
theorem dX6_middle_1 : decode cX6_middle 1 = .ok (.iload_n 1, 1) := by decide +kernel
theorem dX6_middle_2 : decode cX6_middle 2 = .ok (.if_icmp .ge 7, 3) := by decide +kernel
theorem dX6_middle_5 : decode cX6_middle 5 = .ok (.iload_n 0, 1) := by decide +kernel
theorem dX6_middle_6 : decode cX6_middle 6 = .ok (.goto 4, 3) := by decide +kernel
theorem dX6_middle_9 : decode cX6_middle 9 = .ok (.iload_n 1, 1) := by decide +kernel
theorem dX6_middle_10 : decode cX6_middle 10 = .ok (.istore_n 3, 1) := by decide +kernel
theorem dX6_middle_11 : decode cX6_middle 11 = .ok (.iload_n 0, 1) := by decide +kernel
theorem dX6_middle_12 : decode cX6_middle 12 = .ok (.iload_n 1, 1) := by decide +kernel
theorem dX6_middle_13 : decode cX6_middle 13 = .ok (.if_icmp .ge 7, 3) := by decide +kernel
theorem dX6_middle_16 : decode cX6_middle 16 = .ok (.iload_n 1, 1) := by decide +kernel
theorem dX6_middle_17 : decode cX6_middle 17 = .ok (.goto 4, 3) := by decide +kernel
theorem dX6_middle_20 : decode cX6_middle 20 = .ok (.iload_n 0, 1) := by decide +kernel
theorem dX6_middle_21 : decode cX6_middle 21 = .ok (.istore 4, 2) := by decide +kernel
theorem dX6_middle_23 : decode cX6_middle 23 = .ok (.iload_n 2, 1) := by decide +kernel
theorem dX6_middle_24 : decode cX6_middle 24 = .ok (.iload_n 3, 1) := by decide +kernel
theorem dX6_middle_25 : decode cX6_middle 25 = .ok (.if_icmp .ge 7, 3) := by decide +kernel
theorem dX6_middle_28 : decode cX6_middle 28 = .ok (.iload_n 3, 1) := by decide +kernel
theorem dX6_middle_29 : decode cX6_middle 29 = .ok (.goto 15, 3) := by decide +kernel
theorem dX6_middle_32 : decode cX6_middle 32 = .ok (.iload_n 2, 1) := by decide +kernel
theorem dX6_middle_33 : decode cX6_middle 33 = .ok (.iload 4, 2) := by decide +kernel
theorem dX6_middle_35 : decode cX6_middle 35 = .ok (.if_icmp .le 8, 3) := by decide +kernel
theorem dX6_middle_38 : decode cX6_middle 38 = .ok (.iload 4, 2) := by decide +kernel
theorem dX6_middle_40 : decode cX6_middle 40 = .ok (.goto 4, 3) := by decide +kernel
theorem dX6_middle_43 : decode cX6_middle 43 = .ok (.iload_n 2, 1) := by decide +kernel
theorem dX6_middle_44 : decode cX6_middle 44 = .ok (.ireturn, 1) := by decide +kernel
theorem dX6_parcel_0 : decode cX6_parcel 0 = .ok (.aload_n 0, 1) := by decide +kernel
theorem dX6_parcel_1 : decode cX6_parcel 1 = .ok (.iload_n 1, 1) := by decide +kernel
theorem dX6_parcel_2 : decode cX6_parcel 2 = .ok (.iconst 0, 1) := by decide +kernel
theorem dX6_parcel_3 : decode cX6_parcel 3 = .ok (.iconst 3, 1) := by decide +kernel
theorem dX6_parcel_4 : decode cX6_parcel 4 = .ok (.invokestatic 114, 3) := by decide +kernel
theorem dX6_parcel_7 : decode cX6_parcel 7 = .ok (.aload_n 0, 1) := by decide +kernel
theorem dX6_parcel_8 : decode cX6_parcel 8 = .ok (.getfield 121, 3) := by decide +kernel
theorem dX6_parcel_11 : decode cX6_parcel 11 = .ok (.bipush 12, 2) := by decide +kernel
theorem dX6_parcel_13 : decode cX6_parcel 13 = .ok (.if_icmp .ge 7, 3) := by decide +kernel
theorem dX6_parcel_16 : decode cX6_parcel 16 = .ok (.iconst 1, 1) := by decide +kernel
theorem dX6_parcel_17 : decode cX6_parcel 17 = .ok (.goto 4, 3) := by decide +kernel
theorem dX6_parcel_20 : decode cX6_parcel 20 = .ok (.iconst 0, 1) := by decide +kernel
theorem dX6_parcel_21 : decode cX6_parcel 21 = .ok (.invokevirtual 124, 3) := by decide +kernel
theorem dX6_parcel_24 : decode cX6_parcel 24 = .ok (.ifCond .ne 5, 3) := by decide +kernel
theorem dX6_parcel_27 : decode cX6_parcel 27 = .ok (.iconst 0, 1) := by decide +kernel
theorem dX6_parcel_28 : decode cX6_parcel 28 = .ok (.ireturn, 1) := by decide +kernel
theorem dX6_parcel_29 : decode cX6_parcel 29 = .ok (.aload_n 0, 1) := by decide +kernel
theorem dX6_parcel_30 : decode cX6_parcel 30 = .ok (.getfield 7, 3) := by decide +kernel
theorem dX6_parcel_33 : decode cX6_parcel 33 = .ok (.aload_n 0, 1) := by decide +kernel
theorem dX6_parcel_34 : decode cX6_parcel 34 = .ok (.getfield 121, 3) := by decide +kernel
theorem dX6_parcel_37 : decode cX6_parcel 37 = .ok (.iload_n 1, 1) := by decide +kernel
theorem dX6_parcel_38 : decode cX6_parcel 38 = .ok (.iastore, 1) := by decide +kernel
theorem dX6_parcel_39 : decode cX6_parcel 39 = .ok (.aload_n 0, 1) := by decide +kernel
theorem dX6_parcel_40 : decode cX6_parcel 40 = .ok (.dup, 1) := by decide +kernel
theorem dX6_parcel_41 : decode cX6_parcel 41 = .ok (.getfield 121, 3) := by decide +kernel
theorem dX6_parcel_44 : decode cX6_parcel 44 = .ok (.iconst 1, 1) := by decide +kernel
theorem dX6_parcel_45 : decode cX6_parcel 45 = .ok (.iadd, 1) := by decide +kernel
theorem dX6_parcel_46 : decode cX6_parcel 46 = .ok (.putfield 121, 3) := by decide +kernel
theorem dX6_parcel_49 : decode cX6_parcel 49 = .ok (.aload_n 0, 1) := by decide +kernel
theorem dX6_parcel_50 : decode cX6_parcel 50 = .ok (.getfield 121, 3) := by decide +kernel
theorem dX6_parcel_53 : decode cX6_parcel 53 = .ok (.iconst 1, 1) := by decide +kernel
theorem dX6_parcel_54 : decode cX6_parcel 54 = .ok (.isub, 1) := by decide +kernel
theorem dX6_parcel_55 : decode cX6_parcel 55 = .ok (.ireturn, 1) := by decide +kernel
theorem dX6_stone_0 : decode cX6_stone 0 = .ok (.iload_n 2, 1) := by decide +kernel
theorem dX6_stone_1 : decode cX6_stone 1 = .ok (.bipush 12, 2) := by decide +kernel
theorem dX6_stone_3 : decode cX6_stone 3 = .ok (.sipush 9999, 3) := by decide +kernel
theorem dX6_stone_6 : decode cX6_stone 6 = .ok (.invokestatic 114, 3) := by decide +kernel
theorem dX6_stone_9 : decode cX6_stone 9 = .ok (.ifCond .eq 40, 3) := by decide +kernel
theorem dX6_stone_12 : decode cX6_stone 12 = .ok (.iload_n 3, 1) := by decide +kernel
theorem dX6_stone_13 : decode cX6_stone 13 = .ok (.iconst 0, 1) := by decide +kernel
theorem dX6_stone_14 : decode cX6_stone 14 = .ok (.bipush 9, 2) := by decide +kernel
theorem dX6_stone_16 : decode cX6_stone 16 = .ok (.invokestatic 114, 3) := by decide +kernel
theorem dX6_stone_19 : decode cX6_stone 19 = .ok (.ifCond .eq 30, 3) := by decide +kernel
theorem dX6_stone_22 : decode cX6_stone 22 = .ok (.iload 4, 2) := by decide +kernel
theorem dX6_stone_24 : decode cX6_stone 24 = .ok (.iconst 0, 1) := by decide +kernel
theorem dX6_stone_25 : decode cX6_stone 25 = .ok (.bipush 9, 2) := by decide +kernel
theorem dX6_stone_27 : decode cX6_stone 27 = .ok (.invokestatic 114, 3) := by decide +kernel
theorem dX6_stone_30 : decode cX6_stone 30 = .ok (.ifCond .eq 19, 3) := by decide +kernel
theorem dX6_stone_33 : decode cX6_stone 33 = .ok (.iload 5, 2) := by decide +kernel
theorem dX6_stone_35 : decode cX6_stone 35 = .ok (.iconst 0, 1) := by decide +kernel
theorem dX6_stone_36 : decode cX6_stone 36 = .ok (.sipush 4095, 3) := by decide +kernel
theorem dX6_stone_39 : decode cX6_stone 39 = .ok (.invokestatic 114, 3) := by decide +kernel
theorem dX6_stone_42 : decode cX6_stone 42 = .ok (.ifCond .eq 7, 3) := by decide +kernel
theorem dX6_stone_45 : decode cX6_stone 45 = .ok (.iconst 1, 1) := by decide +kernel
theorem dX6_stone_46 : decode cX6_stone 46 = .ok (.goto 4, 3) := by decide +kernel
theorem dX6_stone_49 : decode cX6_stone 49 = .ok (.iconst 0, 1) := by decide +kernel
theorem dX6_stone_50 : decode cX6_stone 50 = .ok (.istore 6, 2) := by decide +kernel
theorem dX6_stone_52 : decode cX6_stone 52 = .ok (.aload_n 0, 1) := by decide +kernel
theorem dX6_stone_53 : decode cX6_stone 53 = .ok (.iload_n 1, 1) := by decide +kernel
theorem dX6_stone_54 : decode cX6_stone 54 = .ok (.iconst 0, 1) := by decide +kernel
theorem dX6_stone_55 : decode cX6_stone 55 = .ok (.aload_n 0, 1) := by decide +kernel
theorem dX6_stone_56 : decode cX6_stone 56 = .ok (.getfield 121, 3) := by decide +kernel
theorem dX6_stone_59 : decode cX6_stone 59 = .ok (.iconst 1, 1) := by decide +kernel
theorem dX6_stone_60 : decode cX6_stone 60 = .ok (.isub, 1) := by decide +kernel
theorem dX6_stone_61 : decode cX6_stone 61 = .ok (.invokestatic 114, 3) := by decide +kernel
theorem dX6_stone_64 : decode cX6_stone 64 = .ok (.iload 6, 2) := by decide +kernel
theorem dX6_stone_66 : decode cX6_stone 66 = .ok (.aload_n 0, 1) := by decide +kernel
theorem dX6_stone_67 : decode cX6_stone 67 = .ok (.getfield 111, 3) := by decide +kernel
theorem dX6_stone_70 : decode cX6_stone 70 = .ok (.bipush 40, 2) := by decide +kernel
theorem dX6_stone_72 : decode cX6_stone 72 = .ok (.if_icmp .ge 7, 3) := by decide +kernel
theorem dX6_stone_75 : decode cX6_stone 75 = .ok (.iconst 1, 1) := by decide +kernel
theorem dX6_stone_76 : decode cX6_stone 76 = .ok (.goto 4, 3) := by decide +kernel
theorem dX6_stone_79 : decode cX6_stone 79 = .ok (.iconst 0, 1) := by decide +kernel
theorem dX6_stone_80 : decode cX6_stone 80 = .ok (.invokevirtual 128, 3) := by decide +kernel
theorem dX6_stone_83 : decode cX6_stone 83 = .ok (.ifCond .ne 5, 3) := by decide +kernel
theorem dX6_stone_86 : decode cX6_stone 86 = .ok (.iconst 0, 1) := by decide +kernel
theorem dX6_stone_87 : decode cX6_stone 87 = .ok (.ireturn, 1) := by decide +kernel
theorem dX6_stone_88 : decode cX6_stone 88 = .ok (.aload_n 0, 1) := by decide +kernel
theorem dX6_stone_89 : decode cX6_stone 89 = .ok (.getfield 13, 3) := by decide +kernel
theorem dX6_stone_92 : decode cX6_stone 92 = .ok (.aload_n 0, 1) := by decide +kernel
theorem dX6_stone_93 : decode cX6_stone 93 = .ok (.getfield 111, 3) := by decide +kernel
theorem dX6_stone_96 : decode cX6_stone 96 = .ok (.iload_n 1, 1) := by decide +kernel
theorem dX6_stone_97 : decode cX6_stone 97 = .ok (.iastore, 1) := by decide +kernel
theorem dX6_stone_98 : decode cX6_stone 98 = .ok (.aload_n 0, 1) := by decide +kernel
theorem dX6_stone_99 : decode cX6_stone 99 = .ok (.getfield 16, 3) := by decide +kernel
theorem dX6_stone_102 : decode cX6_stone 102 = .ok (.aload_n 0, 1) := by decide +kernel
theorem dX6_stone_103 : decode cX6_stone 103 = .ok (.getfield 111, 3) := by decide +kernel
theorem dX6_stone_106 : decode cX6_stone 106 = .ok (.iload_n 2, 1) := by decide +kernel
theorem dX6_stone_107 : decode cX6_stone 107 = .ok (.iastore, 1) := by decide +kernel
theorem dX6_stone_108 : decode cX6_stone 108 = .ok (.aload_n 0, 1) := by decide +kernel
theorem dX6_stone_109 : decode cX6_stone 109 = .ok (.getfield 19, 3) := by decide +kernel
theorem dX6_stone_112 : decode cX6_stone 112 = .ok (.aload_n 0, 1) := by decide +kernel
theorem dX6_stone_113 : decode cX6_stone 113 = .ok (.getfield 111, 3) := by decide +kernel
theorem dX6_stone_116 : decode cX6_stone 116 = .ok (.iload_n 3, 1) := by decide +kernel
theorem dX6_stone_117 : decode cX6_stone 117 = .ok (.iastore, 1) := by decide +kernel
theorem dX6_stone_118 : decode cX6_stone 118 = .ok (.aload_n 0, 1) := by decide +kernel
theorem dX6_stone_119 : decode cX6_stone 119 = .ok (.getfield 22, 3) := by decide +kernel
theorem dX6_stone_122 : decode cX6_stone 122 = .ok (.aload_n 0, 1) := by decide +kernel
theorem dX6_stone_123 : decode cX6_stone 123 = .ok (.getfield 111, 3) := by decide +kernel
theorem dX6_stone_126 : decode cX6_stone 126 = .ok (.iload 4, 2) := by decide +kernel
theorem dX6_stone_128 : decode cX6_stone 128 = .ok (.iastore, 1) := by decide +kernel
theorem dX6_stone_129 : decode cX6_stone 129 = .ok (.aload_n 0, 1) := by decide +kernel
theorem dX6_stone_130 : decode cX6_stone 130 = .ok (.getfield 25, 3) := by decide +kernel
theorem dX6_stone_133 : decode cX6_stone 133 = .ok (.aload_n 0, 1) := by decide +kernel
theorem dX6_stone_134 : decode cX6_stone 134 = .ok (.getfield 111, 3) := by decide +kernel
theorem dX6_stone_137 : decode cX6_stone 137 = .ok (.iload 5, 2) := by decide +kernel
theorem dX6_stone_139 : decode cX6_stone 139 = .ok (.iastore, 1) := by decide +kernel
theorem dX6_stone_140 : decode cX6_stone 140 = .ok (.aload_n 0, 1) := by decide +kernel
theorem dX6_stone_141 : decode cX6_stone 141 = .ok (.getfield 31, 3) := by decide +kernel
theorem dX6_stone_144 : decode cX6_stone 144 = .ok (.aload_n 0, 1) := by decide +kernel
theorem dX6_stone_145 : decode cX6_stone 145 = .ok (.getfield 111, 3) := by decide +kernel
theorem dX6_stone_148 : decode cX6_stone 148 = .ok (.iconst (-1), 1) := by decide +kernel
theorem dX6_stone_149 : decode cX6_stone 149 = .ok (.iastore, 1) := by decide +kernel
theorem dX6_stone_150 : decode cX6_stone 150 = .ok (.aload_n 0, 1) := by decide +kernel
theorem dX6_stone_151 : decode cX6_stone 151 = .ok (.getfield 34, 3) := by decide +kernel
theorem dX6_stone_154 : decode cX6_stone 154 = .ok (.aload_n 0, 1) := by decide +kernel
theorem dX6_stone_155 : decode cX6_stone 155 = .ok (.getfield 111, 3) := by decide +kernel
theorem dX6_stone_158 : decode cX6_stone 158 = .ok (.iconst (-1), 1) := by decide +kernel
theorem dX6_stone_159 : decode cX6_stone 159 = .ok (.iastore, 1) := by decide +kernel
theorem dX6_stone_160 : decode cX6_stone 160 = .ok (.aload_n 0, 1) := by decide +kernel
theorem dX6_stone_161 : decode cX6_stone 161 = .ok (.dup, 1) := by decide +kernel
theorem dX6_stone_162 : decode cX6_stone 162 = .ok (.getfield 111, 3) := by decide +kernel
theorem dX6_stone_165 : decode cX6_stone 165 = .ok (.iconst 1, 1) := by decide +kernel
theorem dX6_stone_166 : decode cX6_stone 166 = .ok (.iadd, 1) := by decide +kernel
theorem dX6_stone_167 : decode cX6_stone 167 = .ok (.putfield 111, 3) := by decide +kernel
theorem dX6_stone_170 : decode cX6_stone 170 = .ok (.aload_n 0, 1) := by decide +kernel
theorem dX6_stone_171 : decode cX6_stone 171 = .ok (.getfield 111, 3) := by decide +kernel
theorem dX6_stone_174 : decode cX6_stone 174 = .ok (.iconst 1, 1) := by decide +kernel
theorem dX6_stone_175 : decode cX6_stone 175 = .ok (.isub, 1) := by decide +kernel
theorem dX6_stone_176 : decode cX6_stone 176 = .ok (.ireturn, 1) := by decide +kernel
theorem dX6_drift_0 : decode cX6_drift 0 = .ok (.aload_n 0, 1) := by decide +kernel
theorem dX6_drift_1 : decode cX6_drift 1 = .ok (.iload_n 1, 1) := by decide +kernel
theorem dX6_drift_2 : decode cX6_drift 2 = .ok (.iconst 0, 1) := by decide +kernel
theorem dX6_drift_3 : decode cX6_drift 3 = .ok (.iconst 3, 1) := by decide +kernel
theorem dX6_drift_4 : decode cX6_drift 4 = .ok (.invokestatic 114, 3) := by decide +kernel
theorem dX6_drift_7 : decode cX6_drift 7 = .ok (.iload_n 2, 1) := by decide +kernel
theorem dX6_drift_8 : decode cX6_drift 8 = .ok (.bipush (-2), 2) := by decide +kernel
theorem dX6_drift_10 : decode cX6_drift 10 = .ok (.iconst 2, 1) := by decide +kernel
theorem dX6_drift_11 : decode cX6_drift 11 = .ok (.invokestatic 114, 3) := by decide +kernel
theorem dX6_drift_14 : decode cX6_drift 14 = .ok (.invokevirtual 124, 3) := by decide +kernel
theorem dX6_drift_17 : decode cX6_drift 17 = .ok (.ifCond .ne 5, 3) := by decide +kernel
theorem dX6_drift_20 : decode cX6_drift 20 = .ok (.iconst 0, 1) := by decide +kernel
theorem dX6_drift_21 : decode cX6_drift 21 = .ok (.ireturn, 1) := by decide +kernel
theorem dX6_drift_22 : decode cX6_drift 22 = .ok (.aload_n 0, 1) := by decide +kernel
theorem dX6_drift_23 : decode cX6_drift 23 = .ok (.getfield 49, 3) := by decide +kernel
theorem dX6_drift_26 : decode cX6_drift 26 = .ok (.iload_n 1, 1) := by decide +kernel
theorem dX6_drift_27 : decode cX6_drift 27 = .ok (.iaload, 1) := by decide +kernel
theorem dX6_drift_28 : decode cX6_drift 28 = .ok (.istore_n 3, 1) := by decide +kernel
theorem dX6_drift_29 : decode cX6_drift 29 = .ok (.aload_n 0, 1) := by decide +kernel
theorem dX6_drift_30 : decode cX6_drift 30 = .ok (.getfield 49, 3) := by decide +kernel
theorem dX6_drift_33 : decode cX6_drift 33 = .ok (.iload_n 1, 1) := by decide +kernel
theorem dX6_drift_34 : decode cX6_drift 34 = .ok (.iload_n 2, 1) := by decide +kernel
theorem dX6_drift_35 : decode cX6_drift 35 = .ok (.iastore, 1) := by decide +kernel
theorem dX6_drift_36 : decode cX6_drift 36 = .ok (.iload_n 3, 1) := by decide +kernel
theorem dX6_drift_37 : decode cX6_drift 37 = .ok (.ireturn, 1) := by decide +kernel
theorem dX6_sort_0 : decode cX6_sort 0 = .ok (.iload_n 1, 1) := by decide +kernel
theorem dX6_sort_1 : decode cX6_sort 1 = .ok (.iconst 0, 1) := by decide +kernel
theorem dX6_sort_2 : decode cX6_sort 2 = .ok (.iconst 3, 1) := by decide +kernel
theorem dX6_sort_3 : decode cX6_sort 3 = .ok (.invokestatic 114, 3) := by decide +kernel
theorem dX6_sort_6 : decode cX6_sort 6 = .ok (.ifCond .eq 15, 3) := by decide +kernel
theorem dX6_sort_9 : decode cX6_sort 9 = .ok (.aload_n 0, 1) := by decide +kernel
theorem dX6_sort_10 : decode cX6_sort 10 = .ok (.iload_n 2, 1) := by decide +kernel
theorem dX6_sort_11 : decode cX6_sort 11 = .ok (.invokevirtual 131, 3) := by decide +kernel
theorem dX6_sort_14 : decode cX6_sort 14 = .ok (.ifCond .eq 7, 3) := by decide +kernel
theorem dX6_sort_17 : decode cX6_sort 17 = .ok (.iconst 1, 1) := by decide +kernel
theorem dX6_sort_18 : decode cX6_sort 18 = .ok (.goto 4, 3) := by decide +kernel
theorem dX6_sort_21 : decode cX6_sort 21 = .ok (.iconst 0, 1) := by decide +kernel
theorem dX6_sort_22 : decode cX6_sort 22 = .ok (.istore_n 3, 1) := by decide +kernel
theorem dX6_sort_23 : decode cX6_sort 23 = .ok (.aload_n 0, 1) := by decide +kernel
theorem dX6_sort_24 : decode cX6_sort 24 = .ok (.iload_n 3, 1) := by decide +kernel
theorem dX6_sort_25 : decode cX6_sort 25 = .ok (.iload_n 3, 1) := by decide +kernel
theorem dX6_sort_26 : decode cX6_sort 26 = .ok (.ifCond .eq 39, 3) := by decide +kernel
theorem dX6_sort_29 : decode cX6_sort 29 = .ok (.aload_n 0, 1) := by decide +kernel
theorem dX6_sort_30 : decode cX6_sort 30 = .ok (.getfield 28, 3) := by decide +kernel
theorem dX6_sort_33 : decode cX6_sort 33 = .ok (.iload_n 2, 1) := by decide +kernel
theorem dX6_sort_34 : decode cX6_sort 34 = .ok (.iaload, 1) := by decide +kernel
theorem dX6_sort_35 : decode cX6_sort 35 = .ok (.ifCond .ne 30, 3) := by decide +kernel
theorem dX6_sort_38 : decode cX6_sort 38 = .ok (.aload_n 0, 1) := by decide +kernel
theorem dX6_sort_39 : decode cX6_sort 39 = .ok (.getfield 46, 3) := by decide +kernel
theorem dX6_sort_42 : decode cX6_sort 42 = .ok (.iload_n 2, 1) := by decide +kernel
theorem dX6_sort_43 : decode cX6_sort 43 = .ok (.iaload, 1) := by decide +kernel
theorem dX6_sort_44 : decode cX6_sort 44 = .ok (.iload_n 1, 1) := by decide +kernel
theorem dX6_sort_45 : decode cX6_sort 45 = .ok (.ishr, 1) := by decide +kernel
theorem dX6_sort_46 : decode cX6_sort 46 = .ok (.iconst 1, 1) := by decide +kernel
theorem dX6_sort_47 : decode cX6_sort 47 = .ok (.iand, 1) := by decide +kernel
theorem dX6_sort_48 : decode cX6_sort 48 = .ok (.ifCond .ne 17, 3) := by decide +kernel
theorem dX6_sort_51 : decode cX6_sort 51 = .ok (.aload_n 0, 1) := by decide +kernel
theorem dX6_sort_52 : decode cX6_sort 52 = .ok (.getfield 40, 3) := by decide +kernel
theorem dX6_sort_55 : decode cX6_sort 55 = .ok (.iload_n 2, 1) := by decide +kernel
theorem dX6_sort_56 : decode cX6_sort 56 = .ok (.iaload, 1) := by decide +kernel
theorem dX6_sort_57 : decode cX6_sort 57 = .ok (.iconst 3, 1) := by decide +kernel
theorem dX6_sort_58 : decode cX6_sort 58 = .ok (.if_icmp .ge 7, 3) := by decide +kernel
theorem dX6_sort_61 : decode cX6_sort 61 = .ok (.iconst 1, 1) := by decide +kernel
theorem dX6_sort_62 : decode cX6_sort 62 = .ok (.goto 4, 3) := by decide +kernel
theorem dX6_sort_65 : decode cX6_sort 65 = .ok (.iconst 0, 1) := by decide +kernel
theorem dX6_sort_66 : decode cX6_sort 66 = .ok (.invokevirtual 124, 3) := by decide +kernel
theorem dX6_sort_69 : decode cX6_sort 69 = .ok (.ifCond .ne 5, 3) := by decide +kernel
theorem dX6_sort_72 : decode cX6_sort 72 = .ok (.iconst 0, 1) := by decide +kernel
theorem dX6_sort_73 : decode cX6_sort 73 = .ok (.ireturn, 1) := by decide +kernel
theorem dX6_sort_74 : decode cX6_sort 74 = .ok (.aload_n 0, 1) := by decide +kernel
theorem dX6_sort_75 : decode cX6_sort 75 = .ok (.getfield 19, 3) := by decide +kernel
theorem dX6_sort_78 : decode cX6_sort 78 = .ok (.iload_n 2, 1) := by decide +kernel
theorem dX6_sort_79 : decode cX6_sort 79 = .ok (.iaload, 1) := by decide +kernel
theorem dX6_sort_80 : decode cX6_sort 80 = .ok (.aload_n 0, 1) := by decide +kernel
theorem dX6_sort_81 : decode cX6_sort 81 = .ok (.getfield 22, 3) := by decide +kernel
theorem dX6_sort_84 : decode cX6_sort 84 = .ok (.iload_n 2, 1) := by decide +kernel
theorem dX6_sort_85 : decode cX6_sort 85 = .ok (.iaload, 1) := by decide +kernel
theorem dX6_sort_86 : decode cX6_sort 86 = .ok (.iadd, 1) := by decide +kernel
theorem dX6_sort_87 : decode cX6_sort 87 = .ok (.aload_n 0, 1) := by decide +kernel
theorem dX6_sort_88 : decode cX6_sort 88 = .ok (.getfield 49, 3) := by decide +kernel
theorem dX6_sort_91 : decode cX6_sort 91 = .ok (.iload_n 1, 1) := by decide +kernel
theorem dX6_sort_92 : decode cX6_sort 92 = .ok (.iaload, 1) := by decide +kernel
theorem dX6_sort_93 : decode cX6_sort 93 = .ok (.iadd, 1) := by decide +kernel
theorem dX6_sort_94 : decode cX6_sort 94 = .ok (.bipush 18, 2) := by decide +kernel
theorem dX6_sort_96 : decode cX6_sort 96 = .ok (.invokestatic 135, 3) := by decide +kernel
theorem dX6_sort_99 : decode cX6_sort 99 = .ok (.istore 4, 2) := by decide +kernel
theorem dX6_sort_101 : decode cX6_sort 101 = .ok (.aload_n 0, 1) := by decide +kernel
theorem dX6_sort_102 : decode cX6_sort 102 = .ok (.getfield 43, 3) := by decide +kernel
theorem dX6_sort_105 : decode cX6_sort 105 = .ok (.iconst 3, 1) := by decide +kernel
theorem dX6_sort_106 : decode cX6_sort 106 = .ok (.iload_n 2, 1) := by decide +kernel
theorem dX6_sort_107 : decode cX6_sort 107 = .ok (.imul, 1) := by decide +kernel
theorem dX6_sort_108 : decode cX6_sort 108 = .ok (.aload_n 0, 1) := by decide +kernel
theorem dX6_sort_109 : decode cX6_sort 109 = .ok (.getfield 40, 3) := by decide +kernel
theorem dX6_sort_112 : decode cX6_sort 112 = .ok (.iload_n 2, 1) := by decide +kernel
theorem dX6_sort_113 : decode cX6_sort 113 = .ok (.iaload, 1) := by decide +kernel
theorem dX6_sort_114 : decode cX6_sort 114 = .ok (.iadd, 1) := by decide +kernel
theorem dX6_sort_115 : decode cX6_sort 115 = .ok (.iload 4, 2) := by decide +kernel
theorem dX6_sort_117 : decode cX6_sort 117 = .ok (.iastore, 1) := by decide +kernel
theorem dX6_sort_118 : decode cX6_sort 118 = .ok (.aload_n 0, 1) := by decide +kernel
theorem dX6_sort_119 : decode cX6_sort 119 = .ok (.getfield 40, 3) := by decide +kernel
theorem dX6_sort_122 : decode cX6_sort 122 = .ok (.iload_n 2, 1) := by decide +kernel
theorem dX6_sort_123 : decode cX6_sort 123 = .ok (.dup2, 1) := by decide +kernel
theorem dX6_sort_124 : decode cX6_sort 124 = .ok (.iaload, 1) := by decide +kernel
theorem dX6_sort_125 : decode cX6_sort 125 = .ok (.iconst 1, 1) := by decide +kernel
theorem dX6_sort_126 : decode cX6_sort 126 = .ok (.iadd, 1) := by decide +kernel
theorem dX6_sort_127 : decode cX6_sort 127 = .ok (.iastore, 1) := by decide +kernel
theorem dX6_sort_128 : decode cX6_sort 128 = .ok (.aload_n 0, 1) := by decide +kernel
theorem dX6_sort_129 : decode cX6_sort 129 = .ok (.getfield 46, 3) := by decide +kernel
theorem dX6_sort_132 : decode cX6_sort 132 = .ok (.iload_n 2, 1) := by decide +kernel
theorem dX6_sort_133 : decode cX6_sort 133 = .ok (.dup2, 1) := by decide +kernel
theorem dX6_sort_134 : decode cX6_sort 134 = .ok (.iaload, 1) := by decide +kernel
theorem dX6_sort_135 : decode cX6_sort 135 = .ok (.iconst 1, 1) := by decide +kernel
theorem dX6_sort_136 : decode cX6_sort 136 = .ok (.iload_n 1, 1) := by decide +kernel
theorem dX6_sort_137 : decode cX6_sort 137 = .ok (.ishl, 1) := by decide +kernel
theorem dX6_sort_138 : decode cX6_sort 138 = .ok (.ior, 1) := by decide +kernel
theorem dX6_sort_139 : decode cX6_sort 139 = .ok (.iastore, 1) := by decide +kernel
theorem dX6_sort_140 : decode cX6_sort 140 = .ok (.iload 4, 2) := by decide +kernel
theorem dX6_sort_142 : decode cX6_sort 142 = .ok (.ireturn, 1) := by decide +kernel
theorem dX6_qualityOf_0 : decode cX6_qualityOf 0 = .ok (.aload_n 0, 1) := by decide +kernel
theorem dX6_qualityOf_1 : decode cX6_qualityOf 1 = .ok (.getfield 43, 3) := by decide +kernel
theorem dX6_qualityOf_4 : decode cX6_qualityOf 4 = .ok (.iconst 3, 1) := by decide +kernel
theorem dX6_qualityOf_5 : decode cX6_qualityOf 5 = .ok (.iload_n 1, 1) := by decide +kernel
theorem dX6_qualityOf_6 : decode cX6_qualityOf 6 = .ok (.imul, 1) := by decide +kernel
theorem dX6_qualityOf_7 : decode cX6_qualityOf 7 = .ok (.iaload, 1) := by decide +kernel
theorem dX6_qualityOf_8 : decode cX6_qualityOf 8 = .ok (.istore_n 2, 1) := by decide +kernel
theorem dX6_qualityOf_9 : decode cX6_qualityOf 9 = .ok (.aload_n 0, 1) := by decide +kernel
theorem dX6_qualityOf_10 : decode cX6_qualityOf 10 = .ok (.getfield 43, 3) := by decide +kernel
theorem dX6_qualityOf_13 : decode cX6_qualityOf 13 = .ok (.iconst 3, 1) := by decide +kernel
theorem dX6_qualityOf_14 : decode cX6_qualityOf 14 = .ok (.iload_n 1, 1) := by decide +kernel
theorem dX6_qualityOf_15 : decode cX6_qualityOf 15 = .ok (.imul, 1) := by decide +kernel
theorem dX6_qualityOf_16 : decode cX6_qualityOf 16 = .ok (.iconst 1, 1) := by decide +kernel
theorem dX6_qualityOf_17 : decode cX6_qualityOf 17 = .ok (.iadd, 1) := by decide +kernel
theorem dX6_qualityOf_18 : decode cX6_qualityOf 18 = .ok (.iaload, 1) := by decide +kernel
theorem dX6_qualityOf_19 : decode cX6_qualityOf 19 = .ok (.istore_n 3, 1) := by decide +kernel
theorem dX6_qualityOf_20 : decode cX6_qualityOf 20 = .ok (.aload_n 0, 1) := by decide +kernel
theorem dX6_qualityOf_21 : decode cX6_qualityOf 21 = .ok (.getfield 40, 3) := by decide +kernel
theorem dX6_qualityOf_24 : decode cX6_qualityOf 24 = .ok (.iload_n 1, 1) := by decide +kernel
theorem dX6_qualityOf_25 : decode cX6_qualityOf 25 = .ok (.iaload, 1) := by decide +kernel
theorem dX6_qualityOf_26 : decode cX6_qualityOf 26 = .ok (.ifCond .ne 7, 3) := by decide +kernel
theorem dX6_qualityOf_29 : decode cX6_qualityOf 29 = .ok (.iconst (-1), 1) := by decide +kernel
theorem dX6_qualityOf_30 : decode cX6_qualityOf 30 = .ok (.goto 55, 3) := by decide +kernel
theorem dX6_qualityOf_33 : decode cX6_qualityOf 33 = .ok (.aload_n 0, 1) := by decide +kernel
theorem dX6_qualityOf_34 : decode cX6_qualityOf 34 = .ok (.getfield 40, 3) := by decide +kernel
theorem dX6_qualityOf_37 : decode cX6_qualityOf 37 = .ok (.iload_n 1, 1) := by decide +kernel
theorem dX6_qualityOf_38 : decode cX6_qualityOf 38 = .ok (.iaload, 1) := by decide +kernel
theorem dX6_qualityOf_39 : decode cX6_qualityOf 39 = .ok (.iconst 1, 1) := by decide +kernel
theorem dX6_qualityOf_40 : decode cX6_qualityOf 40 = .ok (.if_icmp .ne 7, 3) := by decide +kernel
theorem dX6_qualityOf_43 : decode cX6_qualityOf 43 = .ok (.iload_n 2, 1) := by decide +kernel
theorem dX6_qualityOf_44 : decode cX6_qualityOf 44 = .ok (.goto 41, 3) := by decide +kernel
theorem dX6_qualityOf_47 : decode cX6_qualityOf 47 = .ok (.aload_n 0, 1) := by decide +kernel
theorem dX6_qualityOf_48 : decode cX6_qualityOf 48 = .ok (.getfield 40, 3) := by decide +kernel
theorem dX6_qualityOf_51 : decode cX6_qualityOf 51 = .ok (.iload_n 1, 1) := by decide +kernel
theorem dX6_qualityOf_52 : decode cX6_qualityOf 52 = .ok (.iaload, 1) := by decide +kernel
theorem dX6_qualityOf_53 : decode cX6_qualityOf 53 = .ok (.iconst 2, 1) := by decide +kernel
theorem dX6_qualityOf_54 : decode cX6_qualityOf 54 = .ok (.if_icmp .ne 16, 3) := by decide +kernel
theorem dX6_qualityOf_57 : decode cX6_qualityOf 57 = .ok (.iload_n 2, 1) := by decide +kernel
theorem dX6_qualityOf_58 : decode cX6_qualityOf 58 = .ok (.iload_n 3, 1) := by decide +kernel
theorem dX6_qualityOf_59 : decode cX6_qualityOf 59 = .ok (.if_icmp .le 7, 3) := by decide +kernel
theorem dX6_qualityOf_62 : decode cX6_qualityOf 62 = .ok (.iload_n 2, 1) := by decide +kernel
theorem dX6_qualityOf_63 : decode cX6_qualityOf 63 = .ok (.goto 22, 3) := by decide +kernel
theorem dX6_qualityOf_66 : decode cX6_qualityOf 66 = .ok (.iload_n 3, 1) := by decide +kernel
theorem dX6_qualityOf_67 : decode cX6_qualityOf 67 = .ok (.goto 18, 3) := by decide +kernel
theorem dX6_qualityOf_70 : decode cX6_qualityOf 70 = .ok (.iload_n 2, 1) := by decide +kernel
theorem dX6_qualityOf_71 : decode cX6_qualityOf 71 = .ok (.iload_n 3, 1) := by decide +kernel
theorem dX6_qualityOf_72 : decode cX6_qualityOf 72 = .ok (.aload_n 0, 1) := by decide +kernel
theorem dX6_qualityOf_73 : decode cX6_qualityOf 73 = .ok (.getfield 43, 3) := by decide +kernel
theorem dX6_qualityOf_76 : decode cX6_qualityOf 76 = .ok (.iconst 3, 1) := by decide +kernel
theorem dX6_qualityOf_77 : decode cX6_qualityOf 77 = .ok (.iload_n 1, 1) := by decide +kernel
theorem dX6_qualityOf_78 : decode cX6_qualityOf 78 = .ok (.imul, 1) := by decide +kernel
theorem dX6_qualityOf_79 : decode cX6_qualityOf 79 = .ok (.iconst 2, 1) := by decide +kernel
theorem dX6_qualityOf_80 : decode cX6_qualityOf 80 = .ok (.iadd, 1) := by decide +kernel
theorem dX6_qualityOf_81 : decode cX6_qualityOf 81 = .ok (.iaload, 1) := by decide +kernel
theorem dX6_qualityOf_82 : decode cX6_qualityOf 82 = .ok (.invokestatic 139, 3) := by decide +kernel
theorem dX6_qualityOf_85 : decode cX6_qualityOf 85 = .ok (.ireturn, 1) := by decide +kernel
theorem dX6_isDoubtful_0 : decode cX6_isDoubtful 0 = .ok (.aload_n 0, 1) := by decide +kernel
theorem dX6_isDoubtful_1 : decode cX6_isDoubtful 1 = .ok (.getfield 43, 3) := by decide +kernel
theorem dX6_isDoubtful_4 : decode cX6_isDoubtful 4 = .ok (.iconst 3, 1) := by decide +kernel
theorem dX6_isDoubtful_5 : decode cX6_isDoubtful 5 = .ok (.iload_n 1, 1) := by decide +kernel
theorem dX6_isDoubtful_6 : decode cX6_isDoubtful 6 = .ok (.imul, 1) := by decide +kernel
theorem dX6_isDoubtful_7 : decode cX6_isDoubtful 7 = .ok (.iaload, 1) := by decide +kernel
theorem dX6_isDoubtful_8 : decode cX6_isDoubtful 8 = .ok (.aload_n 0, 1) := by decide +kernel
theorem dX6_isDoubtful_9 : decode cX6_isDoubtful 9 = .ok (.getfield 43, 3) := by decide +kernel
theorem dX6_isDoubtful_12 : decode cX6_isDoubtful 12 = .ok (.iconst 3, 1) := by decide +kernel
theorem dX6_isDoubtful_13 : decode cX6_isDoubtful 13 = .ok (.iload_n 1, 1) := by decide +kernel
theorem dX6_isDoubtful_14 : decode cX6_isDoubtful 14 = .ok (.imul, 1) := by decide +kernel
theorem dX6_isDoubtful_15 : decode cX6_isDoubtful 15 = .ok (.iconst 1, 1) := by decide +kernel
theorem dX6_isDoubtful_16 : decode cX6_isDoubtful 16 = .ok (.iadd, 1) := by decide +kernel
theorem dX6_isDoubtful_17 : decode cX6_isDoubtful 17 = .ok (.iaload, 1) := by decide +kernel
theorem dX6_isDoubtful_18 : decode cX6_isDoubtful 18 = .ok (.isub, 1) := by decide +kernel
theorem dX6_isDoubtful_19 : decode cX6_isDoubtful 19 = .ok (.istore_n 2, 1) := by decide +kernel
theorem dX6_isDoubtful_20 : decode cX6_isDoubtful 20 = .ok (.aload_n 0, 1) := by decide +kernel
theorem dX6_isDoubtful_21 : decode cX6_isDoubtful 21 = .ok (.getfield 40, 3) := by decide +kernel
theorem dX6_isDoubtful_24 : decode cX6_isDoubtful 24 = .ok (.iload_n 1, 1) := by decide +kernel
theorem dX6_isDoubtful_25 : decode cX6_isDoubtful 25 = .ok (.iaload, 1) := by decide +kernel
theorem dX6_isDoubtful_26 : decode cX6_isDoubtful 26 = .ok (.iconst 2, 1) := by decide +kernel
theorem dX6_isDoubtful_27 : decode cX6_isDoubtful 27 = .ok (.if_icmp .ne 18, 3) := by decide +kernel
theorem dX6_isDoubtful_30 : decode cX6_isDoubtful 30 = .ok (.iload_n 2, 1) := by decide +kernel
theorem dX6_isDoubtful_31 : decode cX6_isDoubtful 31 = .ok (.iconst 2, 1) := by decide +kernel
theorem dX6_isDoubtful_32 : decode cX6_isDoubtful 32 = .ok (.if_icmp .ge 9, 3) := by decide +kernel
theorem dX6_isDoubtful_35 : decode cX6_isDoubtful 35 = .ok (.iload_n 2, 1) := by decide +kernel
theorem dX6_isDoubtful_36 : decode cX6_isDoubtful 36 = .ok (.bipush (-2), 2) := by decide +kernel
theorem dX6_isDoubtful_38 : decode cX6_isDoubtful 38 = .ok (.if_icmp .gt 7, 3) := by decide +kernel
theorem dX6_isDoubtful_41 : decode cX6_isDoubtful 41 = .ok (.iconst 1, 1) := by decide +kernel
theorem dX6_isDoubtful_42 : decode cX6_isDoubtful 42 = .ok (.goto 4, 3) := by decide +kernel
theorem dX6_isDoubtful_45 : decode cX6_isDoubtful 45 = .ok (.iconst 0, 1) := by decide +kernel
theorem dX6_isDoubtful_46 : decode cX6_isDoubtful 46 = .ok (.ireturn, 1) := by decide +kernel
theorem dX6_price_0 : decode cX6_price 0 = .ok (.aload_n 0, 1) := by decide +kernel
theorem dX6_price_1 : decode cX6_price 1 = .ok (.iload_n 1, 1) := by decide +kernel
theorem dX6_price_2 : decode cX6_price 2 = .ok (.iconst 0, 1) := by decide +kernel
theorem dX6_price_3 : decode cX6_price 3 = .ok (.iconst 3, 1) := by decide +kernel
theorem dX6_price_4 : decode cX6_price 4 = .ok (.invokestatic 114, 3) := by decide +kernel
theorem dX6_price_7 : decode cX6_price 7 = .ok (.ifCond .eq 17, 3) := by decide +kernel
theorem dX6_price_10 : decode cX6_price 10 = .ok (.iload_n 2, 1) := by decide +kernel
theorem dX6_price_11 : decode cX6_price 11 = .ok (.iconst 0, 1) := by decide +kernel
theorem dX6_price_12 : decode cX6_price 12 = .ok (.bipush 18, 2) := by decide +kernel
theorem dX6_price_14 : decode cX6_price 14 = .ok (.invokestatic 114, 3) := by decide +kernel
theorem dX6_price_17 : decode cX6_price 17 = .ok (.ifCond .eq 7, 3) := by decide +kernel
theorem dX6_price_20 : decode cX6_price 20 = .ok (.iconst 1, 1) := by decide +kernel
theorem dX6_price_21 : decode cX6_price 21 = .ok (.goto 4, 3) := by decide +kernel
theorem dX6_price_24 : decode cX6_price 24 = .ok (.iconst 0, 1) := by decide +kernel
theorem dX6_price_25 : decode cX6_price 25 = .ok (.iload_n 3, 1) := by decide +kernel
theorem dX6_price_26 : decode cX6_price 26 = .ok (.iconst 1, 1) := by decide +kernel
theorem dX6_price_27 : decode cX6_price 27 = .ok (.ldc 143, 2) := by decide +kernel
theorem dX6_price_29 : decode cX6_price 29 = .ok (.invokestatic 114, 3) := by decide +kernel
theorem dX6_price_32 : decode cX6_price 32 = .ok (.invokevirtual 124, 3) := by decide +kernel
theorem dX6_price_35 : decode cX6_price 35 = .ok (.ifCond .ne 5, 3) := by decide +kernel
theorem dX6_price_38 : decode cX6_price 38 = .ok (.iconst 0, 1) := by decide +kernel
theorem dX6_price_39 : decode cX6_price 39 = .ok (.ireturn, 1) := by decide +kernel
theorem dX6_price_40 : decode cX6_price 40 = .ok (.aload_n 0, 1) := by decide +kernel
theorem dX6_price_41 : decode cX6_price 41 = .ok (.getfield 52, 3) := by decide +kernel
theorem dX6_price_44 : decode cX6_price 44 = .ok (.bipush 19, 2) := by decide +kernel
theorem dX6_price_46 : decode cX6_price 46 = .ok (.iload_n 1, 1) := by decide +kernel
theorem dX6_price_47 : decode cX6_price 47 = .ok (.imul, 1) := by decide +kernel
theorem dX6_price_48 : decode cX6_price 48 = .ok (.iload_n 2, 1) := by decide +kernel
theorem dX6_price_49 : decode cX6_price 49 = .ok (.iadd, 1) := by decide +kernel
theorem dX6_price_50 : decode cX6_price 50 = .ok (.iaload, 1) := by decide +kernel
theorem dX6_price_51 : decode cX6_price 51 = .ok (.istore 4, 2) := by decide +kernel
theorem dX6_price_53 : decode cX6_price 53 = .ok (.aload_n 0, 1) := by decide +kernel
theorem dX6_price_54 : decode cX6_price 54 = .ok (.getfield 52, 3) := by decide +kernel
theorem dX6_price_57 : decode cX6_price 57 = .ok (.bipush 19, 2) := by decide +kernel
theorem dX6_price_59 : decode cX6_price 59 = .ok (.iload_n 1, 1) := by decide +kernel
theorem dX6_price_60 : decode cX6_price 60 = .ok (.imul, 1) := by decide +kernel
theorem dX6_price_61 : decode cX6_price 61 = .ok (.iload_n 2, 1) := by decide +kernel
theorem dX6_price_62 : decode cX6_price 62 = .ok (.iadd, 1) := by decide +kernel
theorem dX6_price_63 : decode cX6_price 63 = .ok (.iload_n 3, 1) := by decide +kernel
theorem dX6_price_64 : decode cX6_price 64 = .ok (.iastore, 1) := by decide +kernel
theorem dX6_price_65 : decode cX6_price 65 = .ok (.iload 4, 2) := by decide +kernel
theorem dX6_price_67 : decode cX6_price 67 = .ok (.ireturn, 1) := by decide +kernel
theorem dX6_valueOf_0 : decode cX6_valueOf 0 = .ok (.aload_n 0, 1) := by decide +kernel
theorem dX6_valueOf_1 : decode cX6_valueOf 1 = .ok (.getfield 16, 3) := by decide +kernel
theorem dX6_valueOf_4 : decode cX6_valueOf 4 = .ok (.iload_n 1, 1) := by decide +kernel
theorem dX6_valueOf_5 : decode cX6_valueOf 5 = .ok (.iaload, 1) := by decide +kernel
theorem dX6_valueOf_6 : decode cX6_valueOf 6 = .ok (.bipush 100, 2) := by decide +kernel
theorem dX6_valueOf_8 : decode cX6_valueOf 8 = .ok (.if_icmp .ge 7, 3) := by decide +kernel
theorem dX6_valueOf_11 : decode cX6_valueOf 11 = .ok (.iconst 0, 1) := by decide +kernel
theorem dX6_valueOf_12 : decode cX6_valueOf 12 = .ok (.goto 36, 3) := by decide +kernel
theorem dX6_valueOf_15 : decode cX6_valueOf 15 = .ok (.aload_n 0, 1) := by decide +kernel
theorem dX6_valueOf_16 : decode cX6_valueOf 16 = .ok (.getfield 16, 3) := by decide +kernel
theorem dX6_valueOf_19 : decode cX6_valueOf 19 = .ok (.iload_n 1, 1) := by decide +kernel
theorem dX6_valueOf_20 : decode cX6_valueOf 20 = .ok (.iaload, 1) := by decide +kernel
theorem dX6_valueOf_21 : decode cX6_valueOf 21 = .ok (.sipush 300, 3) := by decide +kernel
theorem dX6_valueOf_24 : decode cX6_valueOf 24 = .ok (.if_icmp .ge 7, 3) := by decide +kernel
theorem dX6_valueOf_27 : decode cX6_valueOf 27 = .ok (.iconst 1, 1) := by decide +kernel
theorem dX6_valueOf_28 : decode cX6_valueOf 28 = .ok (.goto 20, 3) := by decide +kernel
theorem dX6_valueOf_31 : decode cX6_valueOf 31 = .ok (.aload_n 0, 1) := by decide +kernel
theorem dX6_valueOf_32 : decode cX6_valueOf 32 = .ok (.getfield 16, 3) := by decide +kernel
theorem dX6_valueOf_35 : decode cX6_valueOf 35 = .ok (.iload_n 1, 1) := by decide +kernel
theorem dX6_valueOf_36 : decode cX6_valueOf 36 = .ok (.iaload, 1) := by decide +kernel
theorem dX6_valueOf_37 : decode cX6_valueOf 37 = .ok (.sipush 1000, 3) := by decide +kernel
theorem dX6_valueOf_40 : decode cX6_valueOf 40 = .ok (.if_icmp .ge 7, 3) := by decide +kernel
theorem dX6_valueOf_43 : decode cX6_valueOf 43 = .ok (.iconst 2, 1) := by decide +kernel
theorem dX6_valueOf_44 : decode cX6_valueOf 44 = .ok (.goto 4, 3) := by decide +kernel
theorem dX6_valueOf_47 : decode cX6_valueOf 47 = .ok (.iconst 3, 1) := by decide +kernel
theorem dX6_valueOf_48 : decode cX6_valueOf 48 = .ok (.istore_n 2, 1) := by decide +kernel
theorem dX6_valueOf_49 : decode cX6_valueOf 49 = .ok (.aload_n 0, 1) := by decide +kernel
theorem dX6_valueOf_50 : decode cX6_valueOf 50 = .ok (.getfield 40, 3) := by decide +kernel
theorem dX6_valueOf_53 : decode cX6_valueOf 53 = .ok (.iload_n 1, 1) := by decide +kernel
theorem dX6_valueOf_54 : decode cX6_valueOf 54 = .ok (.iaload, 1) := by decide +kernel
theorem dX6_valueOf_55 : decode cX6_valueOf 55 = .ok (.ifCond .ne 7, 3) := by decide +kernel
theorem dX6_valueOf_58 : decode cX6_valueOf 58 = .ok (.iconst (-1), 1) := by decide +kernel
theorem dX6_valueOf_59 : decode cX6_valueOf 59 = .ok (.goto 28, 3) := by decide +kernel
theorem dX6_valueOf_62 : decode cX6_valueOf 62 = .ok (.aload_n 0, 1) := by decide +kernel
theorem dX6_valueOf_63 : decode cX6_valueOf 63 = .ok (.getfield 16, 3) := by decide +kernel
theorem dX6_valueOf_66 : decode cX6_valueOf 66 = .ok (.iload_n 1, 1) := by decide +kernel
theorem dX6_valueOf_67 : decode cX6_valueOf 67 = .ok (.iaload, 1) := by decide +kernel
theorem dX6_valueOf_68 : decode cX6_valueOf 68 = .ok (.aload_n 0, 1) := by decide +kernel
theorem dX6_valueOf_69 : decode cX6_valueOf 69 = .ok (.getfield 52, 3) := by decide +kernel
theorem dX6_valueOf_72 : decode cX6_valueOf 72 = .ok (.bipush 19, 2) := by decide +kernel
theorem dX6_valueOf_74 : decode cX6_valueOf 74 = .ok (.iload_n 2, 1) := by decide +kernel
theorem dX6_valueOf_75 : decode cX6_valueOf 75 = .ok (.imul, 1) := by decide +kernel
theorem dX6_valueOf_76 : decode cX6_valueOf 76 = .ok (.aload_n 0, 1) := by decide +kernel
theorem dX6_valueOf_77 : decode cX6_valueOf 77 = .ok (.iload_n 1, 1) := by decide +kernel
theorem dX6_valueOf_78 : decode cX6_valueOf 78 = .ok (.invokevirtual 144, 3) := by decide +kernel
theorem dX6_valueOf_81 : decode cX6_valueOf 81 = .ok (.iadd, 1) := by decide +kernel
theorem dX6_valueOf_82 : decode cX6_valueOf 82 = .ok (.iaload, 1) := by decide +kernel
theorem dX6_valueOf_83 : decode cX6_valueOf 83 = .ok (.imul, 1) := by decide +kernel
theorem dX6_valueOf_84 : decode cX6_valueOf 84 = .ok (.bipush 100, 2) := by decide +kernel
theorem dX6_valueOf_86 : decode cX6_valueOf 86 = .ok (.idiv, 1) := by decide +kernel
theorem dX6_valueOf_87 : decode cX6_valueOf 87 = .ok (.ireturn, 1) := by decide +kernel
theorem dX6_value_0 : decode cX6_value 0 = .ok (.aload_n 0, 1) := by decide +kernel
theorem dX6_value_1 : decode cX6_value 1 = .ok (.aload_n 0, 1) := by decide +kernel
theorem dX6_value_2 : decode cX6_value 2 = .ok (.iload_n 1, 1) := by decide +kernel
theorem dX6_value_3 : decode cX6_value 3 = .ok (.invokevirtual 131, 3) := by decide +kernel
theorem dX6_value_6 : decode cX6_value 6 = .ok (.invokevirtual 148, 3) := by decide +kernel
theorem dX6_value_9 : decode cX6_value 9 = .ok (.ifCond .eq 11, 3) := by decide +kernel
theorem dX6_value_12 : decode cX6_value 12 = .ok (.aload_n 0, 1) := by decide +kernel
theorem dX6_value_13 : decode cX6_value 13 = .ok (.iload_n 1, 1) := by decide +kernel
theorem dX6_value_14 : decode cX6_value 14 = .ok (.invokevirtual 151, 3) := by decide +kernel
theorem dX6_value_17 : decode cX6_value 17 = .ok (.goto 4, 3) := by decide +kernel
theorem dX6_value_20 : decode cX6_value 20 = .ok (.iconst 0, 1) := by decide +kernel
theorem dX6_value_21 : decode cX6_value 21 = .ok (.ireturn, 1) := by decide +kernel
theorem dX6_stoneIs_0 : decode cX6_stoneIs 0 = .ok (.aload_n 0, 1) := by decide +kernel
theorem dX6_stoneIs_1 : decode cX6_stoneIs 1 = .ok (.aload_n 0, 1) := by decide +kernel
theorem dX6_stoneIs_2 : decode cX6_stoneIs 2 = .ok (.iload_n 1, 1) := by decide +kernel
theorem dX6_stoneIs_3 : decode cX6_stoneIs 3 = .ok (.invokevirtual 131, 3) := by decide +kernel
theorem dX6_stoneIs_6 : decode cX6_stoneIs 6 = .ok (.iload_n 2, 1) := by decide +kernel
theorem dX6_stoneIs_7 : decode cX6_stoneIs 7 = .ok (.iconst 0, 1) := by decide +kernel
theorem dX6_stoneIs_8 : decode cX6_stoneIs 8 = .ok (.bipush 6, 2) := by decide +kernel
theorem dX6_stoneIs_10 : decode cX6_stoneIs 10 = .ok (.invokestatic 114, 3) := by decide +kernel
theorem dX6_stoneIs_13 : decode cX6_stoneIs 13 = .ok (.invokevirtual 124, 3) := by decide +kernel
theorem dX6_stoneIs_16 : decode cX6_stoneIs 16 = .ok (.ifCond .ne 5, 3) := by decide +kernel
theorem dX6_stoneIs_19 : decode cX6_stoneIs 19 = .ok (.iconst 0, 1) := by decide +kernel
theorem dX6_stoneIs_20 : decode cX6_stoneIs 20 = .ok (.ireturn, 1) := by decide +kernel
theorem dX6_stoneIs_21 : decode cX6_stoneIs 21 = .ok (.iload_n 2, 1) := by decide +kernel
theorem dX6_stoneIs_22 : decode cX6_stoneIs 22 = .ok (.ifCond .ne 12, 3) := by decide +kernel
theorem dX6_stoneIs_25 : decode cX6_stoneIs 25 = .ok (.aload_n 0, 1) := by decide +kernel
theorem dX6_stoneIs_26 : decode cX6_stoneIs 26 = .ok (.getfield 28, 3) := by decide +kernel
theorem dX6_stoneIs_29 : decode cX6_stoneIs 29 = .ok (.iload_n 1, 1) := by decide +kernel
theorem dX6_stoneIs_30 : decode cX6_stoneIs 30 = .ok (.iaload, 1) := by decide +kernel
theorem dX6_stoneIs_31 : decode cX6_stoneIs 31 = .ok (.goto 85, 3) := by decide +kernel
theorem dX6_stoneIs_34 : decode cX6_stoneIs 34 = .ok (.iload_n 2, 1) := by decide +kernel
theorem dX6_stoneIs_35 : decode cX6_stoneIs 35 = .ok (.iconst 1, 1) := by decide +kernel
theorem dX6_stoneIs_36 : decode cX6_stoneIs 36 = .ok (.if_icmp .ne 11, 3) := by decide +kernel
theorem dX6_stoneIs_39 : decode cX6_stoneIs 39 = .ok (.aload_n 0, 1) := by decide +kernel
theorem dX6_stoneIs_40 : decode cX6_stoneIs 40 = .ok (.iload_n 1, 1) := by decide +kernel
theorem dX6_stoneIs_41 : decode cX6_stoneIs 41 = .ok (.invokevirtual 144, 3) := by decide +kernel
theorem dX6_stoneIs_44 : decode cX6_stoneIs 44 = .ok (.goto 72, 3) := by decide +kernel
theorem dX6_stoneIs_47 : decode cX6_stoneIs 47 = .ok (.iload_n 2, 1) := by decide +kernel
theorem dX6_stoneIs_48 : decode cX6_stoneIs 48 = .ok (.iconst 2, 1) := by decide +kernel
theorem dX6_stoneIs_49 : decode cX6_stoneIs 49 = .ok (.if_icmp .ne 19, 3) := by decide +kernel
theorem dX6_stoneIs_52 : decode cX6_stoneIs 52 = .ok (.aload_n 0, 1) := by decide +kernel
theorem dX6_stoneIs_53 : decode cX6_stoneIs 53 = .ok (.iload_n 1, 1) := by decide +kernel
theorem dX6_stoneIs_54 : decode cX6_stoneIs 54 = .ok (.invokevirtual 154, 3) := by decide +kernel
theorem dX6_stoneIs_57 : decode cX6_stoneIs 57 = .ok (.ifCond .eq 7, 3) := by decide +kernel
theorem dX6_stoneIs_60 : decode cX6_stoneIs 60 = .ok (.iconst 1, 1) := by decide +kernel
theorem dX6_stoneIs_61 : decode cX6_stoneIs 61 = .ok (.goto 55, 3) := by decide +kernel
theorem dX6_stoneIs_64 : decode cX6_stoneIs 64 = .ok (.iconst 0, 1) := by decide +kernel
theorem dX6_stoneIs_65 : decode cX6_stoneIs 65 = .ok (.goto 51, 3) := by decide +kernel
theorem dX6_stoneIs_68 : decode cX6_stoneIs 68 = .ok (.iload_n 2, 1) := by decide +kernel
theorem dX6_stoneIs_69 : decode cX6_stoneIs 69 = .ok (.iconst 3, 1) := by decide +kernel
theorem dX6_stoneIs_70 : decode cX6_stoneIs 70 = .ok (.if_icmp .ne 12, 3) := by decide +kernel
theorem dX6_stoneIs_73 : decode cX6_stoneIs 73 = .ok (.aload_n 0, 1) := by decide +kernel
theorem dX6_stoneIs_74 : decode cX6_stoneIs 74 = .ok (.getfield 31, 3) := by decide +kernel
theorem dX6_stoneIs_77 : decode cX6_stoneIs 77 = .ok (.iload_n 1, 1) := by decide +kernel
theorem dX6_stoneIs_78 : decode cX6_stoneIs 78 = .ok (.iaload, 1) := by decide +kernel
theorem dX6_stoneIs_79 : decode cX6_stoneIs 79 = .ok (.goto 37, 3) := by decide +kernel
theorem dX6_stoneIs_82 : decode cX6_stoneIs 82 = .ok (.iload_n 2, 1) := by decide +kernel
theorem dX6_stoneIs_83 : decode cX6_stoneIs 83 = .ok (.iconst 4, 1) := by decide +kernel
theorem dX6_stoneIs_84 : decode cX6_stoneIs 84 = .ok (.if_icmp .ne 12, 3) := by decide +kernel
theorem dX6_stoneIs_87 : decode cX6_stoneIs 87 = .ok (.aload_n 0, 1) := by decide +kernel
theorem dX6_stoneIs_88 : decode cX6_stoneIs 88 = .ok (.getfield 34, 3) := by decide +kernel
theorem dX6_stoneIs_91 : decode cX6_stoneIs 91 = .ok (.iload_n 1, 1) := by decide +kernel
theorem dX6_stoneIs_92 : decode cX6_stoneIs 92 = .ok (.iaload, 1) := by decide +kernel
theorem dX6_stoneIs_93 : decode cX6_stoneIs 93 = .ok (.goto 23, 3) := by decide +kernel
theorem dX6_stoneIs_96 : decode cX6_stoneIs 96 = .ok (.iload_n 2, 1) := by decide +kernel
theorem dX6_stoneIs_97 : decode cX6_stoneIs 97 = .ok (.iconst 5, 1) := by decide +kernel
theorem dX6_stoneIs_98 : decode cX6_stoneIs 98 = .ok (.if_icmp .ne 12, 3) := by decide +kernel
theorem dX6_stoneIs_101 : decode cX6_stoneIs 101 = .ok (.aload_n 0, 1) := by decide +kernel
theorem dX6_stoneIs_102 : decode cX6_stoneIs 102 = .ok (.getfield 13, 3) := by decide +kernel
theorem dX6_stoneIs_105 : decode cX6_stoneIs 105 = .ok (.iload_n 1, 1) := by decide +kernel
theorem dX6_stoneIs_106 : decode cX6_stoneIs 106 = .ok (.iaload, 1) := by decide +kernel
theorem dX6_stoneIs_107 : decode cX6_stoneIs 107 = .ok (.goto 9, 3) := by decide +kernel
theorem dX6_stoneIs_110 : decode cX6_stoneIs 110 = .ok (.aload_n 0, 1) := by decide +kernel
theorem dX6_stoneIs_111 : decode cX6_stoneIs 111 = .ok (.getfield 37, 3) := by decide +kernel
theorem dX6_stoneIs_114 : decode cX6_stoneIs 114 = .ok (.iload_n 1, 1) := by decide +kernel
theorem dX6_stoneIs_115 : decode cX6_stoneIs 115 = .ok (.iaload, 1) := by decide +kernel
theorem dX6_stoneIs_116 : decode cX6_stoneIs 116 = .ok (.ireturn, 1) := by decide +kernel
theorem dX6_ends_0 : decode cX6_ends 0 = .ok (.aload_n 0, 1) := by decide +kernel
theorem dX6_ends_1 : decode cX6_ends 1 = .ok (.aload_n 0, 1) := by decide +kernel
theorem dX6_ends_2 : decode cX6_ends 2 = .ok (.getfield 68, 3) := by decide +kernel
theorem dX6_ends_5 : decode cX6_ends 5 = .ok (.iload_n 1, 1) := by decide +kernel
theorem dX6_ends_6 : decode cX6_ends 6 = .ok (.if_icmp .ne 7, 3) := by decide +kernel
theorem dX6_ends_9 : decode cX6_ends 9 = .ok (.iconst (-1), 1) := by decide +kernel
theorem dX6_ends_10 : decode cX6_ends 10 = .ok (.goto 7, 3) := by decide +kernel
theorem dX6_ends_13 : decode cX6_ends 13 = .ok (.aload_n 0, 1) := by decide +kernel
theorem dX6_ends_14 : decode cX6_ends 14 = .ok (.getfield 68, 3) := by decide +kernel
theorem dX6_ends_17 : decode cX6_ends 17 = .ok (.putfield 68, 3) := by decide +kernel
theorem dX6_ends_20 : decode cX6_ends 20 = .ok (.return_, 1) := by decide +kernel
theorem dX6_nextStone_0 : decode cX6_nextStone 0 = .ok (.iconst (-1), 1) := by decide +kernel
theorem dX6_nextStone_1 : decode cX6_nextStone 1 = .ok (.istore_n 1, 1) := by decide +kernel
theorem dX6_nextStone_2 : decode cX6_nextStone 2 = .ok (.iconst 0, 1) := by decide +kernel
theorem dX6_nextStone_3 : decode cX6_nextStone 3 = .ok (.istore_n 2, 1) := by decide +kernel
theorem dX6_nextStone_4 : decode cX6_nextStone 4 = .ok (.iload_n 2, 1) := by decide +kernel
theorem dX6_nextStone_5 : decode cX6_nextStone 5 = .ok (.aload_n 0, 1) := by decide +kernel
theorem dX6_nextStone_6 : decode cX6_nextStone 6 = .ok (.getfield 111, 3) := by decide +kernel
theorem dX6_nextStone_9 : decode cX6_nextStone 9 = .ok (.if_icmp .ge 69, 3) := by decide +kernel
theorem dX6_nextStone_12 : decode cX6_nextStone 12 = .ok (.aload_n 0, 1) := by decide +kernel
theorem dX6_nextStone_13 : decode cX6_nextStone 13 = .ok (.getfield 28, 3) := by decide +kernel
theorem dX6_nextStone_16 : decode cX6_nextStone 16 = .ok (.iload_n 2, 1) := by decide +kernel
theorem dX6_nextStone_17 : decode cX6_nextStone 17 = .ok (.iaload, 1) := by decide +kernel
theorem dX6_nextStone_18 : decode cX6_nextStone 18 = .ok (.ifCond .ne 24, 3) := by decide +kernel
theorem dX6_nextStone_21 : decode cX6_nextStone 21 = .ok (.aload_n 0, 1) := by decide +kernel
theorem dX6_nextStone_22 : decode cX6_nextStone 22 = .ok (.getfield 40, 3) := by decide +kernel
theorem dX6_nextStone_25 : decode cX6_nextStone 25 = .ok (.iload_n 2, 1) := by decide +kernel
theorem dX6_nextStone_26 : decode cX6_nextStone 26 = .ok (.iaload, 1) := by decide +kernel
theorem dX6_nextStone_27 : decode cX6_nextStone 27 = .ok (.ifCond .le 15, 3) := by decide +kernel
theorem dX6_nextStone_30 : decode cX6_nextStone 30 = .ok (.aload_n 0, 1) := by decide +kernel
theorem dX6_nextStone_31 : decode cX6_nextStone 31 = .ok (.iload_n 2, 1) := by decide +kernel
theorem dX6_nextStone_32 : decode cX6_nextStone 32 = .ok (.invokevirtual 154, 3) := by decide +kernel
theorem dX6_nextStone_35 : decode cX6_nextStone 35 = .ok (.ifCond .ne 7, 3) := by decide +kernel
theorem dX6_nextStone_38 : decode cX6_nextStone 38 = .ok (.iconst 1, 1) := by decide +kernel
theorem dX6_nextStone_39 : decode cX6_nextStone 39 = .ok (.goto 4, 3) := by decide +kernel
theorem dX6_nextStone_42 : decode cX6_nextStone 42 = .ok (.iconst 0, 1) := by decide +kernel
theorem dX6_nextStone_43 : decode cX6_nextStone 43 = .ok (.istore_n 3, 1) := by decide +kernel
theorem dX6_nextStone_44 : decode cX6_nextStone 44 = .ok (.iload_n 3, 1) := by decide +kernel
theorem dX6_nextStone_45 : decode cX6_nextStone 45 = .ok (.ifCond .eq 25, 3) := by decide +kernel
theorem dX6_nextStone_48 : decode cX6_nextStone 48 = .ok (.iload_n 1, 1) := by decide +kernel
theorem dX6_nextStone_49 : decode cX6_nextStone 49 = .ok (.iconst (-1), 1) := by decide +kernel
theorem dX6_nextStone_50 : decode cX6_nextStone 50 = .ok (.if_icmp .eq 16, 3) := by decide +kernel
theorem dX6_nextStone_53 : decode cX6_nextStone 53 = .ok (.aload_n 0, 1) := by decide +kernel
theorem dX6_nextStone_54 : decode cX6_nextStone 54 = .ok (.iload_n 2, 1) := by decide +kernel
theorem dX6_nextStone_55 : decode cX6_nextStone 55 = .ok (.invokevirtual 151, 3) := by decide +kernel
theorem dX6_nextStone_58 : decode cX6_nextStone 58 = .ok (.aload_n 0, 1) := by decide +kernel
theorem dX6_nextStone_59 : decode cX6_nextStone 59 = .ok (.iload_n 1, 1) := by decide +kernel
theorem dX6_nextStone_60 : decode cX6_nextStone 60 = .ok (.invokevirtual 151, 3) := by decide +kernel
theorem dX6_nextStone_63 : decode cX6_nextStone 63 = .ok (.if_icmp .le 7, 3) := by decide +kernel
theorem dX6_nextStone_66 : decode cX6_nextStone 66 = .ok (.iload_n 2, 1) := by decide +kernel
theorem dX6_nextStone_67 : decode cX6_nextStone 67 = .ok (.goto 4, 3) := by decide +kernel
theorem dX6_nextStone_70 : decode cX6_nextStone 70 = .ok (.iload_n 1, 1) := by decide +kernel
theorem dX6_nextStone_71 : decode cX6_nextStone 71 = .ok (.istore_n 1, 1) := by decide +kernel
theorem dX6_nextStone_72 : decode cX6_nextStone 72 = .ok (.iinc 2 1, 3) := by decide +kernel
theorem dX6_nextStone_75 : decode cX6_nextStone 75 = .ok (.goto (-71), 3) := by decide +kernel
theorem dX6_nextStone_78 : decode cX6_nextStone 78 = .ok (.iload_n 1, 1) := by decide +kernel
theorem dX6_nextStone_79 : decode cX6_nextStone 79 = .ok (.ireturn, 1) := by decide +kernel
theorem dX6_boxes_0 : decode cX6_boxes 0 = .ok (.aload_n 0, 1) := by decide +kernel
theorem dX6_boxes_1 : decode cX6_boxes 1 = .ok (.iload_n 1, 1) := by decide +kernel
theorem dX6_boxes_2 : decode cX6_boxes 2 = .ok (.iconst 1, 1) := by decide +kernel
theorem dX6_boxes_3 : decode cX6_boxes 3 = .ok (.iconst 5, 1) := by decide +kernel
theorem dX6_boxes_4 : decode cX6_boxes 4 = .ok (.invokestatic 114, 3) := by decide +kernel
theorem dX6_boxes_7 : decode cX6_boxes 7 = .ok (.invokevirtual 148, 3) := by decide +kernel
theorem dX6_boxes_10 : decode cX6_boxes 10 = .ok (.ifCond .ne 5, 3) := by decide +kernel
theorem dX6_boxes_13 : decode cX6_boxes 13 = .ok (.iconst 0, 1) := by decide +kernel
theorem dX6_boxes_14 : decode cX6_boxes 14 = .ok (.ireturn, 1) := by decide +kernel
theorem dX6_boxes_15 : decode cX6_boxes 15 = .ok (.iconst 0, 1) := by decide +kernel
theorem dX6_boxes_16 : decode cX6_boxes 16 = .ok (.istore_n 2, 1) := by decide +kernel
theorem dX6_boxes_17 : decode cX6_boxes 17 = .ok (.iload_n 2, 1) := by decide +kernel
theorem dX6_boxes_18 : decode cX6_boxes 18 = .ok (.aload_n 0, 1) := by decide +kernel
theorem dX6_boxes_19 : decode cX6_boxes 19 = .ok (.getfield 111, 3) := by decide +kernel
theorem dX6_boxes_22 : decode cX6_boxes 22 = .ok (.if_icmp .ge 33, 3) := by decide +kernel
theorem dX6_boxes_25 : decode cX6_boxes 25 = .ok (.aload_n 0, 1) := by decide +kernel
theorem dX6_boxes_26 : decode cX6_boxes 26 = .ok (.getfield 28, 3) := by decide +kernel
theorem dX6_boxes_29 : decode cX6_boxes 29 = .ok (.iload_n 2, 1) := by decide +kernel
theorem dX6_boxes_30 : decode cX6_boxes 30 = .ok (.iaload, 1) := by decide +kernel
theorem dX6_boxes_31 : decode cX6_boxes 31 = .ok (.iconst 1, 1) := by decide +kernel
theorem dX6_boxes_32 : decode cX6_boxes 32 = .ok (.if_icmp .ne 17, 3) := by decide +kernel
theorem dX6_boxes_35 : decode cX6_boxes 35 = .ok (.aload_n 0, 1) := by decide +kernel
theorem dX6_boxes_36 : decode cX6_boxes 36 = .ok (.getfield 28, 3) := by decide +kernel
theorem dX6_boxes_39 : decode cX6_boxes 39 = .ok (.iload_n 2, 1) := by decide +kernel
theorem dX6_boxes_40 : decode cX6_boxes 40 = .ok (.iconst 0, 1) := by decide +kernel
theorem dX6_boxes_41 : decode cX6_boxes 41 = .ok (.iastore, 1) := by decide +kernel
theorem dX6_boxes_42 : decode cX6_boxes 42 = .ok (.aload_n 0, 1) := by decide +kernel
theorem dX6_boxes_43 : decode cX6_boxes 43 = .ok (.getfield 34, 3) := by decide +kernel
theorem dX6_boxes_46 : decode cX6_boxes 46 = .ok (.iload_n 2, 1) := by decide +kernel
theorem dX6_boxes_47 : decode cX6_boxes 47 = .ok (.iconst (-1), 1) := by decide +kernel
theorem dX6_boxes_48 : decode cX6_boxes 48 = .ok (.iastore, 1) := by decide +kernel
theorem dX6_boxes_49 : decode cX6_boxes 49 = .ok (.iinc 2 1, 3) := by decide +kernel
theorem dX6_boxes_52 : decode cX6_boxes 52 = .ok (.goto (-35), 3) := by decide +kernel
theorem dX6_boxes_55 : decode cX6_boxes 55 = .ok (.aload_n 0, 1) := by decide +kernel
theorem dX6_boxes_56 : decode cX6_boxes 56 = .ok (.iload_n 1, 1) := by decide +kernel
theorem dX6_boxes_57 : decode cX6_boxes 57 = .ok (.putfield 157, 3) := by decide +kernel
theorem dX6_boxes_60 : decode cX6_boxes 60 = .ok (.iconst 0, 1) := by decide +kernel
theorem dX6_boxes_61 : decode cX6_boxes 61 = .ok (.istore_n 2, 1) := by decide +kernel
theorem dX6_boxes_62 : decode cX6_boxes 62 = .ok (.iload_n 2, 1) := by decide +kernel
theorem dX6_boxes_63 : decode cX6_boxes 63 = .ok (.iconst 5, 1) := by decide +kernel
theorem dX6_boxes_64 : decode cX6_boxes 64 = .ok (.if_icmp .ge 30, 3) := by decide +kernel
theorem dX6_boxes_67 : decode cX6_boxes 67 = .ok (.aload_n 0, 1) := by decide +kernel
theorem dX6_boxes_68 : decode cX6_boxes 68 = .ok (.getfield 55, 3) := by decide +kernel
theorem dX6_boxes_71 : decode cX6_boxes 71 = .ok (.iload_n 2, 1) := by decide +kernel
theorem dX6_boxes_72 : decode cX6_boxes 72 = .ok (.iconst 0, 1) := by decide +kernel
theorem dX6_boxes_73 : decode cX6_boxes 73 = .ok (.iastore, 1) := by decide +kernel
theorem dX6_boxes_74 : decode cX6_boxes 74 = .ok (.aload_n 0, 1) := by decide +kernel
theorem dX6_boxes_75 : decode cX6_boxes 75 = .ok (.getfield 58, 3) := by decide +kernel
theorem dX6_boxes_78 : decode cX6_boxes 78 = .ok (.iload_n 2, 1) := by decide +kernel
theorem dX6_boxes_79 : decode cX6_boxes 79 = .ok (.iconst 0, 1) := by decide +kernel
theorem dX6_boxes_80 : decode cX6_boxes 80 = .ok (.bastore, 1) := by decide +kernel
theorem dX6_boxes_81 : decode cX6_boxes 81 = .ok (.aload_n 0, 1) := by decide +kernel
theorem dX6_boxes_82 : decode cX6_boxes 82 = .ok (.getfield 62, 3) := by decide +kernel
theorem dX6_boxes_85 : decode cX6_boxes 85 = .ok (.iload_n 2, 1) := by decide +kernel
theorem dX6_boxes_86 : decode cX6_boxes 86 = .ok (.iconst (-1), 1) := by decide +kernel
theorem dX6_boxes_87 : decode cX6_boxes 87 = .ok (.iastore, 1) := by decide +kernel
theorem dX6_boxes_88 : decode cX6_boxes 88 = .ok (.iinc 2 1, 3) := by decide +kernel
theorem dX6_boxes_91 : decode cX6_boxes 91 = .ok (.goto (-29), 3) := by decide +kernel
theorem dX6_boxes_94 : decode cX6_boxes 94 = .ok (.iconst 0, 1) := by decide +kernel
theorem dX6_boxes_95 : decode cX6_boxes 95 = .ok (.istore_n 2, 1) := by decide +kernel
theorem dX6_boxes_96 : decode cX6_boxes 96 = .ok (.aload_n 0, 1) := by decide +kernel
theorem dX6_boxes_97 : decode cX6_boxes 97 = .ok (.invokevirtual 160, 3) := by decide +kernel
theorem dX6_boxes_100 : decode cX6_boxes 100 = .ok (.istore_n 3, 1) := by decide +kernel
theorem dX6_boxes_101 : decode cX6_boxes 101 = .ok (.iload_n 3, 1) := by decide +kernel
theorem dX6_boxes_102 : decode cX6_boxes 102 = .ok (.iconst (-1), 1) := by decide +kernel
theorem dX6_boxes_103 : decode cX6_boxes 103 = .ok (.if_icmp .eq 93, 3) := by decide +kernel
theorem dX6_boxes_106 : decode cX6_boxes 106 = .ok (.iconst 0, 1) := by decide +kernel
theorem dX6_boxes_107 : decode cX6_boxes 107 = .ok (.istore 4, 2) := by decide +kernel
theorem dX6_boxes_109 : decode cX6_boxes 109 = .ok (.iconst 1, 1) := by decide +kernel
theorem dX6_boxes_110 : decode cX6_boxes 110 = .ok (.istore 5, 2) := by decide +kernel
theorem dX6_boxes_112 : decode cX6_boxes 112 = .ok (.iload 5, 2) := by decide +kernel
theorem dX6_boxes_114 : decode cX6_boxes 114 = .ok (.iload_n 1, 1) := by decide +kernel
theorem dX6_boxes_115 : decode cX6_boxes 115 = .ok (.if_icmp .ge 35, 3) := by decide +kernel
theorem dX6_boxes_118 : decode cX6_boxes 118 = .ok (.aload_n 0, 1) := by decide +kernel
theorem dX6_boxes_119 : decode cX6_boxes 119 = .ok (.getfield 55, 3) := by decide +kernel
theorem dX6_boxes_122 : decode cX6_boxes 122 = .ok (.iload 5, 2) := by decide +kernel
theorem dX6_boxes_124 : decode cX6_boxes 124 = .ok (.iaload, 1) := by decide +kernel
theorem dX6_boxes_125 : decode cX6_boxes 125 = .ok (.aload_n 0, 1) := by decide +kernel
theorem dX6_boxes_126 : decode cX6_boxes 126 = .ok (.getfield 55, 3) := by decide +kernel
theorem dX6_boxes_129 : decode cX6_boxes 129 = .ok (.iload 4, 2) := by decide +kernel
theorem dX6_boxes_131 : decode cX6_boxes 131 = .ok (.iaload, 1) := by decide +kernel
theorem dX6_boxes_132 : decode cX6_boxes 132 = .ok (.if_icmp .ge 8, 3) := by decide +kernel
theorem dX6_boxes_135 : decode cX6_boxes 135 = .ok (.iload 5, 2) := by decide +kernel
theorem dX6_boxes_137 : decode cX6_boxes 137 = .ok (.goto 5, 3) := by decide +kernel
theorem dX6_boxes_140 : decode cX6_boxes 140 = .ok (.iload 4, 2) := by decide +kernel
theorem dX6_boxes_142 : decode cX6_boxes 142 = .ok (.istore 4, 2) := by decide +kernel
theorem dX6_boxes_144 : decode cX6_boxes 144 = .ok (.iinc 5 1, 3) := by decide +kernel
theorem dX6_boxes_147 : decode cX6_boxes 147 = .ok (.goto (-35), 3) := by decide +kernel
theorem dX6_boxes_150 : decode cX6_boxes 150 = .ok (.aload_n 0, 1) := by decide +kernel
theorem dX6_boxes_151 : decode cX6_boxes 151 = .ok (.getfield 55, 3) := by decide +kernel
theorem dX6_boxes_154 : decode cX6_boxes 154 = .ok (.iload 4, 2) := by decide +kernel
theorem dX6_boxes_156 : decode cX6_boxes 156 = .ok (.dup2, 1) := by decide +kernel
theorem dX6_boxes_157 : decode cX6_boxes 157 = .ok (.iaload, 1) := by decide +kernel
theorem dX6_boxes_158 : decode cX6_boxes 158 = .ok (.aload_n 0, 1) := by decide +kernel
theorem dX6_boxes_159 : decode cX6_boxes 159 = .ok (.iload_n 3, 1) := by decide +kernel
theorem dX6_boxes_160 : decode cX6_boxes 160 = .ok (.invokevirtual 151, 3) := by decide +kernel
theorem dX6_boxes_163 : decode cX6_boxes 163 = .ok (.iadd, 1) := by decide +kernel
theorem dX6_boxes_164 : decode cX6_boxes 164 = .ok (.iastore, 1) := by decide +kernel
theorem dX6_boxes_165 : decode cX6_boxes 165 = .ok (.aload_n 0, 1) := by decide +kernel
theorem dX6_boxes_166 : decode cX6_boxes 166 = .ok (.getfield 28, 3) := by decide +kernel
theorem dX6_boxes_169 : decode cX6_boxes 169 = .ok (.iload_n 3, 1) := by decide +kernel
theorem dX6_boxes_170 : decode cX6_boxes 170 = .ok (.iconst 1, 1) := by decide +kernel
theorem dX6_boxes_171 : decode cX6_boxes 171 = .ok (.iastore, 1) := by decide +kernel
theorem dX6_boxes_172 : decode cX6_boxes 172 = .ok (.aload_n 0, 1) := by decide +kernel
theorem dX6_boxes_173 : decode cX6_boxes 173 = .ok (.getfield 34, 3) := by decide +kernel
theorem dX6_boxes_176 : decode cX6_boxes 176 = .ok (.iload_n 3, 1) := by decide +kernel
theorem dX6_boxes_177 : decode cX6_boxes 177 = .ok (.iload 4, 2) := by decide +kernel
theorem dX6_boxes_179 : decode cX6_boxes 179 = .ok (.iastore, 1) := by decide +kernel
theorem dX6_boxes_180 : decode cX6_boxes 180 = .ok (.aload_n 0, 1) := by decide +kernel
theorem dX6_boxes_181 : decode cX6_boxes 181 = .ok (.iload_n 3, 1) := by decide +kernel
theorem dX6_boxes_182 : decode cX6_boxes 182 = .ok (.invokevirtual 164, 3) := by decide +kernel
theorem dX6_boxes_185 : decode cX6_boxes 185 = .ok (.iinc 2 1, 3) := by decide +kernel
theorem dX6_boxes_188 : decode cX6_boxes 188 = .ok (.aload_n 0, 1) := by decide +kernel
theorem dX6_boxes_189 : decode cX6_boxes 189 = .ok (.invokevirtual 160, 3) := by decide +kernel
theorem dX6_boxes_192 : decode cX6_boxes 192 = .ok (.istore_n 3, 1) := by decide +kernel
theorem dX6_boxes_193 : decode cX6_boxes 193 = .ok (.goto (-92), 3) := by decide +kernel
theorem dX6_boxes_196 : decode cX6_boxes 196 = .ok (.iconst 0, 1) := by decide +kernel
theorem dX6_boxes_197 : decode cX6_boxes 197 = .ok (.istore_n 3, 1) := by decide +kernel
theorem dX6_boxes_198 : decode cX6_boxes 198 = .ok (.iload_n 3, 1) := by decide +kernel
theorem dX6_boxes_199 : decode cX6_boxes 199 = .ok (.iconst 5, 1) := by decide +kernel
theorem dX6_boxes_200 : decode cX6_boxes 200 = .ok (.if_icmp .ge 24, 3) := by decide +kernel
theorem dX6_boxes_203 : decode cX6_boxes 203 = .ok (.aload_n 0, 1) := by decide +kernel
theorem dX6_boxes_204 : decode cX6_boxes 204 = .ok (.getfield 62, 3) := by decide +kernel
theorem dX6_boxes_207 : decode cX6_boxes 207 = .ok (.iload_n 3, 1) := by decide +kernel
theorem dX6_boxes_208 : decode cX6_boxes 208 = .ok (.aload_n 0, 1) := by decide +kernel
theorem dX6_boxes_209 : decode cX6_boxes 209 = .ok (.aload_n 0, 1) := by decide +kernel
theorem dX6_boxes_210 : decode cX6_boxes 210 = .ok (.iload_n 3, 1) := by decide +kernel
theorem dX6_boxes_211 : decode cX6_boxes 211 = .ok (.invokevirtual 168, 3) := by decide +kernel
theorem dX6_boxes_214 : decode cX6_boxes 214 = .ok (.invokevirtual 171, 3) := by decide +kernel
theorem dX6_boxes_217 : decode cX6_boxes 217 = .ok (.iastore, 1) := by decide +kernel
theorem dX6_boxes_218 : decode cX6_boxes 218 = .ok (.iinc 3 1, 3) := by decide +kernel
theorem dX6_boxes_221 : decode cX6_boxes 221 = .ok (.goto (-23), 3) := by decide +kernel
theorem dX6_boxes_224 : decode cX6_boxes 224 = .ok (.iload_n 2, 1) := by decide +kernel
theorem dX6_boxes_225 : decode cX6_boxes 225 = .ok (.ireturn, 1) := by decide +kernel
theorem dX6_rankOf_0 : decode cX6_rankOf 0 = .ok (.iconst 0, 1) := by decide +kernel
theorem dX6_rankOf_1 : decode cX6_rankOf 1 = .ok (.istore_n 2, 1) := by decide +kernel
theorem dX6_rankOf_2 : decode cX6_rankOf 2 = .ok (.iconst 0, 1) := by decide +kernel
theorem dX6_rankOf_3 : decode cX6_rankOf 3 = .ok (.istore_n 3, 1) := by decide +kernel
theorem dX6_rankOf_4 : decode cX6_rankOf 4 = .ok (.iload_n 3, 1) := by decide +kernel
theorem dX6_rankOf_5 : decode cX6_rankOf 5 = .ok (.iconst 5, 1) := by decide +kernel
theorem dX6_rankOf_6 : decode cX6_rankOf 6 = .ok (.if_icmp .ge 52, 3) := by decide +kernel
theorem dX6_rankOf_9 : decode cX6_rankOf 9 = .ok (.iload_n 2, 1) := by decide +kernel
theorem dX6_rankOf_10 : decode cX6_rankOf 10 = .ok (.aload_n 0, 1) := by decide +kernel
theorem dX6_rankOf_11 : decode cX6_rankOf 11 = .ok (.getfield 65, 3) := by decide +kernel
theorem dX6_rankOf_14 : decode cX6_rankOf 14 = .ok (.iload_n 3, 1) := by decide +kernel
theorem dX6_rankOf_15 : decode cX6_rankOf 15 = .ok (.iaload, 1) := by decide +kernel
theorem dX6_rankOf_16 : decode cX6_rankOf 16 = .ok (.aload_n 0, 1) := by decide +kernel
theorem dX6_rankOf_17 : decode cX6_rankOf 17 = .ok (.getfield 65, 3) := by decide +kernel
theorem dX6_rankOf_20 : decode cX6_rankOf 20 = .ok (.iload_n 1, 1) := by decide +kernel
theorem dX6_rankOf_21 : decode cX6_rankOf 21 = .ok (.iaload, 1) := by decide +kernel
theorem dX6_rankOf_22 : decode cX6_rankOf 22 = .ok (.if_icmp .gt 23, 3) := by decide +kernel
theorem dX6_rankOf_25 : decode cX6_rankOf 25 = .ok (.aload_n 0, 1) := by decide +kernel
theorem dX6_rankOf_26 : decode cX6_rankOf 26 = .ok (.getfield 65, 3) := by decide +kernel
theorem dX6_rankOf_29 : decode cX6_rankOf 29 = .ok (.iload_n 3, 1) := by decide +kernel
theorem dX6_rankOf_30 : decode cX6_rankOf 30 = .ok (.iaload, 1) := by decide +kernel
theorem dX6_rankOf_31 : decode cX6_rankOf 31 = .ok (.aload_n 0, 1) := by decide +kernel
theorem dX6_rankOf_32 : decode cX6_rankOf 32 = .ok (.getfield 65, 3) := by decide +kernel
theorem dX6_rankOf_35 : decode cX6_rankOf 35 = .ok (.iload_n 1, 1) := by decide +kernel
theorem dX6_rankOf_36 : decode cX6_rankOf 36 = .ok (.iaload, 1) := by decide +kernel
theorem dX6_rankOf_37 : decode cX6_rankOf 37 = .ok (.if_icmp .ne 12, 3) := by decide +kernel
theorem dX6_rankOf_40 : decode cX6_rankOf 40 = .ok (.iload_n 3, 1) := by decide +kernel
theorem dX6_rankOf_41 : decode cX6_rankOf 41 = .ok (.iload_n 1, 1) := by decide +kernel
theorem dX6_rankOf_42 : decode cX6_rankOf 42 = .ok (.if_icmp .ge 7, 3) := by decide +kernel
theorem dX6_rankOf_45 : decode cX6_rankOf 45 = .ok (.iconst 1, 1) := by decide +kernel
theorem dX6_rankOf_46 : decode cX6_rankOf 46 = .ok (.goto 4, 3) := by decide +kernel
theorem dX6_rankOf_49 : decode cX6_rankOf 49 = .ok (.iconst 0, 1) := by decide +kernel
theorem dX6_rankOf_50 : decode cX6_rankOf 50 = .ok (.iadd, 1) := by decide +kernel
theorem dX6_rankOf_51 : decode cX6_rankOf 51 = .ok (.istore_n 2, 1) := by decide +kernel
theorem dX6_rankOf_52 : decode cX6_rankOf 52 = .ok (.iinc 3 1, 3) := by decide +kernel
theorem dX6_rankOf_55 : decode cX6_rankOf 55 = .ok (.goto (-51), 3) := by decide +kernel
theorem dX6_rankOf_58 : decode cX6_rankOf 58 = .ok (.iload_n 2, 1) := by decide +kernel
theorem dX6_rankOf_59 : decode cX6_rankOf 59 = .ok (.ireturn, 1) := by decide +kernel
theorem dX6_boxAt_0 : decode cX6_boxAt 0 = .ok (.iconst 0, 1) := by decide +kernel
theorem dX6_boxAt_1 : decode cX6_boxAt 1 = .ok (.istore_n 2, 1) := by decide +kernel
theorem dX6_boxAt_2 : decode cX6_boxAt 2 = .ok (.iload_n 2, 1) := by decide +kernel
theorem dX6_boxAt_3 : decode cX6_boxAt 3 = .ok (.aload_n 0, 1) := by decide +kernel
theorem dX6_boxAt_4 : decode cX6_boxAt 4 = .ok (.getfield 157, 3) := by decide +kernel
theorem dX6_boxAt_7 : decode cX6_boxAt 7 = .ok (.if_icmp .ge 82, 3) := by decide +kernel
theorem dX6_boxAt_10 : decode cX6_boxAt 10 = .ok (.iconst 0, 1) := by decide +kernel
theorem dX6_boxAt_11 : decode cX6_boxAt 11 = .ok (.istore_n 3, 1) := by decide +kernel
theorem dX6_boxAt_12 : decode cX6_boxAt 12 = .ok (.iconst 0, 1) := by decide +kernel
theorem dX6_boxAt_13 : decode cX6_boxAt 13 = .ok (.istore 4, 2) := by decide +kernel
theorem dX6_boxAt_15 : decode cX6_boxAt 15 = .ok (.iload 4, 2) := by decide +kernel
theorem dX6_boxAt_17 : decode cX6_boxAt 17 = .ok (.aload_n 0, 1) := by decide +kernel
theorem dX6_boxAt_18 : decode cX6_boxAt 18 = .ok (.getfield 157, 3) := by decide +kernel
theorem dX6_boxAt_21 : decode cX6_boxAt 21 = .ok (.if_icmp .ge 55, 3) := by decide +kernel
theorem dX6_boxAt_24 : decode cX6_boxAt 24 = .ok (.iload_n 3, 1) := by decide +kernel
theorem dX6_boxAt_25 : decode cX6_boxAt 25 = .ok (.aload_n 0, 1) := by decide +kernel
theorem dX6_boxAt_26 : decode cX6_boxAt 26 = .ok (.getfield 55, 3) := by decide +kernel
theorem dX6_boxAt_29 : decode cX6_boxAt 29 = .ok (.iload 4, 2) := by decide +kernel
theorem dX6_boxAt_31 : decode cX6_boxAt 31 = .ok (.iaload, 1) := by decide +kernel
theorem dX6_boxAt_32 : decode cX6_boxAt 32 = .ok (.aload_n 0, 1) := by decide +kernel
theorem dX6_boxAt_33 : decode cX6_boxAt 33 = .ok (.getfield 55, 3) := by decide +kernel
theorem dX6_boxAt_36 : decode cX6_boxAt 36 = .ok (.iload_n 2, 1) := by decide +kernel
theorem dX6_boxAt_37 : decode cX6_boxAt 37 = .ok (.iaload, 1) := by decide +kernel
theorem dX6_boxAt_38 : decode cX6_boxAt 38 = .ok (.if_icmp .gt 25, 3) := by decide +kernel
theorem dX6_boxAt_41 : decode cX6_boxAt 41 = .ok (.aload_n 0, 1) := by decide +kernel
theorem dX6_boxAt_42 : decode cX6_boxAt 42 = .ok (.getfield 55, 3) := by decide +kernel
theorem dX6_boxAt_45 : decode cX6_boxAt 45 = .ok (.iload 4, 2) := by decide +kernel
theorem dX6_boxAt_47 : decode cX6_boxAt 47 = .ok (.iaload, 1) := by decide +kernel
theorem dX6_boxAt_48 : decode cX6_boxAt 48 = .ok (.aload_n 0, 1) := by decide +kernel
theorem dX6_boxAt_49 : decode cX6_boxAt 49 = .ok (.getfield 55, 3) := by decide +kernel
theorem dX6_boxAt_52 : decode cX6_boxAt 52 = .ok (.iload_n 2, 1) := by decide +kernel
theorem dX6_boxAt_53 : decode cX6_boxAt 53 = .ok (.iaload, 1) := by decide +kernel
theorem dX6_boxAt_54 : decode cX6_boxAt 54 = .ok (.if_icmp .ne 13, 3) := by decide +kernel
theorem dX6_boxAt_57 : decode cX6_boxAt 57 = .ok (.iload 4, 2) := by decide +kernel
theorem dX6_boxAt_59 : decode cX6_boxAt 59 = .ok (.iload_n 2, 1) := by decide +kernel
theorem dX6_boxAt_60 : decode cX6_boxAt 60 = .ok (.if_icmp .ge 7, 3) := by decide +kernel
theorem dX6_boxAt_63 : decode cX6_boxAt 63 = .ok (.iconst 1, 1) := by decide +kernel
theorem dX6_boxAt_64 : decode cX6_boxAt 64 = .ok (.goto 4, 3) := by decide +kernel
theorem dX6_boxAt_67 : decode cX6_boxAt 67 = .ok (.iconst 0, 1) := by decide +kernel
theorem dX6_boxAt_68 : decode cX6_boxAt 68 = .ok (.iadd, 1) := by decide +kernel
theorem dX6_boxAt_69 : decode cX6_boxAt 69 = .ok (.istore_n 3, 1) := by decide +kernel
theorem dX6_boxAt_70 : decode cX6_boxAt 70 = .ok (.iinc 4 1, 3) := by decide +kernel
theorem dX6_boxAt_73 : decode cX6_boxAt 73 = .ok (.goto (-58), 3) := by decide +kernel
theorem dX6_boxAt_76 : decode cX6_boxAt 76 = .ok (.iload_n 3, 1) := by decide +kernel
theorem dX6_boxAt_77 : decode cX6_boxAt 77 = .ok (.iload_n 1, 1) := by decide +kernel
theorem dX6_boxAt_78 : decode cX6_boxAt 78 = .ok (.if_icmp .ne 5, 3) := by decide +kernel
theorem dX6_boxAt_81 : decode cX6_boxAt 81 = .ok (.iload_n 2, 1) := by decide +kernel
theorem dX6_boxAt_82 : decode cX6_boxAt 82 = .ok (.ireturn, 1) := by decide +kernel
theorem dX6_boxAt_83 : decode cX6_boxAt 83 = .ok (.iinc 2 1, 3) := by decide +kernel
theorem dX6_boxAt_86 : decode cX6_boxAt 86 = .ok (.goto (-84), 3) := by decide +kernel
theorem dX6_boxAt_89 : decode cX6_boxAt 89 = .ok (.iconst (-1), 1) := by decide +kernel
theorem dX6_boxAt_90 : decode cX6_boxAt 90 = .ok (.ireturn, 1) := by decide +kernel
theorem dX6_boxValue_0 : decode cX6_boxValue 0 = .ok (.aload_n 0, 1) := by decide +kernel
theorem dX6_boxValue_1 : decode cX6_boxValue 1 = .ok (.iload_n 1, 1) := by decide +kernel
theorem dX6_boxValue_2 : decode cX6_boxValue 2 = .ok (.iconst 0, 1) := by decide +kernel
theorem dX6_boxValue_3 : decode cX6_boxValue 3 = .ok (.aload_n 0, 1) := by decide +kernel
theorem dX6_boxValue_4 : decode cX6_boxValue 4 = .ok (.getfield 157, 3) := by decide +kernel
theorem dX6_boxValue_7 : decode cX6_boxValue 7 = .ok (.iconst 1, 1) := by decide +kernel
theorem dX6_boxValue_8 : decode cX6_boxValue 8 = .ok (.isub, 1) := by decide +kernel
theorem dX6_boxValue_9 : decode cX6_boxValue 9 = .ok (.invokestatic 114, 3) := by decide +kernel
theorem dX6_boxValue_12 : decode cX6_boxValue 12 = .ok (.invokevirtual 148, 3) := by decide +kernel
theorem dX6_boxValue_15 : decode cX6_boxValue 15 = .ok (.ifCond .ne 5, 3) := by decide +kernel
theorem dX6_boxValue_18 : decode cX6_boxValue 18 = .ok (.iconst 0, 1) := by decide +kernel
theorem dX6_boxValue_19 : decode cX6_boxValue 19 = .ok (.ireturn, 1) := by decide +kernel
theorem dX6_boxValue_20 : decode cX6_boxValue 20 = .ok (.iconst 0, 1) := by decide +kernel
theorem dX6_boxValue_21 : decode cX6_boxValue 21 = .ok (.istore_n 2, 1) := by decide +kernel
theorem dX6_boxValue_22 : decode cX6_boxValue 22 = .ok (.iconst 0, 1) := by decide +kernel
theorem dX6_boxValue_23 : decode cX6_boxValue 23 = .ok (.istore_n 3, 1) := by decide +kernel
theorem dX6_boxValue_24 : decode cX6_boxValue 24 = .ok (.iload_n 3, 1) := by decide +kernel
theorem dX6_boxValue_25 : decode cX6_boxValue 25 = .ok (.aload_n 0, 1) := by decide +kernel
theorem dX6_boxValue_26 : decode cX6_boxValue 26 = .ok (.getfield 111, 3) := by decide +kernel
theorem dX6_boxValue_29 : decode cX6_boxValue 29 = .ok (.if_icmp .ge 41, 3) := by decide +kernel
theorem dX6_boxValue_32 : decode cX6_boxValue 32 = .ok (.iload_n 2, 1) := by decide +kernel
theorem dX6_boxValue_33 : decode cX6_boxValue 33 = .ok (.aload_n 0, 1) := by decide +kernel
theorem dX6_boxValue_34 : decode cX6_boxValue 34 = .ok (.getfield 28, 3) := by decide +kernel
theorem dX6_boxValue_37 : decode cX6_boxValue 37 = .ok (.iload_n 3, 1) := by decide +kernel
theorem dX6_boxValue_38 : decode cX6_boxValue 38 = .ok (.iaload, 1) := by decide +kernel
theorem dX6_boxValue_39 : decode cX6_boxValue 39 = .ok (.iconst 1, 1) := by decide +kernel
theorem dX6_boxValue_40 : decode cX6_boxValue 40 = .ok (.if_icmp .ne 21, 3) := by decide +kernel
theorem dX6_boxValue_43 : decode cX6_boxValue 43 = .ok (.aload_n 0, 1) := by decide +kernel
theorem dX6_boxValue_44 : decode cX6_boxValue 44 = .ok (.getfield 34, 3) := by decide +kernel
theorem dX6_boxValue_47 : decode cX6_boxValue 47 = .ok (.iload_n 3, 1) := by decide +kernel
theorem dX6_boxValue_48 : decode cX6_boxValue 48 = .ok (.iaload, 1) := by decide +kernel
theorem dX6_boxValue_49 : decode cX6_boxValue 49 = .ok (.iload_n 1, 1) := by decide +kernel
theorem dX6_boxValue_50 : decode cX6_boxValue 50 = .ok (.if_icmp .ne 11, 3) := by decide +kernel
theorem dX6_boxValue_53 : decode cX6_boxValue 53 = .ok (.aload_n 0, 1) := by decide +kernel
theorem dX6_boxValue_54 : decode cX6_boxValue 54 = .ok (.iload_n 3, 1) := by decide +kernel
theorem dX6_boxValue_55 : decode cX6_boxValue 55 = .ok (.invokevirtual 151, 3) := by decide +kernel
theorem dX6_boxValue_58 : decode cX6_boxValue 58 = .ok (.goto 4, 3) := by decide +kernel
theorem dX6_boxValue_61 : decode cX6_boxValue 61 = .ok (.iconst 0, 1) := by decide +kernel
theorem dX6_boxValue_62 : decode cX6_boxValue 62 = .ok (.iadd, 1) := by decide +kernel
theorem dX6_boxValue_63 : decode cX6_boxValue 63 = .ok (.istore_n 2, 1) := by decide +kernel
theorem dX6_boxValue_64 : decode cX6_boxValue 64 = .ok (.iinc 3 1, 3) := by decide +kernel
theorem dX6_boxValue_67 : decode cX6_boxValue 67 = .ok (.goto (-43), 3) := by decide +kernel
theorem dX6_boxValue_70 : decode cX6_boxValue 70 = .ok (.aload_n 0, 1) := by decide +kernel
theorem dX6_boxValue_71 : decode cX6_boxValue 71 = .ok (.getfield 58, 3) := by decide +kernel
theorem dX6_boxValue_74 : decode cX6_boxValue 74 = .ok (.iload_n 1, 1) := by decide +kernel
theorem dX6_boxValue_75 : decode cX6_boxValue 75 = .ok (.baload, 1) := by decide +kernel
theorem dX6_boxValue_76 : decode cX6_boxValue 76 = .ok (.ifCond .eq 7, 3) := by decide +kernel
theorem dX6_boxValue_79 : decode cX6_boxValue 79 = .ok (.iconst (-1), 1) := by decide +kernel
theorem dX6_boxValue_80 : decode cX6_boxValue 80 = .ok (.goto 4, 3) := by decide +kernel
theorem dX6_boxValue_83 : decode cX6_boxValue 83 = .ok (.iload_n 2, 1) := by decide +kernel
theorem dX6_boxValue_84 : decode cX6_boxValue 84 = .ok (.ireturn, 1) := by decide +kernel
theorem dX6_offered_0 : decode cX6_offered 0 = .ok (.aload_n 0, 1) := by decide +kernel
theorem dX6_offered_1 : decode cX6_offered 1 = .ok (.iload_n 1, 1) := by decide +kernel
theorem dX6_offered_2 : decode cX6_offered 2 = .ok (.invokestatic 174, 3) := by decide +kernel
theorem dX6_offered_5 : decode cX6_offered 5 = .ok (.invokevirtual 148, 3) := by decide +kernel
theorem dX6_offered_8 : decode cX6_offered 8 = .ok (.ifCond .eq 12, 3) := by decide +kernel
theorem dX6_offered_11 : decode cX6_offered 11 = .ok (.aload_n 0, 1) := by decide +kernel
theorem dX6_offered_12 : decode cX6_offered 12 = .ok (.getfield 62, 3) := by decide +kernel
theorem dX6_offered_15 : decode cX6_offered 15 = .ok (.iload_n 1, 1) := by decide +kernel
theorem dX6_offered_16 : decode cX6_offered 16 = .ok (.iaload, 1) := by decide +kernel
theorem dX6_offered_17 : decode cX6_offered 17 = .ok (.goto 4, 3) := by decide +kernel
theorem dX6_offered_20 : decode cX6_offered 20 = .ok (.iconst 0, 1) := by decide +kernel
theorem dX6_offered_21 : decode cX6_offered 21 = .ok (.ireturn, 1) := by decide +kernel
theorem dX6_take_0 : decode cX6_take 0 = .ok (.iload_n 1, 1) := by decide +kernel
theorem dX6_take_1 : decode cX6_take 1 = .ok (.invokestatic 174, 3) := by decide +kernel
theorem dX6_take_4 : decode cX6_take 4 = .ok (.istore_n 3, 1) := by decide +kernel
theorem dX6_take_5 : decode cX6_take 5 = .ok (.aload_n 0, 1) := by decide +kernel
theorem dX6_take_6 : decode cX6_take 6 = .ok (.iload_n 3, 1) := by decide +kernel
theorem dX6_take_7 : decode cX6_take 7 = .ok (.iload_n 3, 1) := by decide +kernel
theorem dX6_take_8 : decode cX6_take 8 = .ok (.ifCond .eq 17, 3) := by decide +kernel
theorem dX6_take_11 : decode cX6_take 11 = .ok (.aload_n 0, 1) := by decide +kernel
theorem dX6_take_12 : decode cX6_take 12 = .ok (.getfield 62, 3) := by decide +kernel
theorem dX6_take_15 : decode cX6_take 15 = .ok (.iload_n 1, 1) := by decide +kernel
theorem dX6_take_16 : decode cX6_take 16 = .ok (.iaload, 1) := by decide +kernel
theorem dX6_take_17 : decode cX6_take 17 = .ok (.iconst (-1), 1) := by decide +kernel
theorem dX6_take_18 : decode cX6_take 18 = .ok (.if_icmp .eq 7, 3) := by decide +kernel
theorem dX6_take_21 : decode cX6_take 21 = .ok (.iconst 1, 1) := by decide +kernel
theorem dX6_take_22 : decode cX6_take 22 = .ok (.goto 4, 3) := by decide +kernel
theorem dX6_take_25 : decode cX6_take 25 = .ok (.iconst 0, 1) := by decide +kernel
theorem dX6_take_26 : decode cX6_take 26 = .ok (.invokevirtual 124, 3) := by decide +kernel
theorem dX6_take_29 : decode cX6_take 29 = .ok (.ifCond .ne 5, 3) := by decide +kernel
theorem dX6_take_32 : decode cX6_take 32 = .ok (.iconst 0, 1) := by decide +kernel
theorem dX6_take_33 : decode cX6_take 33 = .ok (.ireturn, 1) := by decide +kernel
theorem dX6_take_34 : decode cX6_take 34 = .ok (.iconst 0, 1) := by decide +kernel
theorem dX6_take_35 : decode cX6_take 35 = .ok (.istore 4, 2) := by decide +kernel
theorem dX6_take_37 : decode cX6_take 37 = .ok (.iload 4, 2) := by decide +kernel
theorem dX6_take_39 : decode cX6_take 39 = .ok (.aload_n 0, 1) := by decide +kernel
theorem dX6_take_40 : decode cX6_take 40 = .ok (.getfield 111, 3) := by decide +kernel
theorem dX6_take_43 : decode cX6_take 43 = .ok (.if_icmp .ge 76, 3) := by decide +kernel
theorem dX6_take_46 : decode cX6_take 46 = .ok (.aload_n 0, 1) := by decide +kernel
theorem dX6_take_47 : decode cX6_take 47 = .ok (.getfield 28, 3) := by decide +kernel
theorem dX6_take_50 : decode cX6_take 50 = .ok (.iload 4, 2) := by decide +kernel
theorem dX6_take_52 : decode cX6_take 52 = .ok (.iaload, 1) := by decide +kernel
theorem dX6_take_53 : decode cX6_take 53 = .ok (.iconst 1, 1) := by decide +kernel
theorem dX6_take_54 : decode cX6_take 54 = .ok (.if_icmp .ne 59, 3) := by decide +kernel
theorem dX6_take_57 : decode cX6_take 57 = .ok (.aload_n 0, 1) := by decide +kernel
theorem dX6_take_58 : decode cX6_take 58 = .ok (.getfield 34, 3) := by decide +kernel
theorem dX6_take_61 : decode cX6_take 61 = .ok (.iload 4, 2) := by decide +kernel
theorem dX6_take_63 : decode cX6_take 63 = .ok (.iaload, 1) := by decide +kernel
theorem dX6_take_64 : decode cX6_take 64 = .ok (.aload_n 0, 1) := by decide +kernel
theorem dX6_take_65 : decode cX6_take 65 = .ok (.getfield 62, 3) := by decide +kernel
theorem dX6_take_68 : decode cX6_take 68 = .ok (.iload_n 1, 1) := by decide +kernel
theorem dX6_take_69 : decode cX6_take 69 = .ok (.iaload, 1) := by decide +kernel
theorem dX6_take_70 : decode cX6_take 70 = .ok (.if_icmp .ne 43, 3) := by decide +kernel
theorem dX6_take_73 : decode cX6_take 73 = .ok (.aload_n 0, 1) := by decide +kernel
theorem dX6_take_74 : decode cX6_take 74 = .ok (.getfield 28, 3) := by decide +kernel
theorem dX6_take_77 : decode cX6_take 77 = .ok (.iload 4, 2) := by decide +kernel
theorem dX6_take_79 : decode cX6_take 79 = .ok (.iload_n 2, 1) := by decide +kernel
theorem dX6_take_80 : decode cX6_take 80 = .ok (.ifCond .eq 7, 3) := by decide +kernel
theorem dX6_take_83 : decode cX6_take 83 = .ok (.iconst 2, 1) := by decide +kernel
theorem dX6_take_84 : decode cX6_take 84 = .ok (.goto 4, 3) := by decide +kernel
theorem dX6_take_87 : decode cX6_take 87 = .ok (.iconst 0, 1) := by decide +kernel
theorem dX6_take_88 : decode cX6_take 88 = .ok (.iastore, 1) := by decide +kernel
theorem dX6_take_89 : decode cX6_take 89 = .ok (.aload_n 0, 1) := by decide +kernel
theorem dX6_take_90 : decode cX6_take 90 = .ok (.getfield 31, 3) := by decide +kernel
theorem dX6_take_93 : decode cX6_take 93 = .ok (.iload 4, 2) := by decide +kernel
theorem dX6_take_95 : decode cX6_take 95 = .ok (.iload_n 2, 1) := by decide +kernel
theorem dX6_take_96 : decode cX6_take 96 = .ok (.ifCond .eq 7, 3) := by decide +kernel
theorem dX6_take_99 : decode cX6_take 99 = .ok (.iload_n 1, 1) := by decide +kernel
theorem dX6_take_100 : decode cX6_take 100 = .ok (.goto 4, 3) := by decide +kernel
theorem dX6_take_103 : decode cX6_take 103 = .ok (.iconst (-1), 1) := by decide +kernel
theorem dX6_take_104 : decode cX6_take 104 = .ok (.iastore, 1) := by decide +kernel
theorem dX6_take_105 : decode cX6_take 105 = .ok (.aload_n 0, 1) := by decide +kernel
theorem dX6_take_106 : decode cX6_take 106 = .ok (.getfield 34, 3) := by decide +kernel
theorem dX6_take_109 : decode cX6_take 109 = .ok (.iload 4, 2) := by decide +kernel
theorem dX6_take_111 : decode cX6_take 111 = .ok (.iconst (-1), 1) := by decide +kernel
theorem dX6_take_112 : decode cX6_take 112 = .ok (.iastore, 1) := by decide +kernel
theorem dX6_take_113 : decode cX6_take 113 = .ok (.iinc 4 1, 3) := by decide +kernel
theorem dX6_take_116 : decode cX6_take 116 = .ok (.goto (-79), 3) := by decide +kernel
theorem dX6_take_119 : decode cX6_take 119 = .ok (.aload_n 0, 1) := by decide +kernel
theorem dX6_take_120 : decode cX6_take 120 = .ok (.getfield 58, 3) := by decide +kernel
theorem dX6_take_123 : decode cX6_take 123 = .ok (.aload_n 0, 1) := by decide +kernel
theorem dX6_take_124 : decode cX6_take 124 = .ok (.getfield 62, 3) := by decide +kernel
theorem dX6_take_127 : decode cX6_take 127 = .ok (.iload_n 1, 1) := by decide +kernel
theorem dX6_take_128 : decode cX6_take 128 = .ok (.iaload, 1) := by decide +kernel
theorem dX6_take_129 : decode cX6_take 129 = .ok (.iconst 1, 1) := by decide +kernel
theorem dX6_take_130 : decode cX6_take 130 = .ok (.bastore, 1) := by decide +kernel
theorem dX6_take_131 : decode cX6_take 131 = .ok (.aload_n 0, 1) := by decide +kernel
theorem dX6_take_132 : decode cX6_take 132 = .ok (.getfield 62, 3) := by decide +kernel
theorem dX6_take_135 : decode cX6_take 135 = .ok (.iload_n 1, 1) := by decide +kernel
theorem dX6_take_136 : decode cX6_take 136 = .ok (.iconst (-1), 1) := by decide +kernel
theorem dX6_take_137 : decode cX6_take 137 = .ok (.iastore, 1) := by decide +kernel
theorem dX6_take_138 : decode cX6_take 138 = .ok (.aload_n 0, 1) := by decide +kernel
theorem dX6_take_139 : decode cX6_take 139 = .ok (.getfield 65, 3) := by decide +kernel
theorem dX6_take_142 : decode cX6_take 142 = .ok (.iload_n 1, 1) := by decide +kernel
theorem dX6_take_143 : decode cX6_take 143 = .ok (.aload_n 0, 1) := by decide +kernel
theorem dX6_take_144 : decode cX6_take 144 = .ok (.getfield 65, 3) := by decide +kernel
theorem dX6_take_147 : decode cX6_take 147 = .ok (.iload_n 1, 1) := by decide +kernel
theorem dX6_take_148 : decode cX6_take 148 = .ok (.iaload, 1) := by decide +kernel
theorem dX6_take_149 : decode cX6_take 149 = .ok (.iload_n 2, 1) := by decide +kernel
theorem dX6_take_150 : decode cX6_take 150 = .ok (.ifCond .eq 7, 3) := by decide +kernel
theorem dX6_take_153 : decode cX6_take 153 = .ok (.iconst 5, 1) := by decide +kernel
theorem dX6_take_154 : decode cX6_take 154 = .ok (.goto 5, 3) := by decide +kernel
theorem dX6_take_157 : decode cX6_take 157 = .ok (.bipush (-10), 2) := by decide +kernel
theorem dX6_take_159 : decode cX6_take 159 = .ok (.iadd, 1) := by decide +kernel
theorem dX6_take_160 : decode cX6_take 160 = .ok (.bipush 100, 2) := by decide +kernel
theorem dX6_take_162 : decode cX6_take 162 = .ok (.invokestatic 135, 3) := by decide +kernel
theorem dX6_take_165 : decode cX6_take 165 = .ok (.iastore, 1) := by decide +kernel
theorem dX6_take_166 : decode cX6_take 166 = .ok (.aload_n 0, 1) := by decide +kernel
theorem dX6_take_167 : decode cX6_take 167 = .ok (.getfield 65, 3) := by decide +kernel
theorem dX6_take_170 : decode cX6_take 170 = .ok (.iload_n 1, 1) := by decide +kernel
theorem dX6_take_171 : decode cX6_take 171 = .ok (.iaload, 1) := by decide +kernel
theorem dX6_take_172 : decode cX6_take 172 = .ok (.ireturn, 1) := by decide +kernel
theorem dX6_tender_0 : decode cX6_tender 0 = .ok (.aload_n 0, 1) := by decide +kernel
theorem dX6_tender_1 : decode cX6_tender 1 = .ok (.iload_n 1, 1) := by decide +kernel
theorem dX6_tender_2 : decode cX6_tender 2 = .ok (.invokevirtual 131, 3) := by decide +kernel
theorem dX6_tender_5 : decode cX6_tender 5 = .ok (.istore_n 3, 1) := by decide +kernel
theorem dX6_tender_6 : decode cX6_tender 6 = .ok (.aload_n 0, 1) := by decide +kernel
theorem dX6_tender_7 : decode cX6_tender 7 = .ok (.iload_n 3, 1) := by decide +kernel
theorem dX6_tender_8 : decode cX6_tender 8 = .ok (.iload_n 2, 1) := by decide +kernel
theorem dX6_tender_9 : decode cX6_tender 9 = .ok (.iconst 0, 1) := by decide +kernel
theorem dX6_tender_10 : decode cX6_tender 10 = .ok (.ldc 177, 2) := by decide +kernel
theorem dX6_tender_12 : decode cX6_tender 12 = .ok (.invokestatic 114, 3) := by decide +kernel
theorem dX6_tender_15 : decode cX6_tender 15 = .ok (.iload_n 3, 1) := by decide +kernel
theorem dX6_tender_16 : decode cX6_tender 16 = .ok (.ifCond .eq 24, 3) := by decide +kernel
theorem dX6_tender_19 : decode cX6_tender 19 = .ok (.aload_n 0, 1) := by decide +kernel
theorem dX6_tender_20 : decode cX6_tender 20 = .ok (.getfield 28, 3) := by decide +kernel
theorem dX6_tender_23 : decode cX6_tender 23 = .ok (.iload_n 1, 1) := by decide +kernel
theorem dX6_tender_24 : decode cX6_tender 24 = .ok (.iaload, 1) := by decide +kernel
theorem dX6_tender_25 : decode cX6_tender 25 = .ok (.ifCond .ne 15, 3) := by decide +kernel
theorem dX6_tender_28 : decode cX6_tender 28 = .ok (.aload_n 0, 1) := by decide +kernel
theorem dX6_tender_29 : decode cX6_tender 29 = .ok (.getfield 68, 3) := by decide +kernel
theorem dX6_tender_32 : decode cX6_tender 32 = .ok (.iconst (-1), 1) := by decide +kernel
theorem dX6_tender_33 : decode cX6_tender 33 = .ok (.if_icmp .ne 7, 3) := by decide +kernel
theorem dX6_tender_36 : decode cX6_tender 36 = .ok (.iconst 1, 1) := by decide +kernel
theorem dX6_tender_37 : decode cX6_tender 37 = .ok (.goto 4, 3) := by decide +kernel
theorem dX6_tender_40 : decode cX6_tender 40 = .ok (.iconst 0, 1) := by decide +kernel
theorem dX6_tender_41 : decode cX6_tender 41 = .ok (.invokevirtual 128, 3) := by decide +kernel
theorem dX6_tender_44 : decode cX6_tender 44 = .ok (.ifCond .eq 36, 3) := by decide +kernel
theorem dX6_tender_47 : decode cX6_tender 47 = .ok (.aload_n 0, 1) := by decide +kernel
theorem dX6_tender_48 : decode cX6_tender 48 = .ok (.iload_n 1, 1) := by decide +kernel
theorem dX6_tender_49 : decode cX6_tender 49 = .ok (.putfield 68, 3) := by decide +kernel
theorem dX6_tender_52 : decode cX6_tender 52 = .ok (.aload_n 0, 1) := by decide +kernel
theorem dX6_tender_53 : decode cX6_tender 53 = .ok (.iload_n 2, 1) := by decide +kernel
theorem dX6_tender_54 : decode cX6_tender 54 = .ok (.putfield 178, 3) := by decide +kernel
theorem dX6_tender_57 : decode cX6_tender 57 = .ok (.iconst 0, 1) := by decide +kernel
theorem dX6_tender_58 : decode cX6_tender 58 = .ok (.istore 4, 2) := by decide +kernel
theorem dX6_tender_60 : decode cX6_tender 60 = .ok (.iload 4, 2) := by decide +kernel
theorem dX6_tender_62 : decode cX6_tender 62 = .ok (.iconst 5, 1) := by decide +kernel
theorem dX6_tender_63 : decode cX6_tender 63 = .ok (.if_icmp .ge 17, 3) := by decide +kernel
theorem dX6_tender_66 : decode cX6_tender 66 = .ok (.aload_n 0, 1) := by decide +kernel
theorem dX6_tender_67 : decode cX6_tender 67 = .ok (.getfield 72, 3) := by decide +kernel
theorem dX6_tender_70 : decode cX6_tender 70 = .ok (.iload 4, 2) := by decide +kernel
theorem dX6_tender_72 : decode cX6_tender 72 = .ok (.iconst (-1), 1) := by decide +kernel
theorem dX6_tender_73 : decode cX6_tender 73 = .ok (.iastore, 1) := by decide +kernel
theorem dX6_tender_74 : decode cX6_tender 74 = .ok (.iinc 4 1, 3) := by decide +kernel
theorem dX6_tender_77 : decode cX6_tender 77 = .ok (.goto (-17), 3) := by decide +kernel
theorem dX6_tender_80 : decode cX6_tender 80 = .ok (.return_, 1) := by decide +kernel
theorem dX6_bid_0 : decode cX6_bid 0 = .ok (.aload_n 0, 1) := by decide +kernel
theorem dX6_bid_1 : decode cX6_bid 1 = .ok (.iload_n 1, 1) := by decide +kernel
theorem dX6_bid_2 : decode cX6_bid 2 = .ok (.invokestatic 174, 3) := by decide +kernel
theorem dX6_bid_5 : decode cX6_bid 5 = .ok (.iload_n 2, 1) := by decide +kernel
theorem dX6_bid_6 : decode cX6_bid 6 = .ok (.iconst 1, 1) := by decide +kernel
theorem dX6_bid_7 : decode cX6_bid 7 = .ok (.ldc 177, 2) := by decide +kernel
theorem dX6_bid_9 : decode cX6_bid 9 = .ok (.invokestatic 114, 3) := by decide +kernel
theorem dX6_bid_12 : decode cX6_bid 12 = .ok (.aload_n 0, 1) := by decide +kernel
theorem dX6_bid_13 : decode cX6_bid 13 = .ok (.getfield 68, 3) := by decide +kernel
theorem dX6_bid_16 : decode cX6_bid 16 = .ok (.iconst (-1), 1) := by decide +kernel
theorem dX6_bid_17 : decode cX6_bid 17 = .ok (.if_icmp .eq 7, 3) := by decide +kernel
theorem dX6_bid_20 : decode cX6_bid 20 = .ok (.iconst 1, 1) := by decide +kernel
theorem dX6_bid_21 : decode cX6_bid 21 = .ok (.goto 4, 3) := by decide +kernel
theorem dX6_bid_24 : decode cX6_bid 24 = .ok (.iconst 0, 1) := by decide +kernel
theorem dX6_bid_25 : decode cX6_bid 25 = .ok (.invokevirtual 128, 3) := by decide +kernel
theorem dX6_bid_28 : decode cX6_bid 28 = .ok (.ifCond .ne 5, 3) := by decide +kernel
theorem dX6_bid_31 : decode cX6_bid 31 = .ok (.iconst 0, 1) := by decide +kernel
theorem dX6_bid_32 : decode cX6_bid 32 = .ok (.ireturn, 1) := by decide +kernel
theorem dX6_bid_33 : decode cX6_bid 33 = .ok (.aload_n 0, 1) := by decide +kernel
theorem dX6_bid_34 : decode cX6_bid 34 = .ok (.getfield 72, 3) := by decide +kernel
theorem dX6_bid_37 : decode cX6_bid 37 = .ok (.iload_n 1, 1) := by decide +kernel
theorem dX6_bid_38 : decode cX6_bid 38 = .ok (.iaload, 1) := by decide +kernel
theorem dX6_bid_39 : decode cX6_bid 39 = .ok (.istore_n 3, 1) := by decide +kernel
theorem dX6_bid_40 : decode cX6_bid 40 = .ok (.aload_n 0, 1) := by decide +kernel
theorem dX6_bid_41 : decode cX6_bid 41 = .ok (.getfield 72, 3) := by decide +kernel
theorem dX6_bid_44 : decode cX6_bid 44 = .ok (.iload_n 1, 1) := by decide +kernel
theorem dX6_bid_45 : decode cX6_bid 45 = .ok (.iload_n 2, 1) := by decide +kernel
theorem dX6_bid_46 : decode cX6_bid 46 = .ok (.iastore, 1) := by decide +kernel
theorem dX6_bid_47 : decode cX6_bid 47 = .ok (.iload_n 3, 1) := by decide +kernel
theorem dX6_bid_48 : decode cX6_bid 48 = .ok (.ireturn, 1) := by decide +kernel
theorem dX6_close_0 : decode cX6_close 0 = .ok (.aload_n 0, 1) := by decide +kernel
theorem dX6_close_1 : decode cX6_close 1 = .ok (.aload_n 0, 1) := by decide +kernel
theorem dX6_close_2 : decode cX6_close 2 = .ok (.getfield 68, 3) := by decide +kernel
theorem dX6_close_5 : decode cX6_close 5 = .ok (.iconst (-1), 1) := by decide +kernel
theorem dX6_close_6 : decode cX6_close 6 = .ok (.if_icmp .eq 7, 3) := by decide +kernel
theorem dX6_close_9 : decode cX6_close 9 = .ok (.iconst 1, 1) := by decide +kernel
theorem dX6_close_10 : decode cX6_close 10 = .ok (.goto 4, 3) := by decide +kernel
theorem dX6_close_13 : decode cX6_close 13 = .ok (.iconst 0, 1) := by decide +kernel
theorem dX6_close_14 : decode cX6_close 14 = .ok (.invokevirtual 148, 3) := by decide +kernel
theorem dX6_close_17 : decode cX6_close 17 = .ok (.ifCond .ne 5, 3) := by decide +kernel
theorem dX6_close_20 : decode cX6_close 20 = .ok (.iconst 0, 1) := by decide +kernel
theorem dX6_close_21 : decode cX6_close 21 = .ok (.ireturn, 1) := by decide +kernel
theorem dX6_close_22 : decode cX6_close 22 = .ok (.iconst (-1), 1) := by decide +kernel
theorem dX6_close_23 : decode cX6_close 23 = .ok (.istore_n 1, 1) := by decide +kernel
theorem dX6_close_24 : decode cX6_close 24 = .ok (.iconst 0, 1) := by decide +kernel
theorem dX6_close_25 : decode cX6_close 25 = .ok (.istore_n 2, 1) := by decide +kernel
theorem dX6_close_26 : decode cX6_close 26 = .ok (.iload_n 2, 1) := by decide +kernel
theorem dX6_close_27 : decode cX6_close 27 = .ok (.iconst 5, 1) := by decide +kernel
theorem dX6_close_28 : decode cX6_close 28 = .ok (.if_icmp .ge 98, 3) := by decide +kernel
theorem dX6_close_31 : decode cX6_close 31 = .ok (.iload_n 1, 1) := by decide +kernel
theorem dX6_close_32 : decode cX6_close 32 = .ok (.iconst (-1), 1) := by decide +kernel
theorem dX6_close_33 : decode cX6_close 33 = .ok (.if_icmp .eq 48, 3) := by decide +kernel
theorem dX6_close_36 : decode cX6_close 36 = .ok (.aload_n 0, 1) := by decide +kernel
theorem dX6_close_37 : decode cX6_close 37 = .ok (.getfield 72, 3) := by decide +kernel
theorem dX6_close_40 : decode cX6_close 40 = .ok (.iload_n 2, 1) := by decide +kernel
theorem dX6_close_41 : decode cX6_close 41 = .ok (.iaload, 1) := by decide +kernel
theorem dX6_close_42 : decode cX6_close 42 = .ok (.aload_n 0, 1) := by decide +kernel
theorem dX6_close_43 : decode cX6_close 43 = .ok (.getfield 72, 3) := by decide +kernel
theorem dX6_close_46 : decode cX6_close 46 = .ok (.iload_n 1, 1) := by decide +kernel
theorem dX6_close_47 : decode cX6_close 47 = .ok (.iaload, 1) := by decide +kernel
theorem dX6_close_48 : decode cX6_close 48 = .ok (.if_icmp .gt 33, 3) := by decide +kernel
theorem dX6_close_51 : decode cX6_close 51 = .ok (.aload_n 0, 1) := by decide +kernel
theorem dX6_close_52 : decode cX6_close 52 = .ok (.getfield 72, 3) := by decide +kernel
theorem dX6_close_55 : decode cX6_close 55 = .ok (.iload_n 2, 1) := by decide +kernel
theorem dX6_close_56 : decode cX6_close 56 = .ok (.iaload, 1) := by decide +kernel
theorem dX6_close_57 : decode cX6_close 57 = .ok (.aload_n 0, 1) := by decide +kernel
theorem dX6_close_58 : decode cX6_close 58 = .ok (.getfield 72, 3) := by decide +kernel
theorem dX6_close_61 : decode cX6_close 61 = .ok (.iload_n 1, 1) := by decide +kernel
theorem dX6_close_62 : decode cX6_close 62 = .ok (.iaload, 1) := by decide +kernel
theorem dX6_close_63 : decode cX6_close 63 = .ok (.if_icmp .ne 22, 3) := by decide +kernel
theorem dX6_close_66 : decode cX6_close 66 = .ok (.aload_n 0, 1) := by decide +kernel
theorem dX6_close_67 : decode cX6_close 67 = .ok (.getfield 65, 3) := by decide +kernel
theorem dX6_close_70 : decode cX6_close 70 = .ok (.iload_n 2, 1) := by decide +kernel
theorem dX6_close_71 : decode cX6_close 71 = .ok (.iaload, 1) := by decide +kernel
theorem dX6_close_72 : decode cX6_close 72 = .ok (.aload_n 0, 1) := by decide +kernel
theorem dX6_close_73 : decode cX6_close 73 = .ok (.getfield 65, 3) := by decide +kernel
theorem dX6_close_76 : decode cX6_close 76 = .ok (.iload_n 1, 1) := by decide +kernel
theorem dX6_close_77 : decode cX6_close 77 = .ok (.iaload, 1) := by decide +kernel
theorem dX6_close_78 : decode cX6_close 78 = .ok (.if_icmp .le 7, 3) := by decide +kernel
theorem dX6_close_81 : decode cX6_close 81 = .ok (.iconst 1, 1) := by decide +kernel
theorem dX6_close_82 : decode cX6_close 82 = .ok (.goto 4, 3) := by decide +kernel
theorem dX6_close_85 : decode cX6_close 85 = .ok (.iconst 0, 1) := by decide +kernel
theorem dX6_close_86 : decode cX6_close 86 = .ok (.istore_n 3, 1) := by decide +kernel
theorem dX6_close_87 : decode cX6_close 87 = .ok (.aload_n 0, 1) := by decide +kernel
theorem dX6_close_88 : decode cX6_close 88 = .ok (.getfield 72, 3) := by decide +kernel
theorem dX6_close_91 : decode cX6_close 91 = .ok (.iload_n 2, 1) := by decide +kernel
theorem dX6_close_92 : decode cX6_close 92 = .ok (.iaload, 1) := by decide +kernel
theorem dX6_close_93 : decode cX6_close 93 = .ok (.iconst (-1), 1) := by decide +kernel
theorem dX6_close_94 : decode cX6_close 94 = .ok (.if_icmp .eq 24, 3) := by decide +kernel
theorem dX6_close_97 : decode cX6_close 97 = .ok (.aload_n 0, 1) := by decide +kernel
theorem dX6_close_98 : decode cX6_close 98 = .ok (.getfield 72, 3) := by decide +kernel
theorem dX6_close_101 : decode cX6_close 101 = .ok (.iload_n 2, 1) := by decide +kernel
theorem dX6_close_102 : decode cX6_close 102 = .ok (.iaload, 1) := by decide +kernel
theorem dX6_close_103 : decode cX6_close 103 = .ok (.aload_n 0, 1) := by decide +kernel
theorem dX6_close_104 : decode cX6_close 104 = .ok (.getfield 178, 3) := by decide +kernel
theorem dX6_close_107 : decode cX6_close 107 = .ok (.if_icmp .lt 11, 3) := by decide +kernel
theorem dX6_close_110 : decode cX6_close 110 = .ok (.iload_n 3, 1) := by decide +kernel
theorem dX6_close_111 : decode cX6_close 111 = .ok (.ifCond .eq 7, 3) := by decide +kernel
theorem dX6_close_114 : decode cX6_close 114 = .ok (.iload_n 2, 1) := by decide +kernel
theorem dX6_close_115 : decode cX6_close 115 = .ok (.goto 4, 3) := by decide +kernel
theorem dX6_close_118 : decode cX6_close 118 = .ok (.iload_n 1, 1) := by decide +kernel
theorem dX6_close_119 : decode cX6_close 119 = .ok (.istore_n 1, 1) := by decide +kernel
theorem dX6_close_120 : decode cX6_close 120 = .ok (.iinc 2 1, 3) := by decide +kernel
theorem dX6_close_123 : decode cX6_close 123 = .ok (.goto (-97), 3) := by decide +kernel
theorem dX6_close_126 : decode cX6_close 126 = .ok (.aload_n 0, 1) := by decide +kernel
theorem dX6_close_127 : decode cX6_close 127 = .ok (.getfield 68, 3) := by decide +kernel
theorem dX6_close_130 : decode cX6_close 130 = .ok (.istore_n 2, 1) := by decide +kernel
theorem dX6_close_131 : decode cX6_close 131 = .ok (.aload_n 0, 1) := by decide +kernel
theorem dX6_close_132 : decode cX6_close 132 = .ok (.iconst (-1), 1) := by decide +kernel
theorem dX6_close_133 : decode cX6_close 133 = .ok (.putfield 68, 3) := by decide +kernel
theorem dX6_close_136 : decode cX6_close 136 = .ok (.iload_n 1, 1) := by decide +kernel
theorem dX6_close_137 : decode cX6_close 137 = .ok (.iconst (-1), 1) := by decide +kernel
theorem dX6_close_138 : decode cX6_close 138 = .ok (.if_icmp .ne 5, 3) := by decide +kernel
theorem dX6_close_141 : decode cX6_close 141 = .ok (.iconst (-1), 1) := by decide +kernel
theorem dX6_close_142 : decode cX6_close 142 = .ok (.ireturn, 1) := by decide +kernel
theorem dX6_close_143 : decode cX6_close 143 = .ok (.aload_n 0, 1) := by decide +kernel
theorem dX6_close_144 : decode cX6_close 144 = .ok (.getfield 178, 3) := by decide +kernel
theorem dX6_close_147 : decode cX6_close 147 = .ok (.istore_n 3, 1) := by decide +kernel
theorem dX6_close_148 : decode cX6_close 148 = .ok (.iconst 0, 1) := by decide +kernel
theorem dX6_close_149 : decode cX6_close 149 = .ok (.istore 4, 2) := by decide +kernel
theorem dX6_close_151 : decode cX6_close 151 = .ok (.iload 4, 2) := by decide +kernel
theorem dX6_close_153 : decode cX6_close 153 = .ok (.iconst 5, 1) := by decide +kernel
theorem dX6_close_154 : decode cX6_close 154 = .ok (.if_icmp .ge 38, 3) := by decide +kernel
theorem dX6_close_157 : decode cX6_close 157 = .ok (.iload 4, 2) := by decide +kernel
theorem dX6_close_159 : decode cX6_close 159 = .ok (.iload_n 1, 1) := by decide +kernel
theorem dX6_close_160 : decode cX6_close 160 = .ok (.if_icmp .eq 24, 3) := by decide +kernel
theorem dX6_close_163 : decode cX6_close 163 = .ok (.aload_n 0, 1) := by decide +kernel
theorem dX6_close_164 : decode cX6_close 164 = .ok (.getfield 72, 3) := by decide +kernel
theorem dX6_close_167 : decode cX6_close 167 = .ok (.iload 4, 2) := by decide +kernel
theorem dX6_close_169 : decode cX6_close 169 = .ok (.iaload, 1) := by decide +kernel
theorem dX6_close_170 : decode cX6_close 170 = .ok (.iload_n 3, 1) := by decide +kernel
theorem dX6_close_171 : decode cX6_close 171 = .ok (.if_icmp .le 13, 3) := by decide +kernel
theorem dX6_close_174 : decode cX6_close 174 = .ok (.aload_n 0, 1) := by decide +kernel
theorem dX6_close_175 : decode cX6_close 175 = .ok (.getfield 72, 3) := by decide +kernel
theorem dX6_close_178 : decode cX6_close 178 = .ok (.iload 4, 2) := by decide +kernel
theorem dX6_close_180 : decode cX6_close 180 = .ok (.iaload, 1) := by decide +kernel
theorem dX6_close_181 : decode cX6_close 181 = .ok (.goto 4, 3) := by decide +kernel
theorem dX6_close_184 : decode cX6_close 184 = .ok (.iload_n 3, 1) := by decide +kernel
theorem dX6_close_185 : decode cX6_close 185 = .ok (.istore_n 3, 1) := by decide +kernel
theorem dX6_close_186 : decode cX6_close 186 = .ok (.iinc 4 1, 3) := by decide +kernel
theorem dX6_close_189 : decode cX6_close 189 = .ok (.goto (-38), 3) := by decide +kernel
theorem dX6_close_192 : decode cX6_close 192 = .ok (.aload_n 0, 1) := by decide +kernel
theorem dX6_close_193 : decode cX6_close 193 = .ok (.getfield 37, 3) := by decide +kernel
theorem dX6_close_196 : decode cX6_close 196 = .ok (.iload_n 2, 1) := by decide +kernel
theorem dX6_close_197 : decode cX6_close 197 = .ok (.iload_n 3, 1) := by decide +kernel
theorem dX6_close_198 : decode cX6_close 198 = .ok (.iastore, 1) := by decide +kernel
theorem dX6_close_199 : decode cX6_close 199 = .ok (.aload_n 0, 1) := by decide +kernel
theorem dX6_close_200 : decode cX6_close 200 = .ok (.getfield 31, 3) := by decide +kernel
theorem dX6_close_203 : decode cX6_close 203 = .ok (.iload_n 2, 1) := by decide +kernel
theorem dX6_close_204 : decode cX6_close 204 = .ok (.iload_n 1, 1) := by decide +kernel
theorem dX6_close_205 : decode cX6_close 205 = .ok (.iastore, 1) := by decide +kernel
theorem dX6_close_206 : decode cX6_close 206 = .ok (.aload_n 0, 1) := by decide +kernel
theorem dX6_close_207 : decode cX6_close 207 = .ok (.getfield 28, 3) := by decide +kernel
theorem dX6_close_210 : decode cX6_close 210 = .ok (.iload_n 2, 1) := by decide +kernel
theorem dX6_close_211 : decode cX6_close 211 = .ok (.iconst 2, 1) := by decide +kernel
theorem dX6_close_212 : decode cX6_close 212 = .ok (.iastore, 1) := by decide +kernel
theorem dX6_close_213 : decode cX6_close 213 = .ok (.iload_n 1, 1) := by decide +kernel
theorem dX6_close_214 : decode cX6_close 214 = .ok (.ireturn, 1) := by decide +kernel
theorem dX6_isFree_0 : decode cX6_isFree 0 = .ok (.iload_n 2, 1) := by decide +kernel
theorem dX6_isFree_1 : decode cX6_isFree 1 = .ok (.iconst 0, 1) := by decide +kernel
theorem dX6_isFree_2 : decode cX6_isFree 2 = .ok (.bipush 11, 2) := by decide +kernel
theorem dX6_isFree_4 : decode cX6_isFree 4 = .ok (.invokestatic 114, 3) := by decide +kernel
theorem dX6_isFree_7 : decode cX6_isFree 7 = .ok (.ifCond .eq 20, 3) := by decide +kernel
theorem dX6_isFree_10 : decode cX6_isFree 10 = .ok (.aload_n 0, 1) := by decide +kernel
theorem dX6_isFree_11 : decode cX6_isFree 11 = .ok (.getfield 25, 3) := by decide +kernel
theorem dX6_isFree_14 : decode cX6_isFree 14 = .ok (.iload_n 1, 1) := by decide +kernel
theorem dX6_isFree_15 : decode cX6_isFree 15 = .ok (.iaload, 1) := by decide +kernel
theorem dX6_isFree_16 : decode cX6_isFree 16 = .ok (.iload_n 2, 1) := by decide +kernel
theorem dX6_isFree_17 : decode cX6_isFree 17 = .ok (.ishr, 1) := by decide +kernel
theorem dX6_isFree_18 : decode cX6_isFree 18 = .ok (.iconst 1, 1) := by decide +kernel
theorem dX6_isFree_19 : decode cX6_isFree 19 = .ok (.iand, 1) := by decide +kernel
theorem dX6_isFree_20 : decode cX6_isFree 20 = .ok (.ifCond .ne 7, 3) := by decide +kernel
theorem dX6_isFree_23 : decode cX6_isFree 23 = .ok (.iconst 1, 1) := by decide +kernel
theorem dX6_isFree_24 : decode cX6_isFree 24 = .ok (.goto 4, 3) := by decide +kernel
theorem dX6_isFree_27 : decode cX6_isFree 27 = .ok (.iconst 0, 1) := by decide +kernel
theorem dX6_isFree_28 : decode cX6_isFree 28 = .ok (.ireturn, 1) := by decide +kernel
theorem dX6_rowAt_0 : decode cX6_rowAt 0 = .ok (.iconst 0, 1) := by decide +kernel
theorem dX6_rowAt_1 : decode cX6_rowAt 1 = .ok (.istore_n 3, 1) := by decide +kernel
theorem dX6_rowAt_2 : decode cX6_rowAt 2 = .ok (.aload_n 0, 1) := by decide +kernel
theorem dX6_rowAt_3 : decode cX6_rowAt 3 = .ok (.iload_n 1, 1) := by decide +kernel
theorem dX6_rowAt_4 : decode cX6_rowAt 4 = .ok (.iload_n 2, 1) := by decide +kernel
theorem dX6_rowAt_5 : decode cX6_rowAt 5 = .ok (.iload_n 3, 1) := by decide +kernel
theorem dX6_rowAt_6 : decode cX6_rowAt 6 = .ok (.iadd, 1) := by decide +kernel
theorem dX6_rowAt_7 : decode cX6_rowAt 7 = .ok (.invokevirtual 181, 3) := by decide +kernel
theorem dX6_rowAt_10 : decode cX6_rowAt 10 = .ok (.ifCond .eq 9, 3) := by decide +kernel
theorem dX6_rowAt_13 : decode cX6_rowAt 13 = .ok (.iinc 3 1, 3) := by decide +kernel
theorem dX6_rowAt_16 : decode cX6_rowAt 16 = .ok (.goto (-14), 3) := by decide +kernel
theorem dX6_rowAt_19 : decode cX6_rowAt 19 = .ok (.aload_n 0, 1) := by decide +kernel
theorem dX6_rowAt_20 : decode cX6_rowAt 20 = .ok (.iload_n 1, 1) := by decide +kernel
theorem dX6_rowAt_21 : decode cX6_rowAt 21 = .ok (.iload_n 2, 1) := by decide +kernel
theorem dX6_rowAt_22 : decode cX6_rowAt 22 = .ok (.iconst 1, 1) := by decide +kernel
theorem dX6_rowAt_23 : decode cX6_rowAt 23 = .ok (.isub, 1) := by decide +kernel
theorem dX6_rowAt_24 : decode cX6_rowAt 24 = .ok (.invokevirtual 181, 3) := by decide +kernel
theorem dX6_rowAt_27 : decode cX6_rowAt 27 = .ok (.ifCond .ne 8, 3) := by decide +kernel
theorem dX6_rowAt_30 : decode cX6_rowAt 30 = .ok (.iload_n 3, 1) := by decide +kernel
theorem dX6_rowAt_31 : decode cX6_rowAt 31 = .ok (.iconst 2, 1) := by decide +kernel
theorem dX6_rowAt_32 : decode cX6_rowAt 32 = .ok (.if_icmp .ge 7, 3) := by decide +kernel
theorem dX6_rowAt_35 : decode cX6_rowAt 35 = .ok (.iconst 0, 1) := by decide +kernel
theorem dX6_rowAt_36 : decode cX6_rowAt 36 = .ok (.goto 4, 3) := by decide +kernel
theorem dX6_rowAt_39 : decode cX6_rowAt 39 = .ok (.iload_n 3, 1) := by decide +kernel
theorem dX6_rowAt_40 : decode cX6_rowAt 40 = .ok (.ireturn, 1) := by decide +kernel
theorem dX6_planOf_0 : decode cX6_planOf 0 = .ok (.iconst 0, 1) := by decide +kernel
theorem dX6_planOf_1 : decode cX6_planOf 1 = .ok (.istore_n 2, 1) := by decide +kernel
theorem dX6_planOf_2 : decode cX6_planOf 2 = .ok (.iconst 0, 1) := by decide +kernel
theorem dX6_planOf_3 : decode cX6_planOf 3 = .ok (.istore_n 3, 1) := by decide +kernel
theorem dX6_planOf_4 : decode cX6_planOf 4 = .ok (.iload_n 3, 1) := by decide +kernel
theorem dX6_planOf_5 : decode cX6_planOf 5 = .ok (.bipush 12, 2) := by decide +kernel
theorem dX6_planOf_7 : decode cX6_planOf 7 = .ok (.if_icmp .ge 25, 3) := by decide +kernel
theorem dX6_planOf_10 : decode cX6_planOf 10 = .ok (.iload_n 2, 1) := by decide +kernel
theorem dX6_planOf_11 : decode cX6_planOf 11 = .ok (.aload_n 0, 1) := by decide +kernel
theorem dX6_planOf_12 : decode cX6_planOf 12 = .ok (.iload_n 1, 1) := by decide +kernel
theorem dX6_planOf_13 : decode cX6_planOf 13 = .ok (.iload_n 3, 1) := by decide +kernel
theorem dX6_planOf_14 : decode cX6_planOf 14 = .ok (.invokevirtual 185, 3) := by decide +kernel
theorem dX6_planOf_17 : decode cX6_planOf 17 = .ok (.aload_n 0, 1) := by decide +kernel
theorem dX6_planOf_18 : decode cX6_planOf 18 = .ok (.iload_n 1, 1) := by decide +kernel
theorem dX6_planOf_19 : decode cX6_planOf 19 = .ok (.iload_n 3, 1) := by decide +kernel
theorem dX6_planOf_20 : decode cX6_planOf 20 = .ok (.invokevirtual 185, 3) := by decide +kernel
theorem dX6_planOf_23 : decode cX6_planOf 23 = .ok (.imul, 1) := by decide +kernel
theorem dX6_planOf_24 : decode cX6_planOf 24 = .ok (.iadd, 1) := by decide +kernel
theorem dX6_planOf_25 : decode cX6_planOf 25 = .ok (.istore_n 2, 1) := by decide +kernel
theorem dX6_planOf_26 : decode cX6_planOf 26 = .ok (.iinc 3 1, 3) := by decide +kernel
theorem dX6_planOf_29 : decode cX6_planOf 29 = .ok (.goto (-25), 3) := by decide +kernel
theorem dX6_planOf_32 : decode cX6_planOf 32 = .ok (.iload_n 2, 1) := by decide +kernel
theorem dX6_planOf_33 : decode cX6_planOf 33 = .ok (.ireturn, 1) := by decide +kernel
theorem dX6_plan_0 : decode cX6_plan 0 = .ok (.aload_n 0, 1) := by decide +kernel
theorem dX6_plan_1 : decode cX6_plan 1 = .ok (.aload_n 0, 1) := by decide +kernel
theorem dX6_plan_2 : decode cX6_plan 2 = .ok (.iload_n 1, 1) := by decide +kernel
theorem dX6_plan_3 : decode cX6_plan 3 = .ok (.invokevirtual 131, 3) := by decide +kernel
theorem dX6_plan_6 : decode cX6_plan 6 = .ok (.invokevirtual 148, 3) := by decide +kernel
theorem dX6_plan_9 : decode cX6_plan 9 = .ok (.ifCond .eq 11, 3) := by decide +kernel
theorem dX6_plan_12 : decode cX6_plan 12 = .ok (.aload_n 0, 1) := by decide +kernel
theorem dX6_plan_13 : decode cX6_plan 13 = .ok (.iload_n 1, 1) := by decide +kernel
theorem dX6_plan_14 : decode cX6_plan 14 = .ok (.invokevirtual 188, 3) := by decide +kernel
theorem dX6_plan_17 : decode cX6_plan 17 = .ok (.goto 4, 3) := by decide +kernel
theorem dX6_plan_20 : decode cX6_plan 20 = .ok (.iconst 0, 1) := by decide +kernel
theorem dX6_plan_21 : decode cX6_plan 21 = .ok (.ireturn, 1) := by decide +kernel
theorem dX6_planAnew_0 : decode cX6_planAnew 0 = .ok (.aload_n 0, 1) := by decide +kernel
theorem dX6_planAnew_1 : decode cX6_planAnew 1 = .ok (.aload_n 0, 1) := by decide +kernel
theorem dX6_planAnew_2 : decode cX6_planAnew 2 = .ok (.iload_n 1, 1) := by decide +kernel
theorem dX6_planAnew_3 : decode cX6_planAnew 3 = .ok (.invokevirtual 131, 3) := by decide +kernel
theorem dX6_planAnew_6 : decode cX6_planAnew 6 = .ok (.invokevirtual 148, 3) := by decide +kernel
theorem dX6_planAnew_9 : decode cX6_planAnew 9 = .ok (.ifCond .eq 11, 3) := by decide +kernel
theorem dX6_planAnew_12 : decode cX6_planAnew 12 = .ok (.aload_n 0, 1) := by decide +kernel
theorem dX6_planAnew_13 : decode cX6_planAnew 13 = .ok (.iload_n 1, 1) := by decide +kernel
theorem dX6_planAnew_14 : decode cX6_planAnew 14 = .ok (.invokevirtual 188, 3) := by decide +kernel
theorem dX6_planAnew_17 : decode cX6_planAnew 17 = .ok (.goto 4, 3) := by decide +kernel
theorem dX6_planAnew_20 : decode cX6_planAnew 20 = .ok (.iconst 0, 1) := by decide +kernel
theorem dX6_planAnew_21 : decode cX6_planAnew 21 = .ok (.ireturn, 1) := by decide +kernel
theorem dX6_cut_0 : decode cX6_cut 0 = .ok (.aload_n 0, 1) := by decide +kernel
theorem dX6_cut_1 : decode cX6_cut 1 = .ok (.iload_n 1, 1) := by decide +kernel
theorem dX6_cut_2 : decode cX6_cut 2 = .ok (.invokevirtual 131, 3) := by decide +kernel
theorem dX6_cut_5 : decode cX6_cut 5 = .ok (.istore_n 2, 1) := by decide +kernel
theorem dX6_cut_6 : decode cX6_cut 6 = .ok (.iconst 0, 1) := by decide +kernel
theorem dX6_cut_7 : decode cX6_cut 7 = .ok (.istore_n 3, 1) := by decide +kernel
theorem dX6_cut_8 : decode cX6_cut 8 = .ok (.iconst 0, 1) := by decide +kernel
theorem dX6_cut_9 : decode cX6_cut 9 = .ok (.istore 4, 2) := by decide +kernel
theorem dX6_cut_11 : decode cX6_cut 11 = .ok (.iload 4, 2) := by decide +kernel
theorem dX6_cut_13 : decode cX6_cut 13 = .ok (.bipush 12, 2) := by decide +kernel
theorem dX6_cut_15 : decode cX6_cut 15 = .ok (.if_icmp .ge 31, 3) := by decide +kernel
theorem dX6_cut_18 : decode cX6_cut 18 = .ok (.iload_n 2, 1) := by decide +kernel
theorem dX6_cut_19 : decode cX6_cut 19 = .ok (.ifCond .eq 27, 3) := by decide +kernel
theorem dX6_cut_22 : decode cX6_cut 22 = .ok (.iload_n 3, 1) := by decide +kernel
theorem dX6_cut_23 : decode cX6_cut 23 = .ok (.aload_n 0, 1) := by decide +kernel
theorem dX6_cut_24 : decode cX6_cut 24 = .ok (.iload_n 1, 1) := by decide +kernel
theorem dX6_cut_25 : decode cX6_cut 25 = .ok (.iload 4, 2) := by decide +kernel
theorem dX6_cut_27 : decode cX6_cut 27 = .ok (.invokevirtual 185, 3) := by decide +kernel
theorem dX6_cut_30 : decode cX6_cut 30 = .ok (.ifCond .le 7, 3) := by decide +kernel
theorem dX6_cut_33 : decode cX6_cut 33 = .ok (.iconst 1, 1) := by decide +kernel
theorem dX6_cut_34 : decode cX6_cut 34 = .ok (.goto 4, 3) := by decide +kernel
theorem dX6_cut_37 : decode cX6_cut 37 = .ok (.iconst 0, 1) := by decide +kernel
theorem dX6_cut_38 : decode cX6_cut 38 = .ok (.iadd, 1) := by decide +kernel
theorem dX6_cut_39 : decode cX6_cut 39 = .ok (.istore_n 3, 1) := by decide +kernel
theorem dX6_cut_40 : decode cX6_cut 40 = .ok (.iinc 4 1, 3) := by decide +kernel
theorem dX6_cut_43 : decode cX6_cut 43 = .ok (.goto (-32), 3) := by decide +kernel
theorem dX6_cut_46 : decode cX6_cut 46 = .ok (.aload_n 0, 1) := by decide +kernel
theorem dX6_cut_47 : decode cX6_cut 47 = .ok (.iload_n 2, 1) := by decide +kernel
theorem dX6_cut_48 : decode cX6_cut 48 = .ok (.iload_n 2, 1) := by decide +kernel
theorem dX6_cut_49 : decode cX6_cut 49 = .ok (.ifCond .eq 37, 3) := by decide +kernel
theorem dX6_cut_52 : decode cX6_cut 52 = .ok (.aload_n 0, 1) := by decide +kernel
theorem dX6_cut_53 : decode cX6_cut 53 = .ok (.getfield 28, 3) := by decide +kernel
theorem dX6_cut_56 : decode cX6_cut 56 = .ok (.iload_n 1, 1) := by decide +kernel
theorem dX6_cut_57 : decode cX6_cut 57 = .ok (.iaload, 1) := by decide +kernel
theorem dX6_cut_58 : decode cX6_cut 58 = .ok (.ifCond .eq 13, 3) := by decide +kernel
theorem dX6_cut_61 : decode cX6_cut 61 = .ok (.aload_n 0, 1) := by decide +kernel
theorem dX6_cut_62 : decode cX6_cut 62 = .ok (.getfield 28, 3) := by decide +kernel
theorem dX6_cut_65 : decode cX6_cut 65 = .ok (.iload_n 1, 1) := by decide +kernel
theorem dX6_cut_66 : decode cX6_cut 66 = .ok (.iaload, 1) := by decide +kernel
theorem dX6_cut_67 : decode cX6_cut 67 = .ok (.iconst 2, 1) := by decide +kernel
theorem dX6_cut_68 : decode cX6_cut 68 = .ok (.if_icmp .ne 18, 3) := by decide +kernel
theorem dX6_cut_71 : decode cX6_cut 71 = .ok (.aload_n 0, 1) := by decide +kernel
theorem dX6_cut_72 : decode cX6_cut 72 = .ok (.getfield 118, 3) := by decide +kernel
theorem dX6_cut_75 : decode cX6_cut 75 = .ok (.iload_n 3, 1) := by decide +kernel
theorem dX6_cut_76 : decode cX6_cut 76 = .ok (.iadd, 1) := by decide +kernel
theorem dX6_cut_77 : decode cX6_cut 77 = .ok (.bipush 80, 2) := by decide +kernel
theorem dX6_cut_79 : decode cX6_cut 79 = .ok (.if_icmp .gt 7, 3) := by decide +kernel
theorem dX6_cut_82 : decode cX6_cut 82 = .ok (.iconst 1, 1) := by decide +kernel
theorem dX6_cut_83 : decode cX6_cut 83 = .ok (.goto 4, 3) := by decide +kernel
theorem dX6_cut_86 : decode cX6_cut 86 = .ok (.iconst 0, 1) := by decide +kernel
theorem dX6_cut_87 : decode cX6_cut 87 = .ok (.invokevirtual 124, 3) := by decide +kernel
theorem dX6_cut_90 : decode cX6_cut 90 = .ok (.ifCond .ne 5, 3) := by decide +kernel
theorem dX6_cut_93 : decode cX6_cut 93 = .ok (.iconst 0, 1) := by decide +kernel
theorem dX6_cut_94 : decode cX6_cut 94 = .ok (.ireturn, 1) := by decide +kernel
theorem dX6_cut_95 : decode cX6_cut 95 = .ok (.aload_n 0, 1) := by decide +kernel
theorem dX6_cut_96 : decode cX6_cut 96 = .ok (.dup, 1) := by decide +kernel
theorem dX6_cut_97 : decode cX6_cut 97 = .ok (.getfield 191, 3) := by decide +kernel
theorem dX6_cut_100 : decode cX6_cut 100 = .ok (.aload_n 0, 1) := by decide +kernel
theorem dX6_cut_101 : decode cX6_cut 101 = .ok (.getfield 16, 3) := by decide +kernel
theorem dX6_cut_104 : decode cX6_cut 104 = .ok (.iload_n 1, 1) := by decide +kernel
theorem dX6_cut_105 : decode cX6_cut 105 = .ok (.iaload, 1) := by decide +kernel
theorem dX6_cut_106 : decode cX6_cut 106 = .ok (.iadd, 1) := by decide +kernel
theorem dX6_cut_107 : decode cX6_cut 107 = .ok (.putfield 191, 3) := by decide +kernel
theorem dX6_cut_110 : decode cX6_cut 110 = .ok (.iconst 0, 1) := by decide +kernel
theorem dX6_cut_111 : decode cX6_cut 111 = .ok (.istore 4, 2) := by decide +kernel
theorem dX6_cut_113 : decode cX6_cut 113 = .ok (.iload 4, 2) := by decide +kernel
theorem dX6_cut_115 : decode cX6_cut 115 = .ok (.bipush 12, 2) := by decide +kernel
theorem dX6_cut_117 : decode cX6_cut 117 = .ok (.if_icmp .ge 141, 3) := by decide +kernel
theorem dX6_cut_120 : decode cX6_cut 120 = .ok (.aload_n 0, 1) := by decide +kernel
theorem dX6_cut_121 : decode cX6_cut 121 = .ok (.iload_n 1, 1) := by decide +kernel
theorem dX6_cut_122 : decode cX6_cut 122 = .ok (.iload 4, 2) := by decide +kernel
theorem dX6_cut_124 : decode cX6_cut 124 = .ok (.invokevirtual 185, 3) := by decide +kernel
theorem dX6_cut_127 : decode cX6_cut 127 = .ok (.ifCond .le 125, 3) := by decide +kernel
theorem dX6_cut_130 : decode cX6_cut 130 = .ok (.aload_n 0, 1) := by decide +kernel
theorem dX6_cut_131 : decode cX6_cut 131 = .ok (.getfield 75, 3) := by decide +kernel
theorem dX6_cut_134 : decode cX6_cut 134 = .ok (.aload_n 0, 1) := by decide +kernel
theorem dX6_cut_135 : decode cX6_cut 135 = .ok (.getfield 118, 3) := by decide +kernel
theorem dX6_cut_138 : decode cX6_cut 138 = .ok (.iload_n 1, 1) := by decide +kernel
theorem dX6_cut_139 : decode cX6_cut 139 = .ok (.iastore, 1) := by decide +kernel
theorem dX6_cut_140 : decode cX6_cut 140 = .ok (.aload_n 0, 1) := by decide +kernel
theorem dX6_cut_141 : decode cX6_cut 141 = .ok (.getfield 81, 3) := by decide +kernel
theorem dX6_cut_144 : decode cX6_cut 144 = .ok (.aload_n 0, 1) := by decide +kernel
theorem dX6_cut_145 : decode cX6_cut 145 = .ok (.getfield 118, 3) := by decide +kernel
theorem dX6_cut_148 : decode cX6_cut 148 = .ok (.iload 4, 2) := by decide +kernel
theorem dX6_cut_150 : decode cX6_cut 150 = .ok (.iastore, 1) := by decide +kernel
theorem dX6_cut_151 : decode cX6_cut 151 = .ok (.aload_n 0, 1) := by decide +kernel
theorem dX6_cut_152 : decode cX6_cut 152 = .ok (.getfield 84, 3) := by decide +kernel
theorem dX6_cut_155 : decode cX6_cut 155 = .ok (.aload_n 0, 1) := by decide +kernel
theorem dX6_cut_156 : decode cX6_cut 156 = .ok (.getfield 118, 3) := by decide +kernel
theorem dX6_cut_159 : decode cX6_cut 159 = .ok (.aload_n 0, 1) := by decide +kernel
theorem dX6_cut_160 : decode cX6_cut 160 = .ok (.iload_n 1, 1) := by decide +kernel
theorem dX6_cut_161 : decode cX6_cut 161 = .ok (.iload 4, 2) := by decide +kernel
theorem dX6_cut_163 : decode cX6_cut 163 = .ok (.invokevirtual 185, 3) := by decide +kernel
theorem dX6_cut_166 : decode cX6_cut 166 = .ok (.iastore, 1) := by decide +kernel
theorem dX6_cut_167 : decode cX6_cut 167 = .ok (.aload_n 0, 1) := by decide +kernel
theorem dX6_cut_168 : decode cX6_cut 168 = .ok (.getfield 78, 3) := by decide +kernel
theorem dX6_cut_171 : decode cX6_cut 171 = .ok (.aload_n 0, 1) := by decide +kernel
theorem dX6_cut_172 : decode cX6_cut 172 = .ok (.getfield 118, 3) := by decide +kernel
theorem dX6_cut_175 : decode cX6_cut 175 = .ok (.aload_n 0, 1) := by decide +kernel
theorem dX6_cut_176 : decode cX6_cut 176 = .ok (.iload_n 1, 1) := by decide +kernel
theorem dX6_cut_177 : decode cX6_cut 177 = .ok (.iload 4, 2) := by decide +kernel
theorem dX6_cut_179 : decode cX6_cut 179 = .ok (.invokevirtual 185, 3) := by decide +kernel
theorem dX6_cut_182 : decode cX6_cut 182 = .ok (.aload_n 0, 1) := by decide +kernel
theorem dX6_cut_183 : decode cX6_cut 183 = .ok (.getfield 16, 3) := by decide +kernel
theorem dX6_cut_186 : decode cX6_cut 186 = .ok (.iload_n 1, 1) := by decide +kernel
theorem dX6_cut_187 : decode cX6_cut 187 = .ok (.iaload, 1) := by decide +kernel
theorem dX6_cut_188 : decode cX6_cut 188 = .ok (.imul, 1) := by decide +kernel
theorem dX6_cut_189 : decode cX6_cut 189 = .ok (.bipush 12, 2) := by decide +kernel
theorem dX6_cut_191 : decode cX6_cut 191 = .ok (.idiv, 1) := by decide +kernel
theorem dX6_cut_192 : decode cX6_cut 192 = .ok (.bipush 60, 2) := by decide +kernel
theorem dX6_cut_194 : decode cX6_cut 194 = .ok (.imul, 1) := by decide +kernel
theorem dX6_cut_195 : decode cX6_cut 195 = .ok (.bipush 100, 2) := by decide +kernel
theorem dX6_cut_197 : decode cX6_cut 197 = .ok (.idiv, 1) := by decide +kernel
theorem dX6_cut_198 : decode cX6_cut 198 = .ok (.iastore, 1) := by decide +kernel
theorem dX6_cut_199 : decode cX6_cut 199 = .ok (.aload_n 0, 1) := by decide +kernel
theorem dX6_cut_200 : decode cX6_cut 200 = .ok (.getfield 87, 3) := by decide +kernel
theorem dX6_cut_203 : decode cX6_cut 203 = .ok (.aload_n 0, 1) := by decide +kernel
theorem dX6_cut_204 : decode cX6_cut 204 = .ok (.getfield 118, 3) := by decide +kernel
theorem dX6_cut_207 : decode cX6_cut 207 = .ok (.aload_n 0, 1) := by decide +kernel
theorem dX6_cut_208 : decode cX6_cut 208 = .ok (.getfield 31, 3) := by decide +kernel
theorem dX6_cut_211 : decode cX6_cut 211 = .ok (.iload_n 1, 1) := by decide +kernel
theorem dX6_cut_212 : decode cX6_cut 212 = .ok (.iaload, 1) := by decide +kernel
theorem dX6_cut_213 : decode cX6_cut 213 = .ok (.iastore, 1) := by decide +kernel
theorem dX6_cut_214 : decode cX6_cut 214 = .ok (.aload_n 0, 1) := by decide +kernel
theorem dX6_cut_215 : decode cX6_cut 215 = .ok (.getfield 90, 3) := by decide +kernel
theorem dX6_cut_218 : decode cX6_cut 218 = .ok (.aload_n 0, 1) := by decide +kernel
theorem dX6_cut_219 : decode cX6_cut 219 = .ok (.getfield 118, 3) := by decide +kernel
theorem dX6_cut_222 : decode cX6_cut 222 = .ok (.iconst (-1), 1) := by decide +kernel
theorem dX6_cut_223 : decode cX6_cut 223 = .ok (.iastore, 1) := by decide +kernel
theorem dX6_cut_224 : decode cX6_cut 224 = .ok (.aload_n 0, 1) := by decide +kernel
theorem dX6_cut_225 : decode cX6_cut 225 = .ok (.dup, 1) := by decide +kernel
theorem dX6_cut_226 : decode cX6_cut 226 = .ok (.getfield 191, 3) := by decide +kernel
theorem dX6_cut_229 : decode cX6_cut 229 = .ok (.aload_n 0, 1) := by decide +kernel
theorem dX6_cut_230 : decode cX6_cut 230 = .ok (.getfield 78, 3) := by decide +kernel
theorem dX6_cut_233 : decode cX6_cut 233 = .ok (.aload_n 0, 1) := by decide +kernel
theorem dX6_cut_234 : decode cX6_cut 234 = .ok (.getfield 118, 3) := by decide +kernel
theorem dX6_cut_237 : decode cX6_cut 237 = .ok (.iaload, 1) := by decide +kernel
theorem dX6_cut_238 : decode cX6_cut 238 = .ok (.isub, 1) := by decide +kernel
theorem dX6_cut_239 : decode cX6_cut 239 = .ok (.putfield 191, 3) := by decide +kernel
theorem dX6_cut_242 : decode cX6_cut 242 = .ok (.aload_n 0, 1) := by decide +kernel
theorem dX6_cut_243 : decode cX6_cut 243 = .ok (.dup, 1) := by decide +kernel
theorem dX6_cut_244 : decode cX6_cut 244 = .ok (.getfield 118, 3) := by decide +kernel
theorem dX6_cut_247 : decode cX6_cut 247 = .ok (.iconst 1, 1) := by decide +kernel
theorem dX6_cut_248 : decode cX6_cut 248 = .ok (.iadd, 1) := by decide +kernel
theorem dX6_cut_249 : decode cX6_cut 249 = .ok (.putfield 118, 3) := by decide +kernel
theorem dX6_cut_252 : decode cX6_cut 252 = .ok (.iinc 4 1, 3) := by decide +kernel
theorem dX6_cut_255 : decode cX6_cut 255 = .ok (.goto (-142), 3) := by decide +kernel
theorem dX6_cut_258 : decode cX6_cut 258 = .ok (.aload_n 0, 1) := by decide +kernel
theorem dX6_cut_259 : decode cX6_cut 259 = .ok (.getfield 28, 3) := by decide +kernel
theorem dX6_cut_262 : decode cX6_cut 262 = .ok (.iload_n 1, 1) := by decide +kernel
theorem dX6_cut_263 : decode cX6_cut 263 = .ok (.iconst 3, 1) := by decide +kernel
theorem dX6_cut_264 : decode cX6_cut 264 = .ok (.iastore, 1) := by decide +kernel
theorem dX6_cut_265 : decode cX6_cut 265 = .ok (.aload_n 0, 1) := by decide +kernel
theorem dX6_cut_266 : decode cX6_cut 266 = .ok (.iload_n 1, 1) := by decide +kernel
theorem dX6_cut_267 : decode cX6_cut 267 = .ok (.invokevirtual 164, 3) := by decide +kernel
theorem dX6_cut_270 : decode cX6_cut 270 = .ok (.iload_n 3, 1) := by decide +kernel
theorem dX6_cut_271 : decode cX6_cut 271 = .ok (.ireturn, 1) := by decide +kernel
theorem dX6_recut_0 : decode cX6_recut 0 = .ok (.aload_n 0, 1) := by decide +kernel
theorem dX6_recut_1 : decode cX6_recut 1 = .ok (.iload_n 1, 1) := by decide +kernel
theorem dX6_recut_2 : decode cX6_recut 2 = .ok (.invokevirtual 194, 3) := by decide +kernel
theorem dX6_recut_5 : decode cX6_recut 5 = .ok (.istore_n 3, 1) := by decide +kernel
theorem dX6_recut_6 : decode cX6_recut 6 = .ok (.aload_n 0, 1) := by decide +kernel
theorem dX6_recut_7 : decode cX6_recut 7 = .ok (.iload_n 3, 1) := by decide +kernel
theorem dX6_recut_8 : decode cX6_recut 8 = .ok (.iload_n 3, 1) := by decide +kernel
theorem dX6_recut_9 : decode cX6_recut 9 = .ok (.ifCond .eq 23, 3) := by decide +kernel
theorem dX6_recut_12 : decode cX6_recut 12 = .ok (.iload_n 2, 1) := by decide +kernel
theorem dX6_recut_13 : decode cX6_recut 13 = .ok (.iconst 1, 1) := by decide +kernel
theorem dX6_recut_14 : decode cX6_recut 14 = .ok (.aload_n 0, 1) := by decide +kernel
theorem dX6_recut_15 : decode cX6_recut 15 = .ok (.getfield 78, 3) := by decide +kernel
theorem dX6_recut_18 : decode cX6_recut 18 = .ok (.iload_n 1, 1) := by decide +kernel
theorem dX6_recut_19 : decode cX6_recut 19 = .ok (.iaload, 1) := by decide +kernel
theorem dX6_recut_20 : decode cX6_recut 20 = .ok (.iconst 1, 1) := by decide +kernel
theorem dX6_recut_21 : decode cX6_recut 21 = .ok (.isub, 1) := by decide +kernel
theorem dX6_recut_22 : decode cX6_recut 22 = .ok (.invokestatic 114, 3) := by decide +kernel
theorem dX6_recut_25 : decode cX6_recut 25 = .ok (.ifCond .eq 7, 3) := by decide +kernel
theorem dX6_recut_28 : decode cX6_recut 28 = .ok (.iconst 1, 1) := by decide +kernel
theorem dX6_recut_29 : decode cX6_recut 29 = .ok (.goto 4, 3) := by decide +kernel
theorem dX6_recut_32 : decode cX6_recut 32 = .ok (.iconst 0, 1) := by decide +kernel
theorem dX6_recut_33 : decode cX6_recut 33 = .ok (.invokevirtual 124, 3) := by decide +kernel
theorem dX6_recut_36 : decode cX6_recut 36 = .ok (.ifCond .ne 5, 3) := by decide +kernel
theorem dX6_recut_39 : decode cX6_recut 39 = .ok (.iconst 0, 1) := by decide +kernel
theorem dX6_recut_40 : decode cX6_recut 40 = .ok (.ireturn, 1) := by decide +kernel
theorem dX6_recut_41 : decode cX6_recut 41 = .ok (.aload_n 0, 1) := by decide +kernel
theorem dX6_recut_42 : decode cX6_recut 42 = .ok (.getfield 78, 3) := by decide +kernel
theorem dX6_recut_45 : decode cX6_recut 45 = .ok (.iload_n 1, 1) := by decide +kernel
theorem dX6_recut_46 : decode cX6_recut 46 = .ok (.iaload, 1) := by decide +kernel
theorem dX6_recut_47 : decode cX6_recut 47 = .ok (.iload_n 2, 1) := by decide +kernel
theorem dX6_recut_48 : decode cX6_recut 48 = .ok (.isub, 1) := by decide +kernel
theorem dX6_recut_49 : decode cX6_recut 49 = .ok (.istore 4, 2) := by decide +kernel
theorem dX6_recut_51 : decode cX6_recut 51 = .ok (.aload_n 0, 1) := by decide +kernel
theorem dX6_recut_52 : decode cX6_recut 52 = .ok (.getfield 78, 3) := by decide +kernel
theorem dX6_recut_55 : decode cX6_recut 55 = .ok (.iload_n 1, 1) := by decide +kernel
theorem dX6_recut_56 : decode cX6_recut 56 = .ok (.iload_n 2, 1) := by decide +kernel
theorem dX6_recut_57 : decode cX6_recut 57 = .ok (.iastore, 1) := by decide +kernel
theorem dX6_recut_58 : decode cX6_recut 58 = .ok (.aload_n 0, 1) := by decide +kernel
theorem dX6_recut_59 : decode cX6_recut 59 = .ok (.dup, 1) := by decide +kernel
theorem dX6_recut_60 : decode cX6_recut 60 = .ok (.getfield 191, 3) := by decide +kernel
theorem dX6_recut_63 : decode cX6_recut 63 = .ok (.iload 4, 2) := by decide +kernel
theorem dX6_recut_65 : decode cX6_recut 65 = .ok (.iadd, 1) := by decide +kernel
theorem dX6_recut_66 : decode cX6_recut 66 = .ok (.putfield 191, 3) := by decide +kernel
theorem dX6_recut_69 : decode cX6_recut 69 = .ok (.iload 4, 2) := by decide +kernel
theorem dX6_recut_71 : decode cX6_recut 71 = .ok (.ireturn, 1) := by decide +kernel
theorem dX6_gradeOf_0 : decode cX6_gradeOf 0 = .ok (.aload_n 0, 1) := by decide +kernel
theorem dX6_gradeOf_1 : decode cX6_gradeOf 1 = .ok (.getfield 96, 3) := by decide +kernel
theorem dX6_gradeOf_4 : decode cX6_gradeOf 4 = .ok (.iconst 3, 1) := by decide +kernel
theorem dX6_gradeOf_5 : decode cX6_gradeOf 5 = .ok (.iload_n 1, 1) := by decide +kernel
theorem dX6_gradeOf_6 : decode cX6_gradeOf 6 = .ok (.imul, 1) := by decide +kernel
theorem dX6_gradeOf_7 : decode cX6_gradeOf 7 = .ok (.iaload, 1) := by decide +kernel
theorem dX6_gradeOf_8 : decode cX6_gradeOf 8 = .ok (.istore_n 2, 1) := by decide +kernel
theorem dX6_gradeOf_9 : decode cX6_gradeOf 9 = .ok (.aload_n 0, 1) := by decide +kernel
theorem dX6_gradeOf_10 : decode cX6_gradeOf 10 = .ok (.getfield 96, 3) := by decide +kernel
theorem dX6_gradeOf_13 : decode cX6_gradeOf 13 = .ok (.iconst 3, 1) := by decide +kernel
theorem dX6_gradeOf_14 : decode cX6_gradeOf 14 = .ok (.iload_n 1, 1) := by decide +kernel
theorem dX6_gradeOf_15 : decode cX6_gradeOf 15 = .ok (.imul, 1) := by decide +kernel
theorem dX6_gradeOf_16 : decode cX6_gradeOf 16 = .ok (.iconst 1, 1) := by decide +kernel
theorem dX6_gradeOf_17 : decode cX6_gradeOf 17 = .ok (.iadd, 1) := by decide +kernel
theorem dX6_gradeOf_18 : decode cX6_gradeOf 18 = .ok (.iaload, 1) := by decide +kernel
theorem dX6_gradeOf_19 : decode cX6_gradeOf 19 = .ok (.istore_n 3, 1) := by decide +kernel
theorem dX6_gradeOf_20 : decode cX6_gradeOf 20 = .ok (.aload_n 0, 1) := by decide +kernel
theorem dX6_gradeOf_21 : decode cX6_gradeOf 21 = .ok (.getfield 93, 3) := by decide +kernel
theorem dX6_gradeOf_24 : decode cX6_gradeOf 24 = .ok (.iload_n 1, 1) := by decide +kernel
theorem dX6_gradeOf_25 : decode cX6_gradeOf 25 = .ok (.iaload, 1) := by decide +kernel
theorem dX6_gradeOf_26 : decode cX6_gradeOf 26 = .ok (.iconst 1, 1) := by decide +kernel
theorem dX6_gradeOf_27 : decode cX6_gradeOf 27 = .ok (.if_icmp .le 12, 3) := by decide +kernel
theorem dX6_gradeOf_30 : decode cX6_gradeOf 30 = .ok (.iload_n 2, 1) := by decide +kernel
theorem dX6_gradeOf_31 : decode cX6_gradeOf 31 = .ok (.iload_n 3, 1) := by decide +kernel
theorem dX6_gradeOf_32 : decode cX6_gradeOf 32 = .ok (.if_icmp .ne 7, 3) := by decide +kernel
theorem dX6_gradeOf_35 : decode cX6_gradeOf 35 = .ok (.iload_n 2, 1) := by decide +kernel
theorem dX6_gradeOf_36 : decode cX6_gradeOf 36 = .ok (.goto 32, 3) := by decide +kernel
theorem dX6_gradeOf_39 : decode cX6_gradeOf 39 = .ok (.aload_n 0, 1) := by decide +kernel
theorem dX6_gradeOf_40 : decode cX6_gradeOf 40 = .ok (.getfield 93, 3) := by decide +kernel
theorem dX6_gradeOf_43 : decode cX6_gradeOf 43 = .ok (.iload_n 1, 1) := by decide +kernel
theorem dX6_gradeOf_44 : decode cX6_gradeOf 44 = .ok (.iaload, 1) := by decide +kernel
theorem dX6_gradeOf_45 : decode cX6_gradeOf 45 = .ok (.iconst 3, 1) := by decide +kernel
theorem dX6_gradeOf_46 : decode cX6_gradeOf 46 = .ok (.if_icmp .ne 21, 3) := by decide +kernel
theorem dX6_gradeOf_49 : decode cX6_gradeOf 49 = .ok (.iload_n 2, 1) := by decide +kernel
theorem dX6_gradeOf_50 : decode cX6_gradeOf 50 = .ok (.iload_n 3, 1) := by decide +kernel
theorem dX6_gradeOf_51 : decode cX6_gradeOf 51 = .ok (.aload_n 0, 1) := by decide +kernel
theorem dX6_gradeOf_52 : decode cX6_gradeOf 52 = .ok (.getfield 96, 3) := by decide +kernel
theorem dX6_gradeOf_55 : decode cX6_gradeOf 55 = .ok (.iconst 3, 1) := by decide +kernel
theorem dX6_gradeOf_56 : decode cX6_gradeOf 56 = .ok (.iload_n 1, 1) := by decide +kernel
theorem dX6_gradeOf_57 : decode cX6_gradeOf 57 = .ok (.imul, 1) := by decide +kernel
theorem dX6_gradeOf_58 : decode cX6_gradeOf 58 = .ok (.iconst 2, 1) := by decide +kernel
theorem dX6_gradeOf_59 : decode cX6_gradeOf 59 = .ok (.iadd, 1) := by decide +kernel
theorem dX6_gradeOf_60 : decode cX6_gradeOf 60 = .ok (.iaload, 1) := by decide +kernel
theorem dX6_gradeOf_61 : decode cX6_gradeOf 61 = .ok (.invokestatic 139, 3) := by decide +kernel
theorem dX6_gradeOf_64 : decode cX6_gradeOf 64 = .ok (.goto 4, 3) := by decide +kernel
theorem dX6_gradeOf_67 : decode cX6_gradeOf 67 = .ok (.iconst (-1), 1) := by decide +kernel
theorem dX6_gradeOf_68 : decode cX6_gradeOf 68 = .ok (.ireturn, 1) := by decide +kernel
theorem dX6_priceOf_0 : decode cX6_priceOf 0 = .ok (.aload_n 0, 1) := by decide +kernel
theorem dX6_priceOf_1 : decode cX6_priceOf 1 = .ok (.getfield 78, 3) := by decide +kernel
theorem dX6_priceOf_4 : decode cX6_priceOf 4 = .ok (.iload_n 1, 1) := by decide +kernel
theorem dX6_priceOf_5 : decode cX6_priceOf 5 = .ok (.iaload, 1) := by decide +kernel
theorem dX6_priceOf_6 : decode cX6_priceOf 6 = .ok (.bipush 20, 2) := by decide +kernel
theorem dX6_priceOf_8 : decode cX6_priceOf 8 = .ok (.aload_n 0, 1) := by decide +kernel
theorem dX6_priceOf_9 : decode cX6_priceOf 9 = .ok (.iload_n 1, 1) := by decide +kernel
theorem dX6_priceOf_10 : decode cX6_priceOf 10 = .ok (.invokevirtual 197, 3) := by decide +kernel
theorem dX6_priceOf_13 : decode cX6_priceOf 13 = .ok (.isub, 1) := by decide +kernel
theorem dX6_priceOf_14 : decode cX6_priceOf 14 = .ok (.imul, 1) := by decide +kernel
theorem dX6_priceOf_15 : decode cX6_priceOf 15 = .ok (.istore_n 2, 1) := by decide +kernel
theorem dX6_priceOf_16 : decode cX6_priceOf 16 = .ok (.aload_n 0, 1) := by decide +kernel
theorem dX6_priceOf_17 : decode cX6_priceOf 17 = .ok (.iload_n 1, 1) := by decide +kernel
theorem dX6_priceOf_18 : decode cX6_priceOf 18 = .ok (.invokevirtual 197, 3) := by decide +kernel
theorem dX6_priceOf_21 : decode cX6_priceOf 21 = .ok (.iconst (-1), 1) := by decide +kernel
theorem dX6_priceOf_22 : decode cX6_priceOf 22 = .ok (.if_icmp .ne 7, 3) := by decide +kernel
theorem dX6_priceOf_25 : decode cX6_priceOf 25 = .ok (.iconst (-1), 1) := by decide +kernel
theorem dX6_priceOf_26 : decode cX6_priceOf 26 = .ok (.goto 21, 3) := by decide +kernel
theorem dX6_priceOf_29 : decode cX6_priceOf 29 = .ok (.aload_n 0, 1) := by decide +kernel
theorem dX6_priceOf_30 : decode cX6_priceOf 30 = .ok (.getfield 78, 3) := by decide +kernel
theorem dX6_priceOf_33 : decode cX6_priceOf 33 = .ok (.iload_n 1, 1) := by decide +kernel
theorem dX6_priceOf_34 : decode cX6_priceOf 34 = .ok (.iaload, 1) := by decide +kernel
theorem dX6_priceOf_35 : decode cX6_priceOf 35 = .ok (.bipush 100, 2) := by decide +kernel
theorem dX6_priceOf_37 : decode cX6_priceOf 37 = .ok (.if_icmp .ge 7, 3) := by decide +kernel
theorem dX6_priceOf_40 : decode cX6_priceOf 40 = .ok (.iload_n 2, 1) := by decide +kernel
theorem dX6_priceOf_41 : decode cX6_priceOf 41 = .ok (.goto 6, 3) := by decide +kernel
theorem dX6_priceOf_44 : decode cX6_priceOf 44 = .ok (.iconst 2, 1) := by decide +kernel
theorem dX6_priceOf_45 : decode cX6_priceOf 45 = .ok (.iload_n 2, 1) := by decide +kernel
theorem dX6_priceOf_46 : decode cX6_priceOf 46 = .ok (.imul, 1) := by decide +kernel
theorem dX6_priceOf_47 : decode cX6_priceOf 47 = .ok (.ireturn, 1) := by decide +kernel
theorem dX6_originOf_0 : decode cX6_originOf 0 = .ok (.aload_n 0, 1) := by decide +kernel
theorem dX6_originOf_1 : decode cX6_originOf 1 = .ok (.getfield 7, 3) := by decide +kernel
theorem dX6_originOf_4 : decode cX6_originOf 4 = .ok (.aload_n 0, 1) := by decide +kernel
theorem dX6_originOf_5 : decode cX6_originOf 5 = .ok (.getfield 13, 3) := by decide +kernel
theorem dX6_originOf_8 : decode cX6_originOf 8 = .ok (.aload_n 0, 1) := by decide +kernel
theorem dX6_originOf_9 : decode cX6_originOf 9 = .ok (.getfield 75, 3) := by decide +kernel
theorem dX6_originOf_12 : decode cX6_originOf 12 = .ok (.iload_n 1, 1) := by decide +kernel
theorem dX6_originOf_13 : decode cX6_originOf 13 = .ok (.iaload, 1) := by decide +kernel
theorem dX6_originOf_14 : decode cX6_originOf 14 = .ok (.iaload, 1) := by decide +kernel
theorem dX6_originOf_15 : decode cX6_originOf 15 = .ok (.iaload, 1) := by decide +kernel
theorem dX6_originOf_16 : decode cX6_originOf 16 = .ok (.ireturn, 1) := by decide +kernel
theorem dX6_polished_0 : decode cX6_polished 0 = .ok (.aload_n 0, 1) := by decide +kernel
theorem dX6_polished_1 : decode cX6_polished 1 = .ok (.aload_n 0, 1) := by decide +kernel
theorem dX6_polished_2 : decode cX6_polished 2 = .ok (.iload_n 1, 1) := by decide +kernel
theorem dX6_polished_3 : decode cX6_polished 3 = .ok (.invokevirtual 194, 3) := by decide +kernel
theorem dX6_polished_6 : decode cX6_polished 6 = .ok (.iload_n 2, 1) := by decide +kernel
theorem dX6_polished_7 : decode cX6_polished 7 = .ok (.iconst 0, 1) := by decide +kernel
theorem dX6_polished_8 : decode cX6_polished 8 = .ok (.bipush 8, 2) := by decide +kernel
theorem dX6_polished_10 : decode cX6_polished 10 = .ok (.invokestatic 114, 3) := by decide +kernel
theorem dX6_polished_13 : decode cX6_polished 13 = .ok (.invokevirtual 124, 3) := by decide +kernel
theorem dX6_polished_16 : decode cX6_polished 16 = .ok (.ifCond .ne 5, 3) := by decide +kernel
theorem dX6_polished_19 : decode cX6_polished 19 = .ok (.iconst 0, 1) := by decide +kernel
theorem dX6_polished_20 : decode cX6_polished 20 = .ok (.ireturn, 1) := by decide +kernel
theorem dX6_polished_21 : decode cX6_polished 21 = .ok (.iload_n 2, 1) := by decide +kernel
theorem dX6_polished_22 : decode cX6_polished 22 = .ok (.ifCond .ne 12, 3) := by decide +kernel
theorem dX6_polished_25 : decode cX6_polished 25 = .ok (.aload_n 0, 1) := by decide +kernel
theorem dX6_polished_26 : decode cX6_polished 26 = .ok (.getfield 75, 3) := by decide +kernel
theorem dX6_polished_29 : decode cX6_polished 29 = .ok (.iload_n 1, 1) := by decide +kernel
theorem dX6_polished_30 : decode cX6_polished 30 = .ok (.iaload, 1) := by decide +kernel
theorem dX6_polished_31 : decode cX6_polished 31 = .ok (.goto 106, 3) := by decide +kernel
theorem dX6_polished_34 : decode cX6_polished 34 = .ok (.iload_n 2, 1) := by decide +kernel
theorem dX6_polished_35 : decode cX6_polished 35 = .ok (.iconst 1, 1) := by decide +kernel
theorem dX6_polished_36 : decode cX6_polished 36 = .ok (.if_icmp .ne 12, 3) := by decide +kernel
theorem dX6_polished_39 : decode cX6_polished 39 = .ok (.aload_n 0, 1) := by decide +kernel
theorem dX6_polished_40 : decode cX6_polished 40 = .ok (.getfield 78, 3) := by decide +kernel
theorem dX6_polished_43 : decode cX6_polished 43 = .ok (.iload_n 1, 1) := by decide +kernel
theorem dX6_polished_44 : decode cX6_polished 44 = .ok (.iaload, 1) := by decide +kernel
theorem dX6_polished_45 : decode cX6_polished 45 = .ok (.goto 92, 3) := by decide +kernel
theorem dX6_polished_48 : decode cX6_polished 48 = .ok (.iload_n 2, 1) := by decide +kernel
theorem dX6_polished_49 : decode cX6_polished 49 = .ok (.iconst 2, 1) := by decide +kernel
theorem dX6_polished_50 : decode cX6_polished 50 = .ok (.if_icmp .ne 12, 3) := by decide +kernel
theorem dX6_polished_53 : decode cX6_polished 53 = .ok (.aload_n 0, 1) := by decide +kernel
theorem dX6_polished_54 : decode cX6_polished 54 = .ok (.getfield 81, 3) := by decide +kernel
theorem dX6_polished_57 : decode cX6_polished 57 = .ok (.iload_n 1, 1) := by decide +kernel
theorem dX6_polished_58 : decode cX6_polished 58 = .ok (.iaload, 1) := by decide +kernel
theorem dX6_polished_59 : decode cX6_polished 59 = .ok (.goto 78, 3) := by decide +kernel
theorem dX6_polished_62 : decode cX6_polished 62 = .ok (.iload_n 2, 1) := by decide +kernel
theorem dX6_polished_63 : decode cX6_polished 63 = .ok (.iconst 3, 1) := by decide +kernel
theorem dX6_polished_64 : decode cX6_polished 64 = .ok (.if_icmp .ne 12, 3) := by decide +kernel
theorem dX6_polished_67 : decode cX6_polished 67 = .ok (.aload_n 0, 1) := by decide +kernel
theorem dX6_polished_68 : decode cX6_polished 68 = .ok (.getfield 84, 3) := by decide +kernel
theorem dX6_polished_71 : decode cX6_polished 71 = .ok (.iload_n 1, 1) := by decide +kernel
theorem dX6_polished_72 : decode cX6_polished 72 = .ok (.iaload, 1) := by decide +kernel
theorem dX6_polished_73 : decode cX6_polished 73 = .ok (.goto 64, 3) := by decide +kernel
theorem dX6_polished_76 : decode cX6_polished 76 = .ok (.iload_n 2, 1) := by decide +kernel
theorem dX6_polished_77 : decode cX6_polished 77 = .ok (.iconst 4, 1) := by decide +kernel
theorem dX6_polished_78 : decode cX6_polished 78 = .ok (.if_icmp .ne 12, 3) := by decide +kernel
theorem dX6_polished_81 : decode cX6_polished 81 = .ok (.aload_n 0, 1) := by decide +kernel
theorem dX6_polished_82 : decode cX6_polished 82 = .ok (.getfield 87, 3) := by decide +kernel
theorem dX6_polished_85 : decode cX6_polished 85 = .ok (.iload_n 1, 1) := by decide +kernel
theorem dX6_polished_86 : decode cX6_polished 86 = .ok (.iaload, 1) := by decide +kernel
theorem dX6_polished_87 : decode cX6_polished 87 = .ok (.goto 50, 3) := by decide +kernel
theorem dX6_polished_90 : decode cX6_polished 90 = .ok (.iload_n 2, 1) := by decide +kernel
theorem dX6_polished_91 : decode cX6_polished 91 = .ok (.iconst 5, 1) := by decide +kernel
theorem dX6_polished_92 : decode cX6_polished 92 = .ok (.if_icmp .ne 11, 3) := by decide +kernel
theorem dX6_polished_95 : decode cX6_polished 95 = .ok (.aload_n 0, 1) := by decide +kernel
theorem dX6_polished_96 : decode cX6_polished 96 = .ok (.iload_n 1, 1) := by decide +kernel
theorem dX6_polished_97 : decode cX6_polished 97 = .ok (.invokevirtual 197, 3) := by decide +kernel
theorem dX6_polished_100 : decode cX6_polished 100 = .ok (.goto 37, 3) := by decide +kernel
theorem dX6_polished_103 : decode cX6_polished 103 = .ok (.iload_n 2, 1) := by decide +kernel
theorem dX6_polished_104 : decode cX6_polished 104 = .ok (.bipush 6, 2) := by decide +kernel
theorem dX6_polished_106 : decode cX6_polished 106 = .ok (.if_icmp .ne 11, 3) := by decide +kernel
theorem dX6_polished_109 : decode cX6_polished 109 = .ok (.aload_n 0, 1) := by decide +kernel
theorem dX6_polished_110 : decode cX6_polished 110 = .ok (.iload_n 1, 1) := by decide +kernel
theorem dX6_polished_111 : decode cX6_polished 111 = .ok (.invokevirtual 200, 3) := by decide +kernel
theorem dX6_polished_114 : decode cX6_polished 114 = .ok (.goto 23, 3) := by decide +kernel
theorem dX6_polished_117 : decode cX6_polished 117 = .ok (.iload_n 2, 1) := by decide +kernel
theorem dX6_polished_118 : decode cX6_polished 118 = .ok (.bipush 7, 2) := by decide +kernel
theorem dX6_polished_120 : decode cX6_polished 120 = .ok (.if_icmp .ne 12, 3) := by decide +kernel
theorem dX6_polished_123 : decode cX6_polished 123 = .ok (.aload_n 0, 1) := by decide +kernel
theorem dX6_polished_124 : decode cX6_polished 124 = .ok (.getfield 90, 3) := by decide +kernel
theorem dX6_polished_127 : decode cX6_polished 127 = .ok (.iload_n 1, 1) := by decide +kernel
theorem dX6_polished_128 : decode cX6_polished 128 = .ok (.iaload, 1) := by decide +kernel
theorem dX6_polished_129 : decode cX6_polished 129 = .ok (.goto 8, 3) := by decide +kernel
theorem dX6_polished_132 : decode cX6_polished 132 = .ok (.aload_n 0, 1) := by decide +kernel
theorem dX6_polished_133 : decode cX6_polished 133 = .ok (.iload_n 1, 1) := by decide +kernel
theorem dX6_polished_134 : decode cX6_polished 134 = .ok (.invokevirtual 203, 3) := by decide +kernel
theorem dX6_polished_137 : decode cX6_polished 137 = .ok (.ireturn, 1) := by decide +kernel
theorem dX6_scale_0 : decode cX6_scale 0 = .ok (.aload_n 0, 1) := by decide +kernel
theorem dX6_scale_1 : decode cX6_scale 1 = .ok (.iload_n 1, 1) := by decide +kernel
theorem dX6_scale_2 : decode cX6_scale 2 = .ok (.iconst 0, 1) := by decide +kernel
theorem dX6_scale_3 : decode cX6_scale 3 = .ok (.iconst 2, 1) := by decide +kernel
theorem dX6_scale_4 : decode cX6_scale 4 = .ok (.invokestatic 114, 3) := by decide +kernel
theorem dX6_scale_7 : decode cX6_scale 7 = .ok (.iload_n 2, 1) := by decide +kernel
theorem dX6_scale_8 : decode cX6_scale 8 = .ok (.iconst (-1), 1) := by decide +kernel
theorem dX6_scale_9 : decode cX6_scale 9 = .ok (.iconst 1, 1) := by decide +kernel
theorem dX6_scale_10 : decode cX6_scale 10 = .ok (.invokestatic 114, 3) := by decide +kernel
theorem dX6_scale_13 : decode cX6_scale 13 = .ok (.invokevirtual 124, 3) := by decide +kernel
theorem dX6_scale_16 : decode cX6_scale 16 = .ok (.ifCond .ne 5, 3) := by decide +kernel
theorem dX6_scale_19 : decode cX6_scale 19 = .ok (.iconst 0, 1) := by decide +kernel
theorem dX6_scale_20 : decode cX6_scale 20 = .ok (.ireturn, 1) := by decide +kernel
theorem dX6_scale_21 : decode cX6_scale 21 = .ok (.aload_n 0, 1) := by decide +kernel
theorem dX6_scale_22 : decode cX6_scale 22 = .ok (.getfield 102, 3) := by decide +kernel
theorem dX6_scale_25 : decode cX6_scale 25 = .ok (.iload_n 1, 1) := by decide +kernel
theorem dX6_scale_26 : decode cX6_scale 26 = .ok (.iaload, 1) := by decide +kernel
theorem dX6_scale_27 : decode cX6_scale 27 = .ok (.istore_n 3, 1) := by decide +kernel
theorem dX6_scale_28 : decode cX6_scale 28 = .ok (.aload_n 0, 1) := by decide +kernel
theorem dX6_scale_29 : decode cX6_scale 29 = .ok (.getfield 102, 3) := by decide +kernel
theorem dX6_scale_32 : decode cX6_scale 32 = .ok (.iload_n 1, 1) := by decide +kernel
theorem dX6_scale_33 : decode cX6_scale 33 = .ok (.iload_n 2, 1) := by decide +kernel
theorem dX6_scale_34 : decode cX6_scale 34 = .ok (.iastore, 1) := by decide +kernel
theorem dX6_scale_35 : decode cX6_scale 35 = .ok (.iload_n 3, 1) := by decide +kernel
theorem dX6_scale_36 : decode cX6_scale 36 = .ok (.ireturn, 1) := by decide +kernel
theorem dX6_look_0 : decode cX6_look 0 = .ok (.iload_n 1, 1) := by decide +kernel
theorem dX6_look_1 : decode cX6_look 1 = .ok (.iconst 0, 1) := by decide +kernel
theorem dX6_look_2 : decode cX6_look 2 = .ok (.iconst 2, 1) := by decide +kernel
theorem dX6_look_3 : decode cX6_look 3 = .ok (.invokestatic 114, 3) := by decide +kernel
theorem dX6_look_6 : decode cX6_look 6 = .ok (.ifCond .eq 15, 3) := by decide +kernel
theorem dX6_look_9 : decode cX6_look 9 = .ok (.aload_n 0, 1) := by decide +kernel
theorem dX6_look_10 : decode cX6_look 10 = .ok (.iload_n 2, 1) := by decide +kernel
theorem dX6_look_11 : decode cX6_look 11 = .ok (.invokevirtual 194, 3) := by decide +kernel
theorem dX6_look_14 : decode cX6_look 14 = .ok (.ifCond .eq 7, 3) := by decide +kernel
theorem dX6_look_17 : decode cX6_look 17 = .ok (.iconst 1, 1) := by decide +kernel
theorem dX6_look_18 : decode cX6_look 18 = .ok (.goto 4, 3) := by decide +kernel
theorem dX6_look_21 : decode cX6_look 21 = .ok (.iconst 0, 1) := by decide +kernel
theorem dX6_look_22 : decode cX6_look 22 = .ok (.istore_n 3, 1) := by decide +kernel
theorem dX6_look_23 : decode cX6_look 23 = .ok (.aload_n 0, 1) := by decide +kernel
theorem dX6_look_24 : decode cX6_look 24 = .ok (.iload_n 3, 1) := by decide +kernel
theorem dX6_look_25 : decode cX6_look 25 = .ok (.iload_n 3, 1) := by decide +kernel
theorem dX6_look_26 : decode cX6_look 26 = .ok (.ifCond .eq 29, 3) := by decide +kernel
theorem dX6_look_29 : decode cX6_look 29 = .ok (.aload_n 0, 1) := by decide +kernel
theorem dX6_look_30 : decode cX6_look 30 = .ok (.getfield 99, 3) := by decide +kernel
theorem dX6_look_33 : decode cX6_look 33 = .ok (.iload_n 2, 1) := by decide +kernel
theorem dX6_look_34 : decode cX6_look 34 = .ok (.iaload, 1) := by decide +kernel
theorem dX6_look_35 : decode cX6_look 35 = .ok (.iload_n 1, 1) := by decide +kernel
theorem dX6_look_36 : decode cX6_look 36 = .ok (.ishr, 1) := by decide +kernel
theorem dX6_look_37 : decode cX6_look 37 = .ok (.iconst 1, 1) := by decide +kernel
theorem dX6_look_38 : decode cX6_look 38 = .ok (.iand, 1) := by decide +kernel
theorem dX6_look_39 : decode cX6_look 39 = .ok (.ifCond .ne 16, 3) := by decide +kernel
theorem dX6_look_42 : decode cX6_look 42 = .ok (.aload_n 0, 1) := by decide +kernel
theorem dX6_look_43 : decode cX6_look 43 = .ok (.iload_n 2, 1) := by decide +kernel
theorem dX6_look_44 : decode cX6_look 44 = .ok (.invokevirtual 197, 3) := by decide +kernel
theorem dX6_look_47 : decode cX6_look 47 = .ok (.iconst (-1), 1) := by decide +kernel
theorem dX6_look_48 : decode cX6_look 48 = .ok (.if_icmp .ne 7, 3) := by decide +kernel
theorem dX6_look_51 : decode cX6_look 51 = .ok (.iconst 1, 1) := by decide +kernel
theorem dX6_look_52 : decode cX6_look 52 = .ok (.goto 4, 3) := by decide +kernel
theorem dX6_look_55 : decode cX6_look 55 = .ok (.iconst 0, 1) := by decide +kernel
theorem dX6_look_56 : decode cX6_look 56 = .ok (.invokevirtual 124, 3) := by decide +kernel
theorem dX6_look_59 : decode cX6_look 59 = .ok (.ifCond .ne 5, 3) := by decide +kernel
theorem dX6_look_62 : decode cX6_look 62 = .ok (.iconst 0, 1) := by decide +kernel
theorem dX6_look_63 : decode cX6_look 63 = .ok (.ireturn, 1) := by decide +kernel
theorem dX6_look_64 : decode cX6_look 64 = .ok (.aload_n 0, 1) := by decide +kernel
theorem dX6_look_65 : decode cX6_look 65 = .ok (.getfield 22, 3) := by decide +kernel
theorem dX6_look_68 : decode cX6_look 68 = .ok (.aload_n 0, 1) := by decide +kernel
theorem dX6_look_69 : decode cX6_look 69 = .ok (.getfield 75, 3) := by decide +kernel
theorem dX6_look_72 : decode cX6_look 72 = .ok (.iload_n 2, 1) := by decide +kernel
theorem dX6_look_73 : decode cX6_look 73 = .ok (.iaload, 1) := by decide +kernel
theorem dX6_look_74 : decode cX6_look 74 = .ok (.iaload, 1) := by decide +kernel
theorem dX6_look_75 : decode cX6_look 75 = .ok (.aload_n 0, 1) := by decide +kernel
theorem dX6_look_76 : decode cX6_look 76 = .ok (.getfield 102, 3) := by decide +kernel
theorem dX6_look_79 : decode cX6_look 79 = .ok (.iload_n 1, 1) := by decide +kernel
theorem dX6_look_80 : decode cX6_look 80 = .ok (.iaload, 1) := by decide +kernel
theorem dX6_look_81 : decode cX6_look 81 = .ok (.iadd, 1) := by decide +kernel
theorem dX6_look_82 : decode cX6_look 82 = .ok (.bipush 9, 2) := by decide +kernel
theorem dX6_look_84 : decode cX6_look 84 = .ok (.invokestatic 135, 3) := by decide +kernel
theorem dX6_look_87 : decode cX6_look 87 = .ok (.istore 4, 2) := by decide +kernel
theorem dX6_look_89 : decode cX6_look 89 = .ok (.aload_n 0, 1) := by decide +kernel
theorem dX6_look_90 : decode cX6_look 90 = .ok (.getfield 96, 3) := by decide +kernel
theorem dX6_look_93 : decode cX6_look 93 = .ok (.iconst 3, 1) := by decide +kernel
theorem dX6_look_94 : decode cX6_look 94 = .ok (.iload_n 2, 1) := by decide +kernel
theorem dX6_look_95 : decode cX6_look 95 = .ok (.imul, 1) := by decide +kernel
theorem dX6_look_96 : decode cX6_look 96 = .ok (.aload_n 0, 1) := by decide +kernel
theorem dX6_look_97 : decode cX6_look 97 = .ok (.getfield 93, 3) := by decide +kernel
theorem dX6_look_100 : decode cX6_look 100 = .ok (.iload_n 2, 1) := by decide +kernel
theorem dX6_look_101 : decode cX6_look 101 = .ok (.iaload, 1) := by decide +kernel
theorem dX6_look_102 : decode cX6_look 102 = .ok (.iadd, 1) := by decide +kernel
theorem dX6_look_103 : decode cX6_look 103 = .ok (.iload 4, 2) := by decide +kernel
theorem dX6_look_105 : decode cX6_look 105 = .ok (.iastore, 1) := by decide +kernel
theorem dX6_look_106 : decode cX6_look 106 = .ok (.aload_n 0, 1) := by decide +kernel
theorem dX6_look_107 : decode cX6_look 107 = .ok (.getfield 93, 3) := by decide +kernel
theorem dX6_look_110 : decode cX6_look 110 = .ok (.iload_n 2, 1) := by decide +kernel
theorem dX6_look_111 : decode cX6_look 111 = .ok (.dup2, 1) := by decide +kernel
theorem dX6_look_112 : decode cX6_look 112 = .ok (.iaload, 1) := by decide +kernel
theorem dX6_look_113 : decode cX6_look 113 = .ok (.iconst 1, 1) := by decide +kernel
theorem dX6_look_114 : decode cX6_look 114 = .ok (.iadd, 1) := by decide +kernel
theorem dX6_look_115 : decode cX6_look 115 = .ok (.iastore, 1) := by decide +kernel
theorem dX6_look_116 : decode cX6_look 116 = .ok (.aload_n 0, 1) := by decide +kernel
theorem dX6_look_117 : decode cX6_look 117 = .ok (.getfield 99, 3) := by decide +kernel
theorem dX6_look_120 : decode cX6_look 120 = .ok (.iload_n 2, 1) := by decide +kernel
theorem dX6_look_121 : decode cX6_look 121 = .ok (.dup2, 1) := by decide +kernel
theorem dX6_look_122 : decode cX6_look 122 = .ok (.iaload, 1) := by decide +kernel
theorem dX6_look_123 : decode cX6_look 123 = .ok (.iconst 1, 1) := by decide +kernel
theorem dX6_look_124 : decode cX6_look 124 = .ok (.iload_n 1, 1) := by decide +kernel
theorem dX6_look_125 : decode cX6_look 125 = .ok (.ishl, 1) := by decide +kernel
theorem dX6_look_126 : decode cX6_look 126 = .ok (.ior, 1) := by decide +kernel
theorem dX6_look_127 : decode cX6_look 127 = .ok (.iastore, 1) := by decide +kernel
theorem dX6_look_128 : decode cX6_look 128 = .ok (.iload 4, 2) := by decide +kernel
theorem dX6_look_130 : decode cX6_look 130 = .ok (.ireturn, 1) := by decide +kernel
theorem dX6_cameOf_0 : decode cX6_cameOf 0 = .ok (.iconst 0, 1) := by decide +kernel
theorem dX6_cameOf_1 : decode cX6_cameOf 1 = .ok (.istore_n 2, 1) := by decide +kernel
theorem dX6_cameOf_2 : decode cX6_cameOf 2 = .ok (.iconst 0, 1) := by decide +kernel
theorem dX6_cameOf_3 : decode cX6_cameOf 3 = .ok (.istore_n 3, 1) := by decide +kernel
theorem dX6_cameOf_4 : decode cX6_cameOf 4 = .ok (.iload_n 3, 1) := by decide +kernel
theorem dX6_cameOf_5 : decode cX6_cameOf 5 = .ok (.aload_n 0, 1) := by decide +kernel
theorem dX6_cameOf_6 : decode cX6_cameOf 6 = .ok (.getfield 111, 3) := by decide +kernel
theorem dX6_cameOf_9 : decode cX6_cameOf 9 = .ok (.if_icmp .ge 37, 3) := by decide +kernel
theorem dX6_cameOf_12 : decode cX6_cameOf 12 = .ok (.iload_n 2, 1) := by decide +kernel
theorem dX6_cameOf_13 : decode cX6_cameOf 13 = .ok (.aload_n 0, 1) := by decide +kernel
theorem dX6_cameOf_14 : decode cX6_cameOf 14 = .ok (.getfield 7, 3) := by decide +kernel
theorem dX6_cameOf_17 : decode cX6_cameOf 17 = .ok (.aload_n 0, 1) := by decide +kernel
theorem dX6_cameOf_18 : decode cX6_cameOf 18 = .ok (.getfield 13, 3) := by decide +kernel
theorem dX6_cameOf_21 : decode cX6_cameOf 21 = .ok (.iload_n 3, 1) := by decide +kernel
theorem dX6_cameOf_22 : decode cX6_cameOf 22 = .ok (.iaload, 1) := by decide +kernel
theorem dX6_cameOf_23 : decode cX6_cameOf 23 = .ok (.iaload, 1) := by decide +kernel
theorem dX6_cameOf_24 : decode cX6_cameOf 24 = .ok (.iload_n 1, 1) := by decide +kernel
theorem dX6_cameOf_25 : decode cX6_cameOf 25 = .ok (.if_icmp .ne 12, 3) := by decide +kernel
theorem dX6_cameOf_28 : decode cX6_cameOf 28 = .ok (.aload_n 0, 1) := by decide +kernel
theorem dX6_cameOf_29 : decode cX6_cameOf 29 = .ok (.getfield 16, 3) := by decide +kernel
theorem dX6_cameOf_32 : decode cX6_cameOf 32 = .ok (.iload_n 3, 1) := by decide +kernel
theorem dX6_cameOf_33 : decode cX6_cameOf 33 = .ok (.iaload, 1) := by decide +kernel
theorem dX6_cameOf_34 : decode cX6_cameOf 34 = .ok (.goto 4, 3) := by decide +kernel
theorem dX6_cameOf_37 : decode cX6_cameOf 37 = .ok (.iconst 0, 1) := by decide +kernel
theorem dX6_cameOf_38 : decode cX6_cameOf 38 = .ok (.iadd, 1) := by decide +kernel
theorem dX6_cameOf_39 : decode cX6_cameOf 39 = .ok (.istore_n 2, 1) := by decide +kernel
theorem dX6_cameOf_40 : decode cX6_cameOf 40 = .ok (.iinc 3 1, 3) := by decide +kernel
theorem dX6_cameOf_43 : decode cX6_cameOf 43 = .ok (.goto (-39), 3) := by decide +kernel
theorem dX6_cameOf_46 : decode cX6_cameOf 46 = .ok (.iload_n 2, 1) := by decide +kernel
theorem dX6_cameOf_47 : decode cX6_cameOf 47 = .ok (.ireturn, 1) := by decide +kernel
theorem dX6_paper_0 : decode cX6_paper 0 = .ok (.aload_n 0, 1) := by decide +kernel
theorem dX6_paper_1 : decode cX6_paper 1 = .ok (.iload_n 1, 1) := by decide +kernel
theorem dX6_paper_2 : decode cX6_paper 2 = .ok (.invokevirtual 194, 3) := by decide +kernel
theorem dX6_paper_5 : decode cX6_paper 5 = .ok (.ifCond .eq 16, 3) := by decide +kernel
theorem dX6_paper_8 : decode cX6_paper 8 = .ok (.iload_n 2, 1) := by decide +kernel
theorem dX6_paper_9 : decode cX6_paper 9 = .ok (.iconst 0, 1) := by decide +kernel
theorem dX6_paper_10 : decode cX6_paper 10 = .ok (.iconst 3, 1) := by decide +kernel
theorem dX6_paper_11 : decode cX6_paper 11 = .ok (.invokestatic 114, 3) := by decide +kernel
theorem dX6_paper_14 : decode cX6_paper 14 = .ok (.ifCond .eq 7, 3) := by decide +kernel
theorem dX6_paper_17 : decode cX6_paper 17 = .ok (.iconst 1, 1) := by decide +kernel
theorem dX6_paper_18 : decode cX6_paper 18 = .ok (.goto 4, 3) := by decide +kernel
theorem dX6_paper_21 : decode cX6_paper 21 = .ok (.iconst 0, 1) := by decide +kernel
theorem dX6_paper_22 : decode cX6_paper 22 = .ok (.istore_n 3, 1) := by decide +kernel
theorem dX6_paper_23 : decode cX6_paper 23 = .ok (.aload_n 0, 1) := by decide +kernel
theorem dX6_paper_24 : decode cX6_paper 24 = .ok (.iload_n 3, 1) := by decide +kernel
theorem dX6_paper_25 : decode cX6_paper 25 = .ok (.iload_n 3, 1) := by decide +kernel
theorem dX6_paper_26 : decode cX6_paper 26 = .ok (.ifCond .eq 38, 3) := by decide +kernel
theorem dX6_paper_29 : decode cX6_paper 29 = .ok (.aload_n 0, 1) := by decide +kernel
theorem dX6_paper_30 : decode cX6_paper 30 = .ok (.getfield 90, 3) := by decide +kernel
theorem dX6_paper_33 : decode cX6_paper 33 = .ok (.iload_n 1, 1) := by decide +kernel
theorem dX6_paper_34 : decode cX6_paper 34 = .ok (.iaload, 1) := by decide +kernel
theorem dX6_paper_35 : decode cX6_paper 35 = .ok (.iconst (-1), 1) := by decide +kernel
theorem dX6_paper_36 : decode cX6_paper 36 = .ok (.if_icmp .ne 28, 3) := by decide +kernel
theorem dX6_paper_39 : decode cX6_paper 39 = .ok (.aload_n 0, 1) := by decide +kernel
theorem dX6_paper_40 : decode cX6_paper 40 = .ok (.getfield 105, 3) := by decide +kernel
theorem dX6_paper_43 : decode cX6_paper 43 = .ok (.iload_n 2, 1) := by decide +kernel
theorem dX6_paper_44 : decode cX6_paper 44 = .ok (.iaload, 1) := by decide +kernel
theorem dX6_paper_45 : decode cX6_paper 45 = .ok (.aload_n 0, 1) := by decide +kernel
theorem dX6_paper_46 : decode cX6_paper 46 = .ok (.getfield 78, 3) := by decide +kernel
theorem dX6_paper_49 : decode cX6_paper 49 = .ok (.iload_n 1, 1) := by decide +kernel
theorem dX6_paper_50 : decode cX6_paper 50 = .ok (.iaload, 1) := by decide +kernel
theorem dX6_paper_51 : decode cX6_paper 51 = .ok (.iadd, 1) := by decide +kernel
theorem dX6_paper_52 : decode cX6_paper 52 = .ok (.aload_n 0, 1) := by decide +kernel
theorem dX6_paper_53 : decode cX6_paper 53 = .ok (.iload_n 2, 1) := by decide +kernel
theorem dX6_paper_54 : decode cX6_paper 54 = .ok (.invokevirtual 206, 3) := by decide +kernel
theorem dX6_paper_57 : decode cX6_paper 57 = .ok (.if_icmp .gt 7, 3) := by decide +kernel
theorem dX6_paper_60 : decode cX6_paper 60 = .ok (.iconst 1, 1) := by decide +kernel
theorem dX6_paper_61 : decode cX6_paper 61 = .ok (.goto 4, 3) := by decide +kernel
theorem dX6_paper_64 : decode cX6_paper 64 = .ok (.iconst 0, 1) := by decide +kernel
theorem dX6_paper_65 : decode cX6_paper 65 = .ok (.invokevirtual 124, 3) := by decide +kernel
theorem dX6_paper_68 : decode cX6_paper 68 = .ok (.ifCond .ne 5, 3) := by decide +kernel
theorem dX6_paper_71 : decode cX6_paper 71 = .ok (.iconst 0, 1) := by decide +kernel
theorem dX6_paper_72 : decode cX6_paper 72 = .ok (.ireturn, 1) := by decide +kernel
theorem dX6_paper_73 : decode cX6_paper 73 = .ok (.aload_n 0, 1) := by decide +kernel
theorem dX6_paper_74 : decode cX6_paper 74 = .ok (.getfield 90, 3) := by decide +kernel
theorem dX6_paper_77 : decode cX6_paper 77 = .ok (.iload_n 1, 1) := by decide +kernel
theorem dX6_paper_78 : decode cX6_paper 78 = .ok (.iload_n 2, 1) := by decide +kernel
theorem dX6_paper_79 : decode cX6_paper 79 = .ok (.iastore, 1) := by decide +kernel
theorem dX6_paper_80 : decode cX6_paper 80 = .ok (.aload_n 0, 1) := by decide +kernel
theorem dX6_paper_81 : decode cX6_paper 81 = .ok (.getfield 105, 3) := by decide +kernel
theorem dX6_paper_84 : decode cX6_paper 84 = .ok (.iload_n 2, 1) := by decide +kernel
theorem dX6_paper_85 : decode cX6_paper 85 = .ok (.dup2, 1) := by decide +kernel
theorem dX6_paper_86 : decode cX6_paper 86 = .ok (.iaload, 1) := by decide +kernel
theorem dX6_paper_87 : decode cX6_paper 87 = .ok (.aload_n 0, 1) := by decide +kernel
theorem dX6_paper_88 : decode cX6_paper 88 = .ok (.getfield 78, 3) := by decide +kernel
theorem dX6_paper_91 : decode cX6_paper 91 = .ok (.iload_n 1, 1) := by decide +kernel
theorem dX6_paper_92 : decode cX6_paper 92 = .ok (.iaload, 1) := by decide +kernel
theorem dX6_paper_93 : decode cX6_paper 93 = .ok (.iadd, 1) := by decide +kernel
theorem dX6_paper_94 : decode cX6_paper 94 = .ok (.iastore, 1) := by decide +kernel
theorem dX6_paper_95 : decode cX6_paper 95 = .ok (.aload_n 0, 1) := by decide +kernel
theorem dX6_paper_96 : decode cX6_paper 96 = .ok (.iload_n 2, 1) := by decide +kernel
theorem dX6_paper_97 : decode cX6_paper 97 = .ok (.invokevirtual 206, 3) := by decide +kernel
theorem dX6_paper_100 : decode cX6_paper 100 = .ok (.aload_n 0, 1) := by decide +kernel
theorem dX6_paper_101 : decode cX6_paper 101 = .ok (.getfield 105, 3) := by decide +kernel
theorem dX6_paper_104 : decode cX6_paper 104 = .ok (.iload_n 2, 1) := by decide +kernel
theorem dX6_paper_105 : decode cX6_paper 105 = .ok (.iaload, 1) := by decide +kernel
theorem dX6_paper_106 : decode cX6_paper 106 = .ok (.isub, 1) := by decide +kernel
theorem dX6_paper_107 : decode cX6_paper 107 = .ok (.ireturn, 1) := by decide +kernel
theorem dX6_all_0 : decode cX6_all 0 = .ok (.aload_n 0, 1) := by decide +kernel
theorem dX6_all_1 : decode cX6_all 1 = .ok (.iload_n 1, 1) := by decide +kernel
theorem dX6_all_2 : decode cX6_all 2 = .ok (.iconst 0, 1) := by decide +kernel
theorem dX6_all_3 : decode cX6_all 3 = .ok (.iconst 5, 1) := by decide +kernel
theorem dX6_all_4 : decode cX6_all 4 = .ok (.invokestatic 114, 3) := by decide +kernel
theorem dX6_all_7 : decode cX6_all 7 = .ok (.invokevirtual 148, 3) := by decide +kernel
theorem dX6_all_10 : decode cX6_all 10 = .ok (.ifCond .ne 5, 3) := by decide +kernel
theorem dX6_all_13 : decode cX6_all 13 = .ok (.iconst 0, 1) := by decide +kernel
theorem dX6_all_14 : decode cX6_all 14 = .ok (.ireturn, 1) := by decide +kernel
theorem dX6_all_15 : decode cX6_all 15 = .ok (.iconst 0, 1) := by decide +kernel
theorem dX6_all_16 : decode cX6_all 16 = .ok (.istore_n 2, 1) := by decide +kernel
theorem dX6_all_17 : decode cX6_all 17 = .ok (.iconst 0, 1) := by decide +kernel
theorem dX6_all_18 : decode cX6_all 18 = .ok (.istore_n 3, 1) := by decide +kernel
theorem dX6_all_19 : decode cX6_all 19 = .ok (.iconst 0, 1) := by decide +kernel
theorem dX6_all_20 : decode cX6_all 20 = .ok (.istore 4, 2) := by decide +kernel
theorem dX6_all_22 : decode cX6_all 22 = .ok (.iload 4, 2) := by decide +kernel
theorem dX6_all_24 : decode cX6_all 24 = .ok (.aload_n 0, 1) := by decide +kernel
theorem dX6_all_25 : decode cX6_all 25 = .ok (.getfield 111, 3) := by decide +kernel
theorem dX6_all_28 : decode cX6_all 28 = .ok (.if_icmp .ge 44, 3) := by decide +kernel
theorem dX6_all_31 : decode cX6_all 31 = .ok (.iload_n 2, 1) := by decide +kernel
theorem dX6_all_32 : decode cX6_all 32 = .ok (.aload_n 0, 1) := by decide +kernel
theorem dX6_all_33 : decode cX6_all 33 = .ok (.getfield 16, 3) := by decide +kernel
theorem dX6_all_36 : decode cX6_all 36 = .ok (.iload 4, 2) := by decide +kernel
theorem dX6_all_38 : decode cX6_all 38 = .ok (.iaload, 1) := by decide +kernel
theorem dX6_all_39 : decode cX6_all 39 = .ok (.iadd, 1) := by decide +kernel
theorem dX6_all_40 : decode cX6_all 40 = .ok (.istore_n 2, 1) := by decide +kernel
theorem dX6_all_41 : decode cX6_all 41 = .ok (.iload_n 3, 1) := by decide +kernel
theorem dX6_all_42 : decode cX6_all 42 = .ok (.aload_n 0, 1) := by decide +kernel
theorem dX6_all_43 : decode cX6_all 43 = .ok (.getfield 28, 3) := by decide +kernel
theorem dX6_all_46 : decode cX6_all 46 = .ok (.iload 4, 2) := by decide +kernel
theorem dX6_all_48 : decode cX6_all 48 = .ok (.iaload, 1) := by decide +kernel
theorem dX6_all_49 : decode cX6_all 49 = .ok (.iconst 3, 1) := by decide +kernel
theorem dX6_all_50 : decode cX6_all 50 = .ok (.if_icmp .ne 7, 3) := by decide +kernel
theorem dX6_all_53 : decode cX6_all 53 = .ok (.iconst 0, 1) := by decide +kernel
theorem dX6_all_54 : decode cX6_all 54 = .ok (.goto 10, 3) := by decide +kernel
theorem dX6_all_57 : decode cX6_all 57 = .ok (.aload_n 0, 1) := by decide +kernel
theorem dX6_all_58 : decode cX6_all 58 = .ok (.getfield 16, 3) := by decide +kernel
theorem dX6_all_61 : decode cX6_all 61 = .ok (.iload 4, 2) := by decide +kernel
theorem dX6_all_63 : decode cX6_all 63 = .ok (.iaload, 1) := by decide +kernel
theorem dX6_all_64 : decode cX6_all 64 = .ok (.iadd, 1) := by decide +kernel
theorem dX6_all_65 : decode cX6_all 65 = .ok (.istore_n 3, 1) := by decide +kernel
theorem dX6_all_66 : decode cX6_all 66 = .ok (.iinc 4 1, 3) := by decide +kernel
theorem dX6_all_69 : decode cX6_all 69 = .ok (.goto (-47), 3) := by decide +kernel
theorem dX6_all_72 : decode cX6_all 72 = .ok (.iconst 0, 1) := by decide +kernel
theorem dX6_all_73 : decode cX6_all 73 = .ok (.istore 4, 2) := by decide +kernel
theorem dX6_all_75 : decode cX6_all 75 = .ok (.iconst 0, 1) := by decide +kernel
theorem dX6_all_76 : decode cX6_all 76 = .ok (.istore 5, 2) := by decide +kernel
theorem dX6_all_78 : decode cX6_all 78 = .ok (.iconst 0, 1) := by decide +kernel
theorem dX6_all_79 : decode cX6_all 79 = .ok (.istore 6, 2) := by decide +kernel
theorem dX6_all_81 : decode cX6_all 81 = .ok (.iload 6, 2) := by decide +kernel
theorem dX6_all_83 : decode cX6_all 83 = .ok (.aload_n 0, 1) := by decide +kernel
theorem dX6_all_84 : decode cX6_all 84 = .ok (.getfield 118, 3) := by decide +kernel
theorem dX6_all_87 : decode cX6_all 87 = .ok (.if_icmp .ge 58, 3) := by decide +kernel
theorem dX6_all_90 : decode cX6_all 90 = .ok (.iload 4, 2) := by decide +kernel
theorem dX6_all_92 : decode cX6_all 92 = .ok (.aload_n 0, 1) := by decide +kernel
theorem dX6_all_93 : decode cX6_all 93 = .ok (.getfield 78, 3) := by decide +kernel
theorem dX6_all_96 : decode cX6_all 96 = .ok (.iload 6, 2) := by decide +kernel
theorem dX6_all_98 : decode cX6_all 98 = .ok (.iaload, 1) := by decide +kernel
theorem dX6_all_99 : decode cX6_all 99 = .ok (.iadd, 1) := by decide +kernel
theorem dX6_all_100 : decode cX6_all 100 = .ok (.istore 4, 2) := by decide +kernel
theorem dX6_all_102 : decode cX6_all 102 = .ok (.iload 5, 2) := by decide +kernel
theorem dX6_all_104 : decode cX6_all 104 = .ok (.aload_n 0, 1) := by decide +kernel
theorem dX6_all_105 : decode cX6_all 105 = .ok (.getfield 90, 3) := by decide +kernel
theorem dX6_all_108 : decode cX6_all 108 = .ok (.iload 6, 2) := by decide +kernel
theorem dX6_all_110 : decode cX6_all 110 = .ok (.iaload, 1) := by decide +kernel
theorem dX6_all_111 : decode cX6_all 111 = .ok (.iconst (-1), 1) := by decide +kernel
theorem dX6_all_112 : decode cX6_all 112 = .ok (.if_icmp .eq 23, 3) := by decide +kernel
theorem dX6_all_115 : decode cX6_all 115 = .ok (.aload_n 0, 1) := by decide +kernel
theorem dX6_all_116 : decode cX6_all 116 = .ok (.getfield 90, 3) := by decide +kernel
theorem dX6_all_119 : decode cX6_all 119 = .ok (.iload 6, 2) := by decide +kernel
theorem dX6_all_121 : decode cX6_all 121 = .ok (.iaload, 1) := by decide +kernel
theorem dX6_all_122 : decode cX6_all 122 = .ok (.aload_n 0, 1) := by decide +kernel
theorem dX6_all_123 : decode cX6_all 123 = .ok (.iload 6, 2) := by decide +kernel
theorem dX6_all_125 : decode cX6_all 125 = .ok (.invokevirtual 203, 3) := by decide +kernel
theorem dX6_all_128 : decode cX6_all 128 = .ok (.if_icmp .eq 7, 3) := by decide +kernel
theorem dX6_all_131 : decode cX6_all 131 = .ok (.iconst 1, 1) := by decide +kernel
theorem dX6_all_132 : decode cX6_all 132 = .ok (.goto 4, 3) := by decide +kernel
theorem dX6_all_135 : decode cX6_all 135 = .ok (.iconst 0, 1) := by decide +kernel
theorem dX6_all_136 : decode cX6_all 136 = .ok (.iadd, 1) := by decide +kernel
theorem dX6_all_137 : decode cX6_all 137 = .ok (.istore 5, 2) := by decide +kernel
theorem dX6_all_139 : decode cX6_all 139 = .ok (.iinc 6 1, 3) := by decide +kernel
theorem dX6_all_142 : decode cX6_all 142 = .ok (.goto (-61), 3) := by decide +kernel
theorem dX6_all_145 : decode cX6_all 145 = .ok (.iconst 0, 1) := by decide +kernel
theorem dX6_all_146 : decode cX6_all 146 = .ok (.istore 6, 2) := by decide +kernel
theorem dX6_all_148 : decode cX6_all 148 = .ok (.iconst 0, 1) := by decide +kernel
theorem dX6_all_149 : decode cX6_all 149 = .ok (.istore 7, 2) := by decide +kernel
theorem dX6_all_151 : decode cX6_all 151 = .ok (.iload 7, 2) := by decide +kernel
theorem dX6_all_153 : decode cX6_all 153 = .ok (.iconst 4, 1) := by decide +kernel
theorem dX6_all_154 : decode cX6_all 154 = .ok (.if_icmp .ge 21, 3) := by decide +kernel
theorem dX6_all_157 : decode cX6_all 157 = .ok (.iload 6, 2) := by decide +kernel
theorem dX6_all_159 : decode cX6_all 159 = .ok (.aload_n 0, 1) := by decide +kernel
theorem dX6_all_160 : decode cX6_all 160 = .ok (.getfield 105, 3) := by decide +kernel
theorem dX6_all_163 : decode cX6_all 163 = .ok (.iload 7, 2) := by decide +kernel
theorem dX6_all_165 : decode cX6_all 165 = .ok (.iaload, 1) := by decide +kernel
theorem dX6_all_166 : decode cX6_all 166 = .ok (.iadd, 1) := by decide +kernel
theorem dX6_all_167 : decode cX6_all 167 = .ok (.istore 6, 2) := by decide +kernel
theorem dX6_all_169 : decode cX6_all 169 = .ok (.iinc 7 1, 3) := by decide +kernel
theorem dX6_all_172 : decode cX6_all 172 = .ok (.goto (-21), 3) := by decide +kernel
theorem dX6_all_175 : decode cX6_all 175 = .ok (.iload_n 1, 1) := by decide +kernel
theorem dX6_all_176 : decode cX6_all 176 = .ok (.ifCond .ne 7, 3) := by decide +kernel
theorem dX6_all_179 : decode cX6_all 179 = .ok (.iload_n 2, 1) := by decide +kernel
theorem dX6_all_180 : decode cX6_all 180 = .ok (.goto 46, 3) := by decide +kernel
theorem dX6_all_183 : decode cX6_all 183 = .ok (.iload_n 1, 1) := by decide +kernel
theorem dX6_all_184 : decode cX6_all 184 = .ok (.iconst 1, 1) := by decide +kernel
theorem dX6_all_185 : decode cX6_all 185 = .ok (.if_icmp .ne 7, 3) := by decide +kernel
theorem dX6_all_188 : decode cX6_all 188 = .ok (.iload_n 3, 1) := by decide +kernel
theorem dX6_all_189 : decode cX6_all 189 = .ok (.goto 37, 3) := by decide +kernel
theorem dX6_all_192 : decode cX6_all 192 = .ok (.iload_n 1, 1) := by decide +kernel
theorem dX6_all_193 : decode cX6_all 193 = .ok (.iconst 2, 1) := by decide +kernel
theorem dX6_all_194 : decode cX6_all 194 = .ok (.if_icmp .ne 8, 3) := by decide +kernel
theorem dX6_all_197 : decode cX6_all 197 = .ok (.iload 4, 2) := by decide +kernel
theorem dX6_all_199 : decode cX6_all 199 = .ok (.goto 27, 3) := by decide +kernel
theorem dX6_all_202 : decode cX6_all 202 = .ok (.iload_n 1, 1) := by decide +kernel
theorem dX6_all_203 : decode cX6_all 203 = .ok (.iconst 3, 1) := by decide +kernel
theorem dX6_all_204 : decode cX6_all 204 = .ok (.if_icmp .ne 10, 3) := by decide +kernel
theorem dX6_all_207 : decode cX6_all 207 = .ok (.aload_n 0, 1) := by decide +kernel
theorem dX6_all_208 : decode cX6_all 208 = .ok (.getfield 191, 3) := by decide +kernel
theorem dX6_all_211 : decode cX6_all 211 = .ok (.goto 15, 3) := by decide +kernel
theorem dX6_all_214 : decode cX6_all 214 = .ok (.iload_n 1, 1) := by decide +kernel
theorem dX6_all_215 : decode cX6_all 215 = .ok (.iconst 4, 1) := by decide +kernel
theorem dX6_all_216 : decode cX6_all 216 = .ok (.if_icmp .ne 8, 3) := by decide +kernel
theorem dX6_all_219 : decode cX6_all 219 = .ok (.iload 6, 2) := by decide +kernel
theorem dX6_all_221 : decode cX6_all 221 = .ok (.goto 5, 3) := by decide +kernel
theorem dX6_all_224 : decode cX6_all 224 = .ok (.iload 5, 2) := by decide +kernel
theorem dX6_all_226 : decode cX6_all 226 = .ok (.ireturn, 1) := by decide +kernel
