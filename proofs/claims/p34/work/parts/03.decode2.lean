def dtL_enters_1 : List (Nat × Instr × Nat) := [(84, .iadd, 1), (85, .istore 6, 2), (87, .iload_n 2, 1), (88, .iconst 3, 1), (89, .ishr, 1), (90, .iload_n 1, 1), (91, .bipush 64, 2), (93, .iand, 1), (94, .ifCond .ne 9, 3), (97, .sipush 20000, 3), (100, .goto 5, 3), (103, .ldc 104, 2), (105, .invokestatic 45, 3), (108, .istore 7, 2), (110, .iload 7, 2), (112, .i2l, 1), (113, .aload_n 0, 1), (114, .iload 5, 2), (116, .invokevirtual 19, 3), (119, .i2l, 1), (120, .lmul, 1), (121, .ldc2_w 54, 3), (124, .ldiv, 1), (125, .l2i, 1), (126, .istore 8, 2), (128, .aload_n 0, 1), (129, .iload 4, 2), (131, .iconst 3, 1), (132, .invokevirtual 22, 3), (135, .iload 8, 2), (137, .i2l, 1), (138, .ladd, 1), (139, .lstore 9, 2), (141, .lload 9, 2), (143, .aload_n 0, 1), (144, .bipush 8, 2), (146, .invokevirtual 13, 3), (149, .i2l, 1), (150, .lmul, 1), (151, .ldc2_w 41, 3), (154, .ldiv, 1), (155, .aload_n 0, 1), (156, .iload 4, 2), (158, .iconst 1, 1), (159, .invokevirtual 22, 3), (162, .lcmp, 1), (163, .ifCond .gt 7, 3), (166, .iconst 1, 1)]
theorem dtL_enters_1_ok : ∀ q ∈ dtL_enters_1, decode cL_enters q.1 = .ok q.2 := by decide +kernel
theorem dL_enters_84 : decode cL_enters 84 = .ok (.iadd, 1) := dg dtL_enters_1_ok 0 rfl
theorem dL_enters_85 : decode cL_enters 85 = .ok (.istore 6, 2) := dg dtL_enters_1_ok 1 rfl
theorem dL_enters_87 : decode cL_enters 87 = .ok (.iload_n 2, 1) := dg dtL_enters_1_ok 2 rfl
theorem dL_enters_88 : decode cL_enters 88 = .ok (.iconst 3, 1) := dg dtL_enters_1_ok 3 rfl
theorem dL_enters_89 : decode cL_enters 89 = .ok (.ishr, 1) := dg dtL_enters_1_ok 4 rfl
theorem dL_enters_90 : decode cL_enters 90 = .ok (.iload_n 1, 1) := dg dtL_enters_1_ok 5 rfl
theorem dL_enters_91 : decode cL_enters 91 = .ok (.bipush 64, 2) := dg dtL_enters_1_ok 6 rfl
theorem dL_enters_93 : decode cL_enters 93 = .ok (.iand, 1) := dg dtL_enters_1_ok 7 rfl
theorem dL_enters_94 : decode cL_enters 94 = .ok (.ifCond .ne 9, 3) := dg dtL_enters_1_ok 8 rfl
theorem dL_enters_97 : decode cL_enters 97 = .ok (.sipush 20000, 3) := dg dtL_enters_1_ok 9 rfl
theorem dL_enters_100 : decode cL_enters 100 = .ok (.goto 5, 3) := dg dtL_enters_1_ok 10 rfl
theorem dL_enters_103 : decode cL_enters 103 = .ok (.ldc 104, 2) := dg dtL_enters_1_ok 11 rfl
theorem dL_enters_105 : decode cL_enters 105 = .ok (.invokestatic 45, 3) := dg dtL_enters_1_ok 12 rfl
theorem dL_enters_108 : decode cL_enters 108 = .ok (.istore 7, 2) := dg dtL_enters_1_ok 13 rfl
theorem dL_enters_110 : decode cL_enters 110 = .ok (.iload 7, 2) := dg dtL_enters_1_ok 14 rfl
theorem dL_enters_112 : decode cL_enters 112 = .ok (.i2l, 1) := dg dtL_enters_1_ok 15 rfl
theorem dL_enters_113 : decode cL_enters 113 = .ok (.aload_n 0, 1) := dg dtL_enters_1_ok 16 rfl
theorem dL_enters_114 : decode cL_enters 114 = .ok (.iload 5, 2) := dg dtL_enters_1_ok 17 rfl
theorem dL_enters_116 : decode cL_enters 116 = .ok (.invokevirtual 19, 3) := dg dtL_enters_1_ok 18 rfl
theorem dL_enters_119 : decode cL_enters 119 = .ok (.i2l, 1) := dg dtL_enters_1_ok 19 rfl
theorem dL_enters_120 : decode cL_enters 120 = .ok (.lmul, 1) := dg dtL_enters_1_ok 20 rfl
theorem dL_enters_121 : decode cL_enters 121 = .ok (.ldc2_w 54, 3) := dg dtL_enters_1_ok 21 rfl
theorem dL_enters_124 : decode cL_enters 124 = .ok (.ldiv, 1) := dg dtL_enters_1_ok 22 rfl
theorem dL_enters_125 : decode cL_enters 125 = .ok (.l2i, 1) := dg dtL_enters_1_ok 23 rfl
theorem dL_enters_126 : decode cL_enters 126 = .ok (.istore 8, 2) := dg dtL_enters_1_ok 24 rfl
theorem dL_enters_128 : decode cL_enters 128 = .ok (.aload_n 0, 1) := dg dtL_enters_1_ok 25 rfl
theorem dL_enters_129 : decode cL_enters 129 = .ok (.iload 4, 2) := dg dtL_enters_1_ok 26 rfl
theorem dL_enters_131 : decode cL_enters 131 = .ok (.iconst 3, 1) := dg dtL_enters_1_ok 27 rfl
theorem dL_enters_132 : decode cL_enters 132 = .ok (.invokevirtual 22, 3) := dg dtL_enters_1_ok 28 rfl
theorem dL_enters_135 : decode cL_enters 135 = .ok (.iload 8, 2) := dg dtL_enters_1_ok 29 rfl
theorem dL_enters_137 : decode cL_enters 137 = .ok (.i2l, 1) := dg dtL_enters_1_ok 30 rfl
theorem dL_enters_138 : decode cL_enters 138 = .ok (.ladd, 1) := dg dtL_enters_1_ok 31 rfl
theorem dL_enters_139 : decode cL_enters 139 = .ok (.lstore 9, 2) := dg dtL_enters_1_ok 32 rfl
theorem dL_enters_141 : decode cL_enters 141 = .ok (.lload 9, 2) := dg dtL_enters_1_ok 33 rfl
theorem dL_enters_143 : decode cL_enters 143 = .ok (.aload_n 0, 1) := dg dtL_enters_1_ok 34 rfl
theorem dL_enters_144 : decode cL_enters 144 = .ok (.bipush 8, 2) := dg dtL_enters_1_ok 35 rfl
theorem dL_enters_146 : decode cL_enters 146 = .ok (.invokevirtual 13, 3) := dg dtL_enters_1_ok 36 rfl
theorem dL_enters_149 : decode cL_enters 149 = .ok (.i2l, 1) := dg dtL_enters_1_ok 37 rfl
theorem dL_enters_150 : decode cL_enters 150 = .ok (.lmul, 1) := dg dtL_enters_1_ok 38 rfl
theorem dL_enters_151 : decode cL_enters 151 = .ok (.ldc2_w 41, 3) := dg dtL_enters_1_ok 39 rfl
theorem dL_enters_154 : decode cL_enters 154 = .ok (.ldiv, 1) := dg dtL_enters_1_ok 40 rfl
theorem dL_enters_155 : decode cL_enters 155 = .ok (.aload_n 0, 1) := dg dtL_enters_1_ok 41 rfl
theorem dL_enters_156 : decode cL_enters 156 = .ok (.iload 4, 2) := dg dtL_enters_1_ok 42 rfl
theorem dL_enters_158 : decode cL_enters 158 = .ok (.iconst 1, 1) := dg dtL_enters_1_ok 43 rfl
theorem dL_enters_159 : decode cL_enters 159 = .ok (.invokevirtual 22, 3) := dg dtL_enters_1_ok 44 rfl
theorem dL_enters_162 : decode cL_enters 162 = .ok (.lcmp, 1) := dg dtL_enters_1_ok 45 rfl
theorem dL_enters_163 : decode cL_enters 163 = .ok (.ifCond .gt 7, 3) := dg dtL_enters_1_ok 46 rfl
theorem dL_enters_166 : decode cL_enters 166 = .ok (.iconst 1, 1) := dg dtL_enters_1_ok 47 rfl
def dtL_enters_2 : List (Nat × Instr × Nat) := [(167, .goto 4, 3), (170, .iconst 0, 1), (171, .istore 11, 2), (173, .aload_n 0, 1), (174, .iload 4, 2), (176, .iconst 2, 1), (177, .invokevirtual 22, 3), (180, .lconst 0, 1), (181, .lcmp, 1), (182, .ifCond .le 7, 3), (185, .iconst 1, 1), (186, .goto 4, 3), (189, .iconst 0, 1), (190, .istore 12, 2), (192, .aload_n 0, 1), (193, .iload 4, 2), (195, .iload 5, 2), (197, .iload 6, 2), (199, .iload 7, 2), (201, .invokevirtual 97, 3), (204, .istore 13, 2), (206, .iload 12, 2), (208, .ifCond .ne 14, 3), (211, .iload_n 3, 1), (212, .bipush 30, 2), (214, .if_icmp .eq 8, 3), (217, .iload 11, 2), (219, .ifCond .ne 45, 3), (222, .iload 13, 2), (224, .ldc 96, 2), (226, .if_icmp .ne 36, 3), (229, .aload_n 0, 1), (230, .bipush 11, 2), (232, .invokevirtual 13, 3), (235, .iload 12, 2), (237, .ifCond .eq 7, 3), (240, .iconst 1, 1), (241, .goto 14, 3), (244, .iload_n 3, 1), (245, .bipush 30, 2), (247, .if_icmp .ne 7, 3), (250, .iconst 5, 1), (251, .goto 4, 3), (254, .iconst 2, 1), (255, .if_icmp .ne 7, 3), (258, .iconst 1, 1), (259, .goto 4, 3), (262, .iconst 0, 1)]
theorem dtL_enters_2_ok : ∀ q ∈ dtL_enters_2, decode cL_enters q.1 = .ok q.2 := by decide +kernel
theorem dL_enters_167 : decode cL_enters 167 = .ok (.goto 4, 3) := dg dtL_enters_2_ok 0 rfl
theorem dL_enters_170 : decode cL_enters 170 = .ok (.iconst 0, 1) := dg dtL_enters_2_ok 1 rfl
theorem dL_enters_171 : decode cL_enters 171 = .ok (.istore 11, 2) := dg dtL_enters_2_ok 2 rfl
theorem dL_enters_173 : decode cL_enters 173 = .ok (.aload_n 0, 1) := dg dtL_enters_2_ok 3 rfl
theorem dL_enters_174 : decode cL_enters 174 = .ok (.iload 4, 2) := dg dtL_enters_2_ok 4 rfl
theorem dL_enters_176 : decode cL_enters 176 = .ok (.iconst 2, 1) := dg dtL_enters_2_ok 5 rfl
theorem dL_enters_177 : decode cL_enters 177 = .ok (.invokevirtual 22, 3) := dg dtL_enters_2_ok 6 rfl
theorem dL_enters_180 : decode cL_enters 180 = .ok (.lconst 0, 1) := dg dtL_enters_2_ok 7 rfl
theorem dL_enters_181 : decode cL_enters 181 = .ok (.lcmp, 1) := dg dtL_enters_2_ok 8 rfl
theorem dL_enters_182 : decode cL_enters 182 = .ok (.ifCond .le 7, 3) := dg dtL_enters_2_ok 9 rfl
theorem dL_enters_185 : decode cL_enters 185 = .ok (.iconst 1, 1) := dg dtL_enters_2_ok 10 rfl
theorem dL_enters_186 : decode cL_enters 186 = .ok (.goto 4, 3) := dg dtL_enters_2_ok 11 rfl
theorem dL_enters_189 : decode cL_enters 189 = .ok (.iconst 0, 1) := dg dtL_enters_2_ok 12 rfl
theorem dL_enters_190 : decode cL_enters 190 = .ok (.istore 12, 2) := dg dtL_enters_2_ok 13 rfl
theorem dL_enters_192 : decode cL_enters 192 = .ok (.aload_n 0, 1) := dg dtL_enters_2_ok 14 rfl
theorem dL_enters_193 : decode cL_enters 193 = .ok (.iload 4, 2) := dg dtL_enters_2_ok 15 rfl
theorem dL_enters_195 : decode cL_enters 195 = .ok (.iload 5, 2) := dg dtL_enters_2_ok 16 rfl
theorem dL_enters_197 : decode cL_enters 197 = .ok (.iload 6, 2) := dg dtL_enters_2_ok 17 rfl
theorem dL_enters_199 : decode cL_enters 199 = .ok (.iload 7, 2) := dg dtL_enters_2_ok 18 rfl
theorem dL_enters_201 : decode cL_enters 201 = .ok (.invokevirtual 97, 3) := dg dtL_enters_2_ok 19 rfl
theorem dL_enters_204 : decode cL_enters 204 = .ok (.istore 13, 2) := dg dtL_enters_2_ok 20 rfl
theorem dL_enters_206 : decode cL_enters 206 = .ok (.iload 12, 2) := dg dtL_enters_2_ok 21 rfl
theorem dL_enters_208 : decode cL_enters 208 = .ok (.ifCond .ne 14, 3) := dg dtL_enters_2_ok 22 rfl
theorem dL_enters_211 : decode cL_enters 211 = .ok (.iload_n 3, 1) := dg dtL_enters_2_ok 23 rfl
theorem dL_enters_212 : decode cL_enters 212 = .ok (.bipush 30, 2) := dg dtL_enters_2_ok 24 rfl
theorem dL_enters_214 : decode cL_enters 214 = .ok (.if_icmp .eq 8, 3) := dg dtL_enters_2_ok 25 rfl
theorem dL_enters_217 : decode cL_enters 217 = .ok (.iload 11, 2) := dg dtL_enters_2_ok 26 rfl
theorem dL_enters_219 : decode cL_enters 219 = .ok (.ifCond .ne 45, 3) := dg dtL_enters_2_ok 27 rfl
theorem dL_enters_222 : decode cL_enters 222 = .ok (.iload 13, 2) := dg dtL_enters_2_ok 28 rfl
theorem dL_enters_224 : decode cL_enters 224 = .ok (.ldc 96, 2) := dg dtL_enters_2_ok 29 rfl
theorem dL_enters_226 : decode cL_enters 226 = .ok (.if_icmp .ne 36, 3) := dg dtL_enters_2_ok 30 rfl
theorem dL_enters_229 : decode cL_enters 229 = .ok (.aload_n 0, 1) := dg dtL_enters_2_ok 31 rfl
theorem dL_enters_230 : decode cL_enters 230 = .ok (.bipush 11, 2) := dg dtL_enters_2_ok 32 rfl
theorem dL_enters_232 : decode cL_enters 232 = .ok (.invokevirtual 13, 3) := dg dtL_enters_2_ok 33 rfl
theorem dL_enters_235 : decode cL_enters 235 = .ok (.iload 12, 2) := dg dtL_enters_2_ok 34 rfl
theorem dL_enters_237 : decode cL_enters 237 = .ok (.ifCond .eq 7, 3) := dg dtL_enters_2_ok 35 rfl
theorem dL_enters_240 : decode cL_enters 240 = .ok (.iconst 1, 1) := dg dtL_enters_2_ok 36 rfl
theorem dL_enters_241 : decode cL_enters 241 = .ok (.goto 14, 3) := dg dtL_enters_2_ok 37 rfl
theorem dL_enters_244 : decode cL_enters 244 = .ok (.iload_n 3, 1) := dg dtL_enters_2_ok 38 rfl
theorem dL_enters_245 : decode cL_enters 245 = .ok (.bipush 30, 2) := dg dtL_enters_2_ok 39 rfl
theorem dL_enters_247 : decode cL_enters 247 = .ok (.if_icmp .ne 7, 3) := dg dtL_enters_2_ok 40 rfl
theorem dL_enters_250 : decode cL_enters 250 = .ok (.iconst 5, 1) := dg dtL_enters_2_ok 41 rfl
theorem dL_enters_251 : decode cL_enters 251 = .ok (.goto 4, 3) := dg dtL_enters_2_ok 42 rfl
theorem dL_enters_254 : decode cL_enters 254 = .ok (.iconst 2, 1) := dg dtL_enters_2_ok 43 rfl
theorem dL_enters_255 : decode cL_enters 255 = .ok (.if_icmp .ne 7, 3) := dg dtL_enters_2_ok 44 rfl
theorem dL_enters_258 : decode cL_enters 258 = .ok (.iconst 1, 1) := dg dtL_enters_2_ok 45 rfl
theorem dL_enters_259 : decode cL_enters 259 = .ok (.goto 4, 3) := dg dtL_enters_2_ok 46 rfl
theorem dL_enters_262 : decode cL_enters 262 = .ok (.iconst 0, 1) := dg dtL_enters_2_ok 47 rfl
def dtL_enters_3 : List (Nat × Instr × Nat) := [(263, .ireturn, 1), (264, .iload 13, 2), (266, .iload_n 3, 1), (267, .if_icmp .ne 162, 3), (270, .aload_n 0, 1), (271, .iload 13, 2), (273, .iconst 0, 1), (274, .invokevirtual 26, 3), (277, .iload 4, 2), (279, .if_icmp .ne 150, 3), (282, .aload_n 0, 1), (283, .iload 13, 2), (285, .iconst 1, 1), (286, .invokevirtual 26, 3), (289, .iload 5, 2), (291, .if_icmp .ne 138, 3), (294, .aload_n 0, 1), (295, .iload 13, 2), (297, .iconst 2, 1), (298, .invokevirtual 26, 3), (301, .iload 6, 2), (303, .if_icmp .ne 126, 3), (306, .aload_n 0, 1), (307, .iload 13, 2), (309, .iconst 3, 1), (310, .invokevirtual 26, 3), (313, .iload 7, 2), (315, .if_icmp .ne 114, 3), (318, .aload_n 0, 1), (319, .iload 13, 2), (321, .iconst 4, 1), (322, .invokevirtual 26, 3), (325, .aload_n 0, 1), (326, .iconst 0, 1), (327, .invokevirtual 13, 3), (330, .if_icmp .ne 99, 3), (333, .aload_n 0, 1), (334, .iload 13, 2), (336, .iconst 5, 1), (337, .invokevirtual 26, 3), (340, .aload_n 0, 1), (341, .iconst 0, 1), (342, .invokevirtual 13, 3), (345, .aload_n 0, 1), (346, .bipush 6, 2), (348, .invokevirtual 13, 3), (351, .iadd, 1), (352, .if_icmp .ne 77, 3)]
theorem dtL_enters_3_ok : ∀ q ∈ dtL_enters_3, decode cL_enters q.1 = .ok q.2 := by decide +kernel
theorem dL_enters_263 : decode cL_enters 263 = .ok (.ireturn, 1) := dg dtL_enters_3_ok 0 rfl
theorem dL_enters_264 : decode cL_enters 264 = .ok (.iload 13, 2) := dg dtL_enters_3_ok 1 rfl
theorem dL_enters_266 : decode cL_enters 266 = .ok (.iload_n 3, 1) := dg dtL_enters_3_ok 2 rfl
theorem dL_enters_267 : decode cL_enters 267 = .ok (.if_icmp .ne 162, 3) := dg dtL_enters_3_ok 3 rfl
theorem dL_enters_270 : decode cL_enters 270 = .ok (.aload_n 0, 1) := dg dtL_enters_3_ok 4 rfl
theorem dL_enters_271 : decode cL_enters 271 = .ok (.iload 13, 2) := dg dtL_enters_3_ok 5 rfl
theorem dL_enters_273 : decode cL_enters 273 = .ok (.iconst 0, 1) := dg dtL_enters_3_ok 6 rfl
theorem dL_enters_274 : decode cL_enters 274 = .ok (.invokevirtual 26, 3) := dg dtL_enters_3_ok 7 rfl
theorem dL_enters_277 : decode cL_enters 277 = .ok (.iload 4, 2) := dg dtL_enters_3_ok 8 rfl
theorem dL_enters_279 : decode cL_enters 279 = .ok (.if_icmp .ne 150, 3) := dg dtL_enters_3_ok 9 rfl
theorem dL_enters_282 : decode cL_enters 282 = .ok (.aload_n 0, 1) := dg dtL_enters_3_ok 10 rfl
theorem dL_enters_283 : decode cL_enters 283 = .ok (.iload 13, 2) := dg dtL_enters_3_ok 11 rfl
theorem dL_enters_285 : decode cL_enters 285 = .ok (.iconst 1, 1) := dg dtL_enters_3_ok 12 rfl
theorem dL_enters_286 : decode cL_enters 286 = .ok (.invokevirtual 26, 3) := dg dtL_enters_3_ok 13 rfl
theorem dL_enters_289 : decode cL_enters 289 = .ok (.iload 5, 2) := dg dtL_enters_3_ok 14 rfl
theorem dL_enters_291 : decode cL_enters 291 = .ok (.if_icmp .ne 138, 3) := dg dtL_enters_3_ok 15 rfl
theorem dL_enters_294 : decode cL_enters 294 = .ok (.aload_n 0, 1) := dg dtL_enters_3_ok 16 rfl
theorem dL_enters_295 : decode cL_enters 295 = .ok (.iload 13, 2) := dg dtL_enters_3_ok 17 rfl
theorem dL_enters_297 : decode cL_enters 297 = .ok (.iconst 2, 1) := dg dtL_enters_3_ok 18 rfl
theorem dL_enters_298 : decode cL_enters 298 = .ok (.invokevirtual 26, 3) := dg dtL_enters_3_ok 19 rfl
theorem dL_enters_301 : decode cL_enters 301 = .ok (.iload 6, 2) := dg dtL_enters_3_ok 20 rfl
theorem dL_enters_303 : decode cL_enters 303 = .ok (.if_icmp .ne 126, 3) := dg dtL_enters_3_ok 21 rfl
theorem dL_enters_306 : decode cL_enters 306 = .ok (.aload_n 0, 1) := dg dtL_enters_3_ok 22 rfl
theorem dL_enters_307 : decode cL_enters 307 = .ok (.iload 13, 2) := dg dtL_enters_3_ok 23 rfl
theorem dL_enters_309 : decode cL_enters 309 = .ok (.iconst 3, 1) := dg dtL_enters_3_ok 24 rfl
theorem dL_enters_310 : decode cL_enters 310 = .ok (.invokevirtual 26, 3) := dg dtL_enters_3_ok 25 rfl
theorem dL_enters_313 : decode cL_enters 313 = .ok (.iload 7, 2) := dg dtL_enters_3_ok 26 rfl
theorem dL_enters_315 : decode cL_enters 315 = .ok (.if_icmp .ne 114, 3) := dg dtL_enters_3_ok 27 rfl
theorem dL_enters_318 : decode cL_enters 318 = .ok (.aload_n 0, 1) := dg dtL_enters_3_ok 28 rfl
theorem dL_enters_319 : decode cL_enters 319 = .ok (.iload 13, 2) := dg dtL_enters_3_ok 29 rfl
theorem dL_enters_321 : decode cL_enters 321 = .ok (.iconst 4, 1) := dg dtL_enters_3_ok 30 rfl
theorem dL_enters_322 : decode cL_enters 322 = .ok (.invokevirtual 26, 3) := dg dtL_enters_3_ok 31 rfl
theorem dL_enters_325 : decode cL_enters 325 = .ok (.aload_n 0, 1) := dg dtL_enters_3_ok 32 rfl
theorem dL_enters_326 : decode cL_enters 326 = .ok (.iconst 0, 1) := dg dtL_enters_3_ok 33 rfl
theorem dL_enters_327 : decode cL_enters 327 = .ok (.invokevirtual 13, 3) := dg dtL_enters_3_ok 34 rfl
theorem dL_enters_330 : decode cL_enters 330 = .ok (.if_icmp .ne 99, 3) := dg dtL_enters_3_ok 35 rfl
theorem dL_enters_333 : decode cL_enters 333 = .ok (.aload_n 0, 1) := dg dtL_enters_3_ok 36 rfl
theorem dL_enters_334 : decode cL_enters 334 = .ok (.iload 13, 2) := dg dtL_enters_3_ok 37 rfl
theorem dL_enters_336 : decode cL_enters 336 = .ok (.iconst 5, 1) := dg dtL_enters_3_ok 38 rfl
theorem dL_enters_337 : decode cL_enters 337 = .ok (.invokevirtual 26, 3) := dg dtL_enters_3_ok 39 rfl
theorem dL_enters_340 : decode cL_enters 340 = .ok (.aload_n 0, 1) := dg dtL_enters_3_ok 40 rfl
theorem dL_enters_341 : decode cL_enters 341 = .ok (.iconst 0, 1) := dg dtL_enters_3_ok 41 rfl
theorem dL_enters_342 : decode cL_enters 342 = .ok (.invokevirtual 13, 3) := dg dtL_enters_3_ok 42 rfl
theorem dL_enters_345 : decode cL_enters 345 = .ok (.aload_n 0, 1) := dg dtL_enters_3_ok 43 rfl
theorem dL_enters_346 : decode cL_enters 346 = .ok (.bipush 6, 2) := dg dtL_enters_3_ok 44 rfl
theorem dL_enters_348 : decode cL_enters 348 = .ok (.invokevirtual 13, 3) := dg dtL_enters_3_ok 45 rfl
theorem dL_enters_351 : decode cL_enters 351 = .ok (.iadd, 1) := dg dtL_enters_3_ok 46 rfl
theorem dL_enters_352 : decode cL_enters 352 = .ok (.if_icmp .ne 77, 3) := dg dtL_enters_3_ok 47 rfl
def dtL_enters_4 : List (Nat × Instr × Nat) := [(355, .aload_n 0, 1), (356, .iload 13, 2), (358, .bipush 6, 2), (360, .invokevirtual 26, 3), (363, .iload 8, 2), (365, .if_icmp .ne 64, 3), (368, .aload_n 0, 1), (369, .iload 13, 2), (371, .bipush 7, 2), (373, .invokevirtual 26, 3), (376, .iload 6, 2), (378, .if_icmp .ne 51, 3), (381, .aload_n 0, 1), (382, .iload 4, 2), (384, .bipush 6, 2), (386, .iconst 1, 1), (387, .iconst 0, 1), (388, .invokevirtual 97, 3), (391, .ldc 40, 2), (393, .if_icmp .ne 36, 3), (396, .aload_n 0, 1), (397, .iload 4, 2), (399, .iconst 0, 1), (400, .iconst 0, 1), (401, .iconst 0, 1), (402, .invokevirtual 97, 3), (405, .ldc 37, 2), (407, .if_icmp .ne 22, 3), (410, .aload_n 0, 1), (411, .iload 4, 2), (413, .iconst 0, 1), (414, .iconst 1, 1), (415, .ldc 105, 2), (417, .invokevirtual 97, 3), (420, .ldc 37, 2), (422, .if_icmp .ne 7, 3), (425, .iconst 1, 1), (426, .goto 4, 3), (429, .iconst 0, 1), (430, .ireturn, 1)]
theorem dtL_enters_4_ok : ∀ q ∈ dtL_enters_4, decode cL_enters q.1 = .ok q.2 := by decide +kernel
theorem dL_enters_355 : decode cL_enters 355 = .ok (.aload_n 0, 1) := dg dtL_enters_4_ok 0 rfl
theorem dL_enters_356 : decode cL_enters 356 = .ok (.iload 13, 2) := dg dtL_enters_4_ok 1 rfl
theorem dL_enters_358 : decode cL_enters 358 = .ok (.bipush 6, 2) := dg dtL_enters_4_ok 2 rfl
theorem dL_enters_360 : decode cL_enters 360 = .ok (.invokevirtual 26, 3) := dg dtL_enters_4_ok 3 rfl
theorem dL_enters_363 : decode cL_enters 363 = .ok (.iload 8, 2) := dg dtL_enters_4_ok 4 rfl
theorem dL_enters_365 : decode cL_enters 365 = .ok (.if_icmp .ne 64, 3) := dg dtL_enters_4_ok 5 rfl
theorem dL_enters_368 : decode cL_enters 368 = .ok (.aload_n 0, 1) := dg dtL_enters_4_ok 6 rfl
theorem dL_enters_369 : decode cL_enters 369 = .ok (.iload 13, 2) := dg dtL_enters_4_ok 7 rfl
theorem dL_enters_371 : decode cL_enters 371 = .ok (.bipush 7, 2) := dg dtL_enters_4_ok 8 rfl
theorem dL_enters_373 : decode cL_enters 373 = .ok (.invokevirtual 26, 3) := dg dtL_enters_4_ok 9 rfl
theorem dL_enters_376 : decode cL_enters 376 = .ok (.iload 6, 2) := dg dtL_enters_4_ok 10 rfl
theorem dL_enters_378 : decode cL_enters 378 = .ok (.if_icmp .ne 51, 3) := dg dtL_enters_4_ok 11 rfl
theorem dL_enters_381 : decode cL_enters 381 = .ok (.aload_n 0, 1) := dg dtL_enters_4_ok 12 rfl
theorem dL_enters_382 : decode cL_enters 382 = .ok (.iload 4, 2) := dg dtL_enters_4_ok 13 rfl
theorem dL_enters_384 : decode cL_enters 384 = .ok (.bipush 6, 2) := dg dtL_enters_4_ok 14 rfl
theorem dL_enters_386 : decode cL_enters 386 = .ok (.iconst 1, 1) := dg dtL_enters_4_ok 15 rfl
theorem dL_enters_387 : decode cL_enters 387 = .ok (.iconst 0, 1) := dg dtL_enters_4_ok 16 rfl
theorem dL_enters_388 : decode cL_enters 388 = .ok (.invokevirtual 97, 3) := dg dtL_enters_4_ok 17 rfl
theorem dL_enters_391 : decode cL_enters 391 = .ok (.ldc 40, 2) := dg dtL_enters_4_ok 18 rfl
theorem dL_enters_393 : decode cL_enters 393 = .ok (.if_icmp .ne 36, 3) := dg dtL_enters_4_ok 19 rfl
theorem dL_enters_396 : decode cL_enters 396 = .ok (.aload_n 0, 1) := dg dtL_enters_4_ok 20 rfl
theorem dL_enters_397 : decode cL_enters 397 = .ok (.iload 4, 2) := dg dtL_enters_4_ok 21 rfl
theorem dL_enters_399 : decode cL_enters 399 = .ok (.iconst 0, 1) := dg dtL_enters_4_ok 22 rfl
theorem dL_enters_400 : decode cL_enters 400 = .ok (.iconst 0, 1) := dg dtL_enters_4_ok 23 rfl
theorem dL_enters_401 : decode cL_enters 401 = .ok (.iconst 0, 1) := dg dtL_enters_4_ok 24 rfl
theorem dL_enters_402 : decode cL_enters 402 = .ok (.invokevirtual 97, 3) := dg dtL_enters_4_ok 25 rfl
theorem dL_enters_405 : decode cL_enters 405 = .ok (.ldc 37, 2) := dg dtL_enters_4_ok 26 rfl
theorem dL_enters_407 : decode cL_enters 407 = .ok (.if_icmp .ne 22, 3) := dg dtL_enters_4_ok 27 rfl
theorem dL_enters_410 : decode cL_enters 410 = .ok (.aload_n 0, 1) := dg dtL_enters_4_ok 28 rfl
theorem dL_enters_411 : decode cL_enters 411 = .ok (.iload 4, 2) := dg dtL_enters_4_ok 29 rfl
theorem dL_enters_413 : decode cL_enters 413 = .ok (.iconst 0, 1) := dg dtL_enters_4_ok 30 rfl
theorem dL_enters_414 : decode cL_enters 414 = .ok (.iconst 1, 1) := dg dtL_enters_4_ok 31 rfl
theorem dL_enters_415 : decode cL_enters 415 = .ok (.ldc 105, 2) := dg dtL_enters_4_ok 32 rfl
theorem dL_enters_417 : decode cL_enters 417 = .ok (.invokevirtual 97, 3) := dg dtL_enters_4_ok 33 rfl
theorem dL_enters_420 : decode cL_enters 420 = .ok (.ldc 37, 2) := dg dtL_enters_4_ok 34 rfl
theorem dL_enters_422 : decode cL_enters 422 = .ok (.if_icmp .ne 7, 3) := dg dtL_enters_4_ok 35 rfl
theorem dL_enters_425 : decode cL_enters 425 = .ok (.iconst 1, 1) := dg dtL_enters_4_ok 36 rfl
theorem dL_enters_426 : decode cL_enters 426 = .ok (.goto 4, 3) := dg dtL_enters_4_ok 37 rfl
theorem dL_enters_429 : decode cL_enters 429 = .ok (.iconst 0, 1) := dg dtL_enters_4_ok 38 rfl
theorem dL_enters_430 : decode cL_enters 430 = .ok (.ireturn, 1) := dg dtL_enters_4_ok 39 rfl
def dtL_money_0 : List (Nat × Instr × Nat) := [(0, .aload_n 0, 1), (1, .iconst 1, 1), (2, .invokevirtual 13, 3), (5, .iconst 2, 1), (6, .if_icmp .lt 19, 3), (9, .iload_n 1, 1), (10, .bipush 48, 2), (12, .iand, 1), (13, .ifCond .ne 32, 3), (16, .aload_n 0, 1), (17, .iconst 1, 1), (18, .invokevirtual 13, 3), (21, .iconst 5, 1), (22, .if_icmp .ge 23, 3), (25, .aload_n 0, 1), (26, .iconst 1, 1), (27, .invokevirtual 13, 3), (30, .istore_n 3, 1), (31, .aload_n 0, 1), (32, .invokevirtual 106, 3), (35, .iload_n 3, 1), (36, .if_icmp .ne 7, 3), (39, .iconst 1, 1), (40, .goto 4, 3), (43, .iconst 0, 1), (44, .ireturn, 1), (45, .iload_n 1, 1), (46, .aload_n 0, 1), (47, .iconst 1, 1), (48, .invokevirtual 13, 3), (51, .invokestatic 45, 3), (54, .istore_n 3, 1), (55, .iload_n 2, 1), (56, .iconst 1, 1), (57, .iand, 1), (58, .ifCond .ne 103, 3), (61, .iconst 1, 1), (62, .iload_n 2, 1), (63, .iconst 1, 1), (64, .ishr, 1), (65, .ldc 109, 2), (67, .invokestatic 45, 3), (70, .iadd, 1), (71, .istore 4, 2), (73, .aload_n 0, 1), (74, .iload_n 3, 1), (75, .iconst 2, 1), (76, .invokevirtual 22, 3)]
theorem dtL_money_0_ok : ∀ q ∈ dtL_money_0, decode cL_money q.1 = .ok q.2 := by decide +kernel
theorem dL_money_0 : decode cL_money 0 = .ok (.aload_n 0, 1) := dg dtL_money_0_ok 0 rfl
theorem dL_money_1 : decode cL_money 1 = .ok (.iconst 1, 1) := dg dtL_money_0_ok 1 rfl
theorem dL_money_2 : decode cL_money 2 = .ok (.invokevirtual 13, 3) := dg dtL_money_0_ok 2 rfl
theorem dL_money_5 : decode cL_money 5 = .ok (.iconst 2, 1) := dg dtL_money_0_ok 3 rfl
theorem dL_money_6 : decode cL_money 6 = .ok (.if_icmp .lt 19, 3) := dg dtL_money_0_ok 4 rfl
theorem dL_money_9 : decode cL_money 9 = .ok (.iload_n 1, 1) := dg dtL_money_0_ok 5 rfl
theorem dL_money_10 : decode cL_money 10 = .ok (.bipush 48, 2) := dg dtL_money_0_ok 6 rfl
theorem dL_money_12 : decode cL_money 12 = .ok (.iand, 1) := dg dtL_money_0_ok 7 rfl
theorem dL_money_13 : decode cL_money 13 = .ok (.ifCond .ne 32, 3) := dg dtL_money_0_ok 8 rfl
theorem dL_money_16 : decode cL_money 16 = .ok (.aload_n 0, 1) := dg dtL_money_0_ok 9 rfl
theorem dL_money_17 : decode cL_money 17 = .ok (.iconst 1, 1) := dg dtL_money_0_ok 10 rfl
theorem dL_money_18 : decode cL_money 18 = .ok (.invokevirtual 13, 3) := dg dtL_money_0_ok 11 rfl
theorem dL_money_21 : decode cL_money 21 = .ok (.iconst 5, 1) := dg dtL_money_0_ok 12 rfl
theorem dL_money_22 : decode cL_money 22 = .ok (.if_icmp .ge 23, 3) := dg dtL_money_0_ok 13 rfl
theorem dL_money_25 : decode cL_money 25 = .ok (.aload_n 0, 1) := dg dtL_money_0_ok 14 rfl
theorem dL_money_26 : decode cL_money 26 = .ok (.iconst 1, 1) := dg dtL_money_0_ok 15 rfl
theorem dL_money_27 : decode cL_money 27 = .ok (.invokevirtual 13, 3) := dg dtL_money_0_ok 16 rfl
theorem dL_money_30 : decode cL_money 30 = .ok (.istore_n 3, 1) := dg dtL_money_0_ok 17 rfl
theorem dL_money_31 : decode cL_money 31 = .ok (.aload_n 0, 1) := dg dtL_money_0_ok 18 rfl
theorem dL_money_32 : decode cL_money 32 = .ok (.invokevirtual 106, 3) := dg dtL_money_0_ok 19 rfl
theorem dL_money_35 : decode cL_money 35 = .ok (.iload_n 3, 1) := dg dtL_money_0_ok 20 rfl
theorem dL_money_36 : decode cL_money 36 = .ok (.if_icmp .ne 7, 3) := dg dtL_money_0_ok 21 rfl
theorem dL_money_39 : decode cL_money 39 = .ok (.iconst 1, 1) := dg dtL_money_0_ok 22 rfl
theorem dL_money_40 : decode cL_money 40 = .ok (.goto 4, 3) := dg dtL_money_0_ok 23 rfl
theorem dL_money_43 : decode cL_money 43 = .ok (.iconst 0, 1) := dg dtL_money_0_ok 24 rfl
theorem dL_money_44 : decode cL_money 44 = .ok (.ireturn, 1) := dg dtL_money_0_ok 25 rfl
theorem dL_money_45 : decode cL_money 45 = .ok (.iload_n 1, 1) := dg dtL_money_0_ok 26 rfl
theorem dL_money_46 : decode cL_money 46 = .ok (.aload_n 0, 1) := dg dtL_money_0_ok 27 rfl
theorem dL_money_47 : decode cL_money 47 = .ok (.iconst 1, 1) := dg dtL_money_0_ok 28 rfl
theorem dL_money_48 : decode cL_money 48 = .ok (.invokevirtual 13, 3) := dg dtL_money_0_ok 29 rfl
theorem dL_money_51 : decode cL_money 51 = .ok (.invokestatic 45, 3) := dg dtL_money_0_ok 30 rfl
theorem dL_money_54 : decode cL_money 54 = .ok (.istore_n 3, 1) := dg dtL_money_0_ok 31 rfl
theorem dL_money_55 : decode cL_money 55 = .ok (.iload_n 2, 1) := dg dtL_money_0_ok 32 rfl
theorem dL_money_56 : decode cL_money 56 = .ok (.iconst 1, 1) := dg dtL_money_0_ok 33 rfl
theorem dL_money_57 : decode cL_money 57 = .ok (.iand, 1) := dg dtL_money_0_ok 34 rfl
theorem dL_money_58 : decode cL_money 58 = .ok (.ifCond .ne 103, 3) := dg dtL_money_0_ok 35 rfl
theorem dL_money_61 : decode cL_money 61 = .ok (.iconst 1, 1) := dg dtL_money_0_ok 36 rfl
theorem dL_money_62 : decode cL_money 62 = .ok (.iload_n 2, 1) := dg dtL_money_0_ok 37 rfl
theorem dL_money_63 : decode cL_money 63 = .ok (.iconst 1, 1) := dg dtL_money_0_ok 38 rfl
theorem dL_money_64 : decode cL_money 64 = .ok (.ishr, 1) := dg dtL_money_0_ok 39 rfl
theorem dL_money_65 : decode cL_money 65 = .ok (.ldc 109, 2) := dg dtL_money_0_ok 40 rfl
theorem dL_money_67 : decode cL_money 67 = .ok (.invokestatic 45, 3) := dg dtL_money_0_ok 41 rfl
theorem dL_money_70 : decode cL_money 70 = .ok (.iadd, 1) := dg dtL_money_0_ok 42 rfl
theorem dL_money_71 : decode cL_money 71 = .ok (.istore 4, 2) := dg dtL_money_0_ok 43 rfl
theorem dL_money_73 : decode cL_money 73 = .ok (.aload_n 0, 1) := dg dtL_money_0_ok 44 rfl
theorem dL_money_74 : decode cL_money 74 = .ok (.iload_n 3, 1) := dg dtL_money_0_ok 45 rfl
theorem dL_money_75 : decode cL_money 75 = .ok (.iconst 2, 1) := dg dtL_money_0_ok 46 rfl
theorem dL_money_76 : decode cL_money 76 = .ok (.invokevirtual 22, 3) := dg dtL_money_0_ok 47 rfl
def dtL_money_1 : List (Nat × Instr × Nat) := [(79, .lstore 5, 2), (81, .aload_n 0, 1), (82, .iload_n 3, 1), (83, .iconst 0, 1), (84, .invokevirtual 22, 3), (87, .lstore 7, 2), (89, .lload 5, 2), (91, .iload 4, 2), (93, .i2l, 1), (94, .lcmp, 1), (95, .ifCond .ge 8, 3), (98, .lload 5, 2), (100, .goto 6, 3), (103, .iload 4, 2), (105, .i2l, 1), (106, .lstore 9, 2), (108, .aload_n 0, 1), (109, .iload_n 3, 1), (110, .iload 4, 2), (112, .invokevirtual 101, 3), (115, .i2l, 1), (116, .lload 5, 2), (118, .lload 9, 2), (120, .lsub, 1), (121, .lcmp, 1), (122, .ifCond .ne 37, 3), (125, .aload_n 0, 1), (126, .iload_n 3, 1), (127, .iconst 0, 1), (128, .invokevirtual 22, 3), (131, .lload 7, 2), (133, .iload 4, 2), (135, .i2l, 1), (136, .ladd, 1), (137, .lload 9, 2), (139, .lsub, 1), (140, .lcmp, 1), (141, .ifCond .ne 18, 3), (144, .aload_n 0, 1), (145, .iload_n 3, 1), (146, .iconst 0, 1), (147, .invokevirtual 101, 3), (150, .ldc 37, 2), (152, .if_icmp .ne 7, 3), (155, .iconst 1, 1), (156, .goto 4, 3), (159, .iconst 0, 1), (160, .ireturn, 1)]
theorem dtL_money_1_ok : ∀ q ∈ dtL_money_1, decode cL_money q.1 = .ok q.2 := by decide +kernel
theorem dL_money_79 : decode cL_money 79 = .ok (.lstore 5, 2) := dg dtL_money_1_ok 0 rfl
theorem dL_money_81 : decode cL_money 81 = .ok (.aload_n 0, 1) := dg dtL_money_1_ok 1 rfl
theorem dL_money_82 : decode cL_money 82 = .ok (.iload_n 3, 1) := dg dtL_money_1_ok 2 rfl
theorem dL_money_83 : decode cL_money 83 = .ok (.iconst 0, 1) := dg dtL_money_1_ok 3 rfl
theorem dL_money_84 : decode cL_money 84 = .ok (.invokevirtual 22, 3) := dg dtL_money_1_ok 4 rfl
theorem dL_money_87 : decode cL_money 87 = .ok (.lstore 7, 2) := dg dtL_money_1_ok 5 rfl
theorem dL_money_89 : decode cL_money 89 = .ok (.lload 5, 2) := dg dtL_money_1_ok 6 rfl
theorem dL_money_91 : decode cL_money 91 = .ok (.iload 4, 2) := dg dtL_money_1_ok 7 rfl
theorem dL_money_93 : decode cL_money 93 = .ok (.i2l, 1) := dg dtL_money_1_ok 8 rfl
theorem dL_money_94 : decode cL_money 94 = .ok (.lcmp, 1) := dg dtL_money_1_ok 9 rfl
theorem dL_money_95 : decode cL_money 95 = .ok (.ifCond .ge 8, 3) := dg dtL_money_1_ok 10 rfl
theorem dL_money_98 : decode cL_money 98 = .ok (.lload 5, 2) := dg dtL_money_1_ok 11 rfl
theorem dL_money_100 : decode cL_money 100 = .ok (.goto 6, 3) := dg dtL_money_1_ok 12 rfl
theorem dL_money_103 : decode cL_money 103 = .ok (.iload 4, 2) := dg dtL_money_1_ok 13 rfl
theorem dL_money_105 : decode cL_money 105 = .ok (.i2l, 1) := dg dtL_money_1_ok 14 rfl
theorem dL_money_106 : decode cL_money 106 = .ok (.lstore 9, 2) := dg dtL_money_1_ok 15 rfl
theorem dL_money_108 : decode cL_money 108 = .ok (.aload_n 0, 1) := dg dtL_money_1_ok 16 rfl
theorem dL_money_109 : decode cL_money 109 = .ok (.iload_n 3, 1) := dg dtL_money_1_ok 17 rfl
theorem dL_money_110 : decode cL_money 110 = .ok (.iload 4, 2) := dg dtL_money_1_ok 18 rfl
theorem dL_money_112 : decode cL_money 112 = .ok (.invokevirtual 101, 3) := dg dtL_money_1_ok 19 rfl
theorem dL_money_115 : decode cL_money 115 = .ok (.i2l, 1) := dg dtL_money_1_ok 20 rfl
theorem dL_money_116 : decode cL_money 116 = .ok (.lload 5, 2) := dg dtL_money_1_ok 21 rfl
theorem dL_money_118 : decode cL_money 118 = .ok (.lload 9, 2) := dg dtL_money_1_ok 22 rfl
theorem dL_money_120 : decode cL_money 120 = .ok (.lsub, 1) := dg dtL_money_1_ok 23 rfl
theorem dL_money_121 : decode cL_money 121 = .ok (.lcmp, 1) := dg dtL_money_1_ok 24 rfl
theorem dL_money_122 : decode cL_money 122 = .ok (.ifCond .ne 37, 3) := dg dtL_money_1_ok 25 rfl
theorem dL_money_125 : decode cL_money 125 = .ok (.aload_n 0, 1) := dg dtL_money_1_ok 26 rfl
theorem dL_money_126 : decode cL_money 126 = .ok (.iload_n 3, 1) := dg dtL_money_1_ok 27 rfl
theorem dL_money_127 : decode cL_money 127 = .ok (.iconst 0, 1) := dg dtL_money_1_ok 28 rfl
theorem dL_money_128 : decode cL_money 128 = .ok (.invokevirtual 22, 3) := dg dtL_money_1_ok 29 rfl
theorem dL_money_131 : decode cL_money 131 = .ok (.lload 7, 2) := dg dtL_money_1_ok 30 rfl
theorem dL_money_133 : decode cL_money 133 = .ok (.iload 4, 2) := dg dtL_money_1_ok 31 rfl
theorem dL_money_135 : decode cL_money 135 = .ok (.i2l, 1) := dg dtL_money_1_ok 32 rfl
theorem dL_money_136 : decode cL_money 136 = .ok (.ladd, 1) := dg dtL_money_1_ok 33 rfl
theorem dL_money_137 : decode cL_money 137 = .ok (.lload 9, 2) := dg dtL_money_1_ok 34 rfl
theorem dL_money_139 : decode cL_money 139 = .ok (.lsub, 1) := dg dtL_money_1_ok 35 rfl
theorem dL_money_140 : decode cL_money 140 = .ok (.lcmp, 1) := dg dtL_money_1_ok 36 rfl
theorem dL_money_141 : decode cL_money 141 = .ok (.ifCond .ne 18, 3) := dg dtL_money_1_ok 37 rfl
theorem dL_money_144 : decode cL_money 144 = .ok (.aload_n 0, 1) := dg dtL_money_1_ok 38 rfl
theorem dL_money_145 : decode cL_money 145 = .ok (.iload_n 3, 1) := dg dtL_money_1_ok 39 rfl
theorem dL_money_146 : decode cL_money 146 = .ok (.iconst 0, 1) := dg dtL_money_1_ok 40 rfl
theorem dL_money_147 : decode cL_money 147 = .ok (.invokevirtual 101, 3) := dg dtL_money_1_ok 41 rfl
theorem dL_money_150 : decode cL_money 150 = .ok (.ldc 37, 2) := dg dtL_money_1_ok 42 rfl
theorem dL_money_152 : decode cL_money 152 = .ok (.if_icmp .ne 7, 3) := dg dtL_money_1_ok 43 rfl
theorem dL_money_155 : decode cL_money 155 = .ok (.iconst 1, 1) := dg dtL_money_1_ok 44 rfl
theorem dL_money_156 : decode cL_money 156 = .ok (.goto 4, 3) := dg dtL_money_1_ok 45 rfl
theorem dL_money_159 : decode cL_money 159 = .ok (.iconst 0, 1) := dg dtL_money_1_ok 46 rfl
theorem dL_money_160 : decode cL_money 160 = .ok (.ireturn, 1) := dg dtL_money_1_ok 47 rfl
def dtL_money_2 : List (Nat × Instr × Nat) := [(161, .iload_n 2, 1), (162, .iconst 1, 1), (163, .ishr, 1), (164, .ldc 110, 2), (166, .invokestatic 45, 3), (169, .istore 4, 2), (171, .aload_n 0, 1), (172, .iload_n 3, 1), (173, .iconst 3, 1), (174, .invokevirtual 22, 3), (177, .aload_n 0, 1), (178, .bipush 8, 2), (180, .invokevirtual 13, 3), (183, .i2l, 1), (184, .lmul, 1), (185, .ldc2_w 41, 3), (188, .ldiv, 1), (189, .iload 4, 2), (191, .i2l, 1), (192, .lcmp, 1), (193, .ifCond .gt 7, 3), (196, .iconst 1, 1), (197, .goto 4, 3), (200, .iconst 0, 1), (201, .istore 5, 2), (203, .aload_n 0, 1), (204, .iload_n 3, 1), (205, .iconst 1, 1), (206, .invokevirtual 22, 3), (209, .lstore 6, 2), (211, .aload_n 0, 1), (212, .iload_n 3, 1), (213, .iload 4, 2), (215, .invokevirtual 111, 3), (218, .istore 8, 2), (220, .iload 5, 2), (222, .ifCond .eq 33, 3), (225, .iload 8, 2), (227, .i2l, 1), (228, .lload 6, 2), (230, .lcmp, 1), (231, .ifCond .ne 20, 3), (234, .aload_n 0, 1), (235, .iload_n 3, 1), (236, .iconst 1, 1), (237, .invokevirtual 22, 3), (240, .iload 4, 2), (242, .i2l, 1)]
theorem dtL_money_2_ok : ∀ q ∈ dtL_money_2, decode cL_money q.1 = .ok q.2 := by decide +kernel
theorem dL_money_161 : decode cL_money 161 = .ok (.iload_n 2, 1) := dg dtL_money_2_ok 0 rfl
theorem dL_money_162 : decode cL_money 162 = .ok (.iconst 1, 1) := dg dtL_money_2_ok 1 rfl
theorem dL_money_163 : decode cL_money 163 = .ok (.ishr, 1) := dg dtL_money_2_ok 2 rfl
theorem dL_money_164 : decode cL_money 164 = .ok (.ldc 110, 2) := dg dtL_money_2_ok 3 rfl
theorem dL_money_166 : decode cL_money 166 = .ok (.invokestatic 45, 3) := dg dtL_money_2_ok 4 rfl
theorem dL_money_169 : decode cL_money 169 = .ok (.istore 4, 2) := dg dtL_money_2_ok 5 rfl
theorem dL_money_171 : decode cL_money 171 = .ok (.aload_n 0, 1) := dg dtL_money_2_ok 6 rfl
theorem dL_money_172 : decode cL_money 172 = .ok (.iload_n 3, 1) := dg dtL_money_2_ok 7 rfl
theorem dL_money_173 : decode cL_money 173 = .ok (.iconst 3, 1) := dg dtL_money_2_ok 8 rfl
theorem dL_money_174 : decode cL_money 174 = .ok (.invokevirtual 22, 3) := dg dtL_money_2_ok 9 rfl
theorem dL_money_177 : decode cL_money 177 = .ok (.aload_n 0, 1) := dg dtL_money_2_ok 10 rfl
theorem dL_money_178 : decode cL_money 178 = .ok (.bipush 8, 2) := dg dtL_money_2_ok 11 rfl
theorem dL_money_180 : decode cL_money 180 = .ok (.invokevirtual 13, 3) := dg dtL_money_2_ok 12 rfl
theorem dL_money_183 : decode cL_money 183 = .ok (.i2l, 1) := dg dtL_money_2_ok 13 rfl
theorem dL_money_184 : decode cL_money 184 = .ok (.lmul, 1) := dg dtL_money_2_ok 14 rfl
theorem dL_money_185 : decode cL_money 185 = .ok (.ldc2_w 41, 3) := dg dtL_money_2_ok 15 rfl
theorem dL_money_188 : decode cL_money 188 = .ok (.ldiv, 1) := dg dtL_money_2_ok 16 rfl
theorem dL_money_189 : decode cL_money 189 = .ok (.iload 4, 2) := dg dtL_money_2_ok 17 rfl
theorem dL_money_191 : decode cL_money 191 = .ok (.i2l, 1) := dg dtL_money_2_ok 18 rfl
theorem dL_money_192 : decode cL_money 192 = .ok (.lcmp, 1) := dg dtL_money_2_ok 19 rfl
theorem dL_money_193 : decode cL_money 193 = .ok (.ifCond .gt 7, 3) := dg dtL_money_2_ok 20 rfl
theorem dL_money_196 : decode cL_money 196 = .ok (.iconst 1, 1) := dg dtL_money_2_ok 21 rfl
theorem dL_money_197 : decode cL_money 197 = .ok (.goto 4, 3) := dg dtL_money_2_ok 22 rfl
theorem dL_money_200 : decode cL_money 200 = .ok (.iconst 0, 1) := dg dtL_money_2_ok 23 rfl
theorem dL_money_201 : decode cL_money 201 = .ok (.istore 5, 2) := dg dtL_money_2_ok 24 rfl
theorem dL_money_203 : decode cL_money 203 = .ok (.aload_n 0, 1) := dg dtL_money_2_ok 25 rfl
theorem dL_money_204 : decode cL_money 204 = .ok (.iload_n 3, 1) := dg dtL_money_2_ok 26 rfl
theorem dL_money_205 : decode cL_money 205 = .ok (.iconst 1, 1) := dg dtL_money_2_ok 27 rfl
theorem dL_money_206 : decode cL_money 206 = .ok (.invokevirtual 22, 3) := dg dtL_money_2_ok 28 rfl
theorem dL_money_209 : decode cL_money 209 = .ok (.lstore 6, 2) := dg dtL_money_2_ok 29 rfl
theorem dL_money_211 : decode cL_money 211 = .ok (.aload_n 0, 1) := dg dtL_money_2_ok 30 rfl
theorem dL_money_212 : decode cL_money 212 = .ok (.iload_n 3, 1) := dg dtL_money_2_ok 31 rfl
theorem dL_money_213 : decode cL_money 213 = .ok (.iload 4, 2) := dg dtL_money_2_ok 32 rfl
theorem dL_money_215 : decode cL_money 215 = .ok (.invokevirtual 111, 3) := dg dtL_money_2_ok 33 rfl
theorem dL_money_218 : decode cL_money 218 = .ok (.istore 8, 2) := dg dtL_money_2_ok 34 rfl
theorem dL_money_220 : decode cL_money 220 = .ok (.iload 5, 2) := dg dtL_money_2_ok 35 rfl
theorem dL_money_222 : decode cL_money 222 = .ok (.ifCond .eq 33, 3) := dg dtL_money_2_ok 36 rfl
theorem dL_money_225 : decode cL_money 225 = .ok (.iload 8, 2) := dg dtL_money_2_ok 37 rfl
theorem dL_money_227 : decode cL_money 227 = .ok (.i2l, 1) := dg dtL_money_2_ok 38 rfl
theorem dL_money_228 : decode cL_money 228 = .ok (.lload 6, 2) := dg dtL_money_2_ok 39 rfl
theorem dL_money_230 : decode cL_money 230 = .ok (.lcmp, 1) := dg dtL_money_2_ok 40 rfl
theorem dL_money_231 : decode cL_money 231 = .ok (.ifCond .ne 20, 3) := dg dtL_money_2_ok 41 rfl
theorem dL_money_234 : decode cL_money 234 = .ok (.aload_n 0, 1) := dg dtL_money_2_ok 42 rfl
theorem dL_money_235 : decode cL_money 235 = .ok (.iload_n 3, 1) := dg dtL_money_2_ok 43 rfl
theorem dL_money_236 : decode cL_money 236 = .ok (.iconst 1, 1) := dg dtL_money_2_ok 44 rfl
theorem dL_money_237 : decode cL_money 237 = .ok (.invokevirtual 22, 3) := dg dtL_money_2_ok 45 rfl
theorem dL_money_240 : decode cL_money 240 = .ok (.iload 4, 2) := dg dtL_money_2_ok 46 rfl
theorem dL_money_242 : decode cL_money 242 = .ok (.i2l, 1) := dg dtL_money_2_ok 47 rfl
def dtL_money_3 : List (Nat × Instr × Nat) := [(243, .lcmp, 1), (244, .ifCond .ne 7, 3), (247, .iconst 1, 1), (248, .goto 41, 3), (251, .iconst 0, 1), (252, .goto 37, 3), (255, .iload 8, 2), (257, .ldc 96, 2), (259, .if_icmp .ne 29, 3), (262, .aload_n 0, 1), (263, .bipush 11, 2), (265, .invokevirtual 13, 3), (268, .iconst 2, 1), (269, .if_icmp .ne 19, 3), (272, .aload_n 0, 1), (273, .iload_n 3, 1), (274, .iconst 1, 1), (275, .invokevirtual 22, 3), (278, .lload 6, 2), (280, .lcmp, 1), (281, .ifCond .ne 7, 3), (284, .iconst 1, 1), (285, .goto 4, 3), (288, .iconst 0, 1), (289, .ireturn, 1)]
theorem dtL_money_3_ok : ∀ q ∈ dtL_money_3, decode cL_money q.1 = .ok q.2 := by decide +kernel
theorem dL_money_243 : decode cL_money 243 = .ok (.lcmp, 1) := dg dtL_money_3_ok 0 rfl
theorem dL_money_244 : decode cL_money 244 = .ok (.ifCond .ne 7, 3) := dg dtL_money_3_ok 1 rfl
theorem dL_money_247 : decode cL_money 247 = .ok (.iconst 1, 1) := dg dtL_money_3_ok 2 rfl
theorem dL_money_248 : decode cL_money 248 = .ok (.goto 41, 3) := dg dtL_money_3_ok 3 rfl
theorem dL_money_251 : decode cL_money 251 = .ok (.iconst 0, 1) := dg dtL_money_3_ok 4 rfl
theorem dL_money_252 : decode cL_money 252 = .ok (.goto 37, 3) := dg dtL_money_3_ok 5 rfl
theorem dL_money_255 : decode cL_money 255 = .ok (.iload 8, 2) := dg dtL_money_3_ok 6 rfl
theorem dL_money_257 : decode cL_money 257 = .ok (.ldc 96, 2) := dg dtL_money_3_ok 7 rfl
theorem dL_money_259 : decode cL_money 259 = .ok (.if_icmp .ne 29, 3) := dg dtL_money_3_ok 8 rfl
theorem dL_money_262 : decode cL_money 262 = .ok (.aload_n 0, 1) := dg dtL_money_3_ok 9 rfl
theorem dL_money_263 : decode cL_money 263 = .ok (.bipush 11, 2) := dg dtL_money_3_ok 10 rfl
theorem dL_money_265 : decode cL_money 265 = .ok (.invokevirtual 13, 3) := dg dtL_money_3_ok 11 rfl
theorem dL_money_268 : decode cL_money 268 = .ok (.iconst 2, 1) := dg dtL_money_3_ok 12 rfl
theorem dL_money_269 : decode cL_money 269 = .ok (.if_icmp .ne 19, 3) := dg dtL_money_3_ok 13 rfl
theorem dL_money_272 : decode cL_money 272 = .ok (.aload_n 0, 1) := dg dtL_money_3_ok 14 rfl
theorem dL_money_273 : decode cL_money 273 = .ok (.iload_n 3, 1) := dg dtL_money_3_ok 15 rfl
theorem dL_money_274 : decode cL_money 274 = .ok (.iconst 1, 1) := dg dtL_money_3_ok 16 rfl
theorem dL_money_275 : decode cL_money 275 = .ok (.invokevirtual 22, 3) := dg dtL_money_3_ok 17 rfl
theorem dL_money_278 : decode cL_money 278 = .ok (.lload 6, 2) := dg dtL_money_3_ok 18 rfl
theorem dL_money_280 : decode cL_money 280 = .ok (.lcmp, 1) := dg dtL_money_3_ok 19 rfl
theorem dL_money_281 : decode cL_money 281 = .ok (.ifCond .ne 7, 3) := dg dtL_money_3_ok 20 rfl
theorem dL_money_284 : decode cL_money 284 = .ok (.iconst 1, 1) := dg dtL_money_3_ok 21 rfl
theorem dL_money_285 : decode cL_money 285 = .ok (.goto 4, 3) := dg dtL_money_3_ok 22 rfl
theorem dL_money_288 : decode cL_money 288 = .ok (.iconst 0, 1) := dg dtL_money_3_ok 23 rfl
theorem dL_money_289 : decode cL_money 289 = .ok (.ireturn, 1) := dg dtL_money_3_ok 24 rfl
def dtL_digits_0 : List (Nat × Instr × Nat) := [(0, .iconst 1, 1), (1, .istore_n 2, 1), (2, .iconst 0, 1), (3, .istore_n 3, 1), (4, .iload_n 2, 1), (5, .iload_n 1, 1), (6, .bipush 10, 2), (8, .idiv, 1), (9, .if_icmp .gt 11, 3), (12, .iload_n 2, 1), (13, .bipush 10, 2), (15, .imul, 1), (16, .istore_n 2, 1), (17, .goto (-13), 3), (20, .iload_n 2, 1), (21, .istore 4, 2), (23, .iload 4, 2), (25, .ifCond .le 29, 3), (28, .aload_n 0, 1), (29, .bipush 48, 2), (31, .iload_n 1, 1), (32, .iload 4, 2), (34, .idiv, 1), (35, .bipush 10, 2), (37, .irem, 1), (38, .iadd, 1), (39, .i2c, 1), (40, .invokevirtual 114, 3), (43, .istore_n 3, 1), (44, .iload 4, 2), (46, .bipush 10, 2), (48, .idiv, 1), (49, .istore 4, 2), (51, .goto (-28), 3), (54, .iload_n 3, 1), (55, .ireturn, 1)]
theorem dtL_digits_0_ok : ∀ q ∈ dtL_digits_0, decode cL_digits q.1 = .ok q.2 := by decide +kernel
theorem dL_digits_0 : decode cL_digits 0 = .ok (.iconst 1, 1) := dg dtL_digits_0_ok 0 rfl
theorem dL_digits_1 : decode cL_digits 1 = .ok (.istore_n 2, 1) := dg dtL_digits_0_ok 1 rfl
theorem dL_digits_2 : decode cL_digits 2 = .ok (.iconst 0, 1) := dg dtL_digits_0_ok 2 rfl
theorem dL_digits_3 : decode cL_digits 3 = .ok (.istore_n 3, 1) := dg dtL_digits_0_ok 3 rfl
theorem dL_digits_4 : decode cL_digits 4 = .ok (.iload_n 2, 1) := dg dtL_digits_0_ok 4 rfl
theorem dL_digits_5 : decode cL_digits 5 = .ok (.iload_n 1, 1) := dg dtL_digits_0_ok 5 rfl
theorem dL_digits_6 : decode cL_digits 6 = .ok (.bipush 10, 2) := dg dtL_digits_0_ok 6 rfl
theorem dL_digits_8 : decode cL_digits 8 = .ok (.idiv, 1) := dg dtL_digits_0_ok 7 rfl
theorem dL_digits_9 : decode cL_digits 9 = .ok (.if_icmp .gt 11, 3) := dg dtL_digits_0_ok 8 rfl
theorem dL_digits_12 : decode cL_digits 12 = .ok (.iload_n 2, 1) := dg dtL_digits_0_ok 9 rfl
theorem dL_digits_13 : decode cL_digits 13 = .ok (.bipush 10, 2) := dg dtL_digits_0_ok 10 rfl
theorem dL_digits_15 : decode cL_digits 15 = .ok (.imul, 1) := dg dtL_digits_0_ok 11 rfl
theorem dL_digits_16 : decode cL_digits 16 = .ok (.istore_n 2, 1) := dg dtL_digits_0_ok 12 rfl
theorem dL_digits_17 : decode cL_digits 17 = .ok (.goto (-13), 3) := dg dtL_digits_0_ok 13 rfl
theorem dL_digits_20 : decode cL_digits 20 = .ok (.iload_n 2, 1) := dg dtL_digits_0_ok 14 rfl
theorem dL_digits_21 : decode cL_digits 21 = .ok (.istore 4, 2) := dg dtL_digits_0_ok 15 rfl
theorem dL_digits_23 : decode cL_digits 23 = .ok (.iload 4, 2) := dg dtL_digits_0_ok 16 rfl
theorem dL_digits_25 : decode cL_digits 25 = .ok (.ifCond .le 29, 3) := dg dtL_digits_0_ok 17 rfl
theorem dL_digits_28 : decode cL_digits 28 = .ok (.aload_n 0, 1) := dg dtL_digits_0_ok 18 rfl
theorem dL_digits_29 : decode cL_digits 29 = .ok (.bipush 48, 2) := dg dtL_digits_0_ok 19 rfl
theorem dL_digits_31 : decode cL_digits 31 = .ok (.iload_n 1, 1) := dg dtL_digits_0_ok 20 rfl
theorem dL_digits_32 : decode cL_digits 32 = .ok (.iload 4, 2) := dg dtL_digits_0_ok 21 rfl
theorem dL_digits_34 : decode cL_digits 34 = .ok (.idiv, 1) := dg dtL_digits_0_ok 22 rfl
theorem dL_digits_35 : decode cL_digits 35 = .ok (.bipush 10, 2) := dg dtL_digits_0_ok 23 rfl
theorem dL_digits_37 : decode cL_digits 37 = .ok (.irem, 1) := dg dtL_digits_0_ok 24 rfl
theorem dL_digits_38 : decode cL_digits 38 = .ok (.iadd, 1) := dg dtL_digits_0_ok 25 rfl
theorem dL_digits_39 : decode cL_digits 39 = .ok (.i2c, 1) := dg dtL_digits_0_ok 26 rfl
theorem dL_digits_40 : decode cL_digits 40 = .ok (.invokevirtual 114, 3) := dg dtL_digits_0_ok 27 rfl
theorem dL_digits_43 : decode cL_digits 43 = .ok (.istore_n 3, 1) := dg dtL_digits_0_ok 28 rfl
theorem dL_digits_44 : decode cL_digits 44 = .ok (.iload 4, 2) := dg dtL_digits_0_ok 29 rfl
theorem dL_digits_46 : decode cL_digits 46 = .ok (.bipush 10, 2) := dg dtL_digits_0_ok 30 rfl
theorem dL_digits_48 : decode cL_digits 48 = .ok (.idiv, 1) := dg dtL_digits_0_ok 31 rfl
theorem dL_digits_49 : decode cL_digits 49 = .ok (.istore 4, 2) := dg dtL_digits_0_ok 32 rfl
theorem dL_digits_51 : decode cL_digits 51 = .ok (.goto (-28), 3) := dg dtL_digits_0_ok 33 rfl
theorem dL_digits_54 : decode cL_digits 54 = .ok (.iload_n 3, 1) := dg dtL_digits_0_ok 34 rfl
theorem dL_digits_55 : decode cL_digits 55 = .ok (.ireturn, 1) := dg dtL_digits_0_ok 35 rfl
def dtL_orders_0 : List (Nat × Instr × Nat) := [(0, .iload_n 1, 1), (1, .bipush 30, 2), (3, .invokestatic 45, 3), (6, .istore_n 3, 1), (7, .iload_n 1, 1), (8, .iconst 5, 1), (9, .ishr, 1), (10, .iconst 5, 1), (11, .invokestatic 45, 3), (14, .istore 4, 2), (16, .iconst 1, 1), (17, .iload_n 2, 1), (18, .bipush 60, 2), (20, .invokestatic 45, 3), (23, .iadd, 1), (24, .istore 5, 2), (26, .iload_n 2, 1), (27, .iconst 1, 1), (28, .iand, 1), (29, .ifCond .ne 7, 3), (32, .iconst 1, 1), (33, .goto 4, 3), (36, .iconst 0, 1), (37, .istore 6, 2), (39, .aload_n 0, 1), (40, .invokevirtual 118, 3), (43, .pop, 1), (44, .aload_n 0, 1), (45, .invokevirtual 121, 3), (48, .bipush (-100), 2), (50, .if_icmp .eq 5, 3), (53, .iconst 0, 1), (54, .ireturn, 1), (55, .aload_n 0, 1), (56, .iload 6, 2), (58, .ifCond .eq 8, 3), (61, .bipush 103, 2), (63, .goto 5, 3), (66, .bipush 112, 2), (68, .invokevirtual 114, 3), (71, .pop, 1), (72, .aload_n 0, 1), (73, .iload 6, 2), (75, .ifCond .eq 8, 3), (78, .bipush 105, 2), (80, .goto 5, 3), (83, .bipush 114, 2), (85, .invokevirtual 114, 3)]
theorem dtL_orders_0_ok : ∀ q ∈ dtL_orders_0, decode cL_orders q.1 = .ok q.2 := by decide +kernel
theorem dL_orders_0 : decode cL_orders 0 = .ok (.iload_n 1, 1) := dg dtL_orders_0_ok 0 rfl
theorem dL_orders_1 : decode cL_orders 1 = .ok (.bipush 30, 2) := dg dtL_orders_0_ok 1 rfl
theorem dL_orders_3 : decode cL_orders 3 = .ok (.invokestatic 45, 3) := dg dtL_orders_0_ok 2 rfl
theorem dL_orders_6 : decode cL_orders 6 = .ok (.istore_n 3, 1) := dg dtL_orders_0_ok 3 rfl
theorem dL_orders_7 : decode cL_orders 7 = .ok (.iload_n 1, 1) := dg dtL_orders_0_ok 4 rfl
theorem dL_orders_8 : decode cL_orders 8 = .ok (.iconst 5, 1) := dg dtL_orders_0_ok 5 rfl
theorem dL_orders_9 : decode cL_orders 9 = .ok (.ishr, 1) := dg dtL_orders_0_ok 6 rfl
theorem dL_orders_10 : decode cL_orders 10 = .ok (.iconst 5, 1) := dg dtL_orders_0_ok 7 rfl
theorem dL_orders_11 : decode cL_orders 11 = .ok (.invokestatic 45, 3) := dg dtL_orders_0_ok 8 rfl
theorem dL_orders_14 : decode cL_orders 14 = .ok (.istore 4, 2) := dg dtL_orders_0_ok 9 rfl
theorem dL_orders_16 : decode cL_orders 16 = .ok (.iconst 1, 1) := dg dtL_orders_0_ok 10 rfl
theorem dL_orders_17 : decode cL_orders 17 = .ok (.iload_n 2, 1) := dg dtL_orders_0_ok 11 rfl
theorem dL_orders_18 : decode cL_orders 18 = .ok (.bipush 60, 2) := dg dtL_orders_0_ok 12 rfl
theorem dL_orders_20 : decode cL_orders 20 = .ok (.invokestatic 45, 3) := dg dtL_orders_0_ok 13 rfl
theorem dL_orders_23 : decode cL_orders 23 = .ok (.iadd, 1) := dg dtL_orders_0_ok 14 rfl
theorem dL_orders_24 : decode cL_orders 24 = .ok (.istore 5, 2) := dg dtL_orders_0_ok 15 rfl
theorem dL_orders_26 : decode cL_orders 26 = .ok (.iload_n 2, 1) := dg dtL_orders_0_ok 16 rfl
theorem dL_orders_27 : decode cL_orders 27 = .ok (.iconst 1, 1) := dg dtL_orders_0_ok 17 rfl
theorem dL_orders_28 : decode cL_orders 28 = .ok (.iand, 1) := dg dtL_orders_0_ok 18 rfl
theorem dL_orders_29 : decode cL_orders 29 = .ok (.ifCond .ne 7, 3) := dg dtL_orders_0_ok 19 rfl
theorem dL_orders_32 : decode cL_orders 32 = .ok (.iconst 1, 1) := dg dtL_orders_0_ok 20 rfl
theorem dL_orders_33 : decode cL_orders 33 = .ok (.goto 4, 3) := dg dtL_orders_0_ok 21 rfl
theorem dL_orders_36 : decode cL_orders 36 = .ok (.iconst 0, 1) := dg dtL_orders_0_ok 22 rfl
theorem dL_orders_37 : decode cL_orders 37 = .ok (.istore 6, 2) := dg dtL_orders_0_ok 23 rfl
theorem dL_orders_39 : decode cL_orders 39 = .ok (.aload_n 0, 1) := dg dtL_orders_0_ok 24 rfl
theorem dL_orders_40 : decode cL_orders 40 = .ok (.invokevirtual 118, 3) := dg dtL_orders_0_ok 25 rfl
theorem dL_orders_43 : decode cL_orders 43 = .ok (.pop, 1) := dg dtL_orders_0_ok 26 rfl
theorem dL_orders_44 : decode cL_orders 44 = .ok (.aload_n 0, 1) := dg dtL_orders_0_ok 27 rfl
theorem dL_orders_45 : decode cL_orders 45 = .ok (.invokevirtual 121, 3) := dg dtL_orders_0_ok 28 rfl
theorem dL_orders_48 : decode cL_orders 48 = .ok (.bipush (-100), 2) := dg dtL_orders_0_ok 29 rfl
theorem dL_orders_50 : decode cL_orders 50 = .ok (.if_icmp .eq 5, 3) := dg dtL_orders_0_ok 30 rfl
theorem dL_orders_53 : decode cL_orders 53 = .ok (.iconst 0, 1) := dg dtL_orders_0_ok 31 rfl
theorem dL_orders_54 : decode cL_orders 54 = .ok (.ireturn, 1) := dg dtL_orders_0_ok 32 rfl
theorem dL_orders_55 : decode cL_orders 55 = .ok (.aload_n 0, 1) := dg dtL_orders_0_ok 33 rfl
theorem dL_orders_56 : decode cL_orders 56 = .ok (.iload 6, 2) := dg dtL_orders_0_ok 34 rfl
theorem dL_orders_58 : decode cL_orders 58 = .ok (.ifCond .eq 8, 3) := dg dtL_orders_0_ok 35 rfl
theorem dL_orders_61 : decode cL_orders 61 = .ok (.bipush 103, 2) := dg dtL_orders_0_ok 36 rfl
theorem dL_orders_63 : decode cL_orders 63 = .ok (.goto 5, 3) := dg dtL_orders_0_ok 37 rfl
theorem dL_orders_66 : decode cL_orders 66 = .ok (.bipush 112, 2) := dg dtL_orders_0_ok 38 rfl
theorem dL_orders_68 : decode cL_orders 68 = .ok (.invokevirtual 114, 3) := dg dtL_orders_0_ok 39 rfl
theorem dL_orders_71 : decode cL_orders 71 = .ok (.pop, 1) := dg dtL_orders_0_ok 40 rfl
theorem dL_orders_72 : decode cL_orders 72 = .ok (.aload_n 0, 1) := dg dtL_orders_0_ok 41 rfl
theorem dL_orders_73 : decode cL_orders 73 = .ok (.iload 6, 2) := dg dtL_orders_0_ok 42 rfl
theorem dL_orders_75 : decode cL_orders 75 = .ok (.ifCond .eq 8, 3) := dg dtL_orders_0_ok 43 rfl
theorem dL_orders_78 : decode cL_orders 78 = .ok (.bipush 105, 2) := dg dtL_orders_0_ok 44 rfl
theorem dL_orders_80 : decode cL_orders 80 = .ok (.goto 5, 3) := dg dtL_orders_0_ok 45 rfl
theorem dL_orders_83 : decode cL_orders 83 = .ok (.bipush 114, 2) := dg dtL_orders_0_ok 46 rfl
theorem dL_orders_85 : decode cL_orders 85 = .ok (.invokevirtual 114, 3) := dg dtL_orders_0_ok 47 rfl
def dtL_orders_1 : List (Nat × Instr × Nat) := [(88, .pop, 1), (89, .aload_n 0, 1), (90, .iload 6, 2), (92, .ifCond .eq 8, 3), (95, .bipush 118, 2), (97, .goto 5, 3), (100, .bipush 111, 2), (102, .invokevirtual 114, 3), (105, .pop, 1), (106, .aload_n 0, 1), (107, .iload 6, 2), (109, .ifCond .eq 8, 3), (112, .bipush 101, 2), (114, .goto 5, 3), (117, .bipush 118, 2), (119, .invokevirtual 114, 3), (122, .pop, 1), (123, .iload 6, 2), (125, .ifCond .ne 10, 3), (128, .aload_n 0, 1), (129, .bipush 101, 2), (131, .invokevirtual 114, 3), (134, .pop, 1), (135, .aload_n 0, 1), (136, .bipush 32, 2), (138, .invokevirtual 114, 3), (141, .istore 7, 2), (143, .aload_n 0, 1), (144, .invokevirtual 121, 3), (147, .bipush (-100), 2), (149, .iload 7, 2), (151, .isub, 1), (152, .if_icmp .eq 5, 3), (155, .iconst 0, 1), (156, .ireturn, 1), (157, .aload_n 0, 1), (158, .iload_n 3, 1), (159, .invokestatic 124, 3), (162, .pop, 1), (163, .iload 6, 2), (165, .ifCond .eq 17, 3), (168, .aload_n 0, 1), (169, .bipush 32, 2), (171, .invokevirtual 114, 3), (174, .pop, 1), (175, .aload_n 0, 1), (176, .iload 4, 2), (178, .invokestatic 124, 3)]
theorem dtL_orders_1_ok : ∀ q ∈ dtL_orders_1, decode cL_orders q.1 = .ok q.2 := by decide +kernel
theorem dL_orders_88 : decode cL_orders 88 = .ok (.pop, 1) := dg dtL_orders_1_ok 0 rfl
theorem dL_orders_89 : decode cL_orders 89 = .ok (.aload_n 0, 1) := dg dtL_orders_1_ok 1 rfl
theorem dL_orders_90 : decode cL_orders 90 = .ok (.iload 6, 2) := dg dtL_orders_1_ok 2 rfl
theorem dL_orders_92 : decode cL_orders 92 = .ok (.ifCond .eq 8, 3) := dg dtL_orders_1_ok 3 rfl
theorem dL_orders_95 : decode cL_orders 95 = .ok (.bipush 118, 2) := dg dtL_orders_1_ok 4 rfl
theorem dL_orders_97 : decode cL_orders 97 = .ok (.goto 5, 3) := dg dtL_orders_1_ok 5 rfl
theorem dL_orders_100 : decode cL_orders 100 = .ok (.bipush 111, 2) := dg dtL_orders_1_ok 6 rfl
theorem dL_orders_102 : decode cL_orders 102 = .ok (.invokevirtual 114, 3) := dg dtL_orders_1_ok 7 rfl
theorem dL_orders_105 : decode cL_orders 105 = .ok (.pop, 1) := dg dtL_orders_1_ok 8 rfl
theorem dL_orders_106 : decode cL_orders 106 = .ok (.aload_n 0, 1) := dg dtL_orders_1_ok 9 rfl
theorem dL_orders_107 : decode cL_orders 107 = .ok (.iload 6, 2) := dg dtL_orders_1_ok 10 rfl
theorem dL_orders_109 : decode cL_orders 109 = .ok (.ifCond .eq 8, 3) := dg dtL_orders_1_ok 11 rfl
theorem dL_orders_112 : decode cL_orders 112 = .ok (.bipush 101, 2) := dg dtL_orders_1_ok 12 rfl
theorem dL_orders_114 : decode cL_orders 114 = .ok (.goto 5, 3) := dg dtL_orders_1_ok 13 rfl
theorem dL_orders_117 : decode cL_orders 117 = .ok (.bipush 118, 2) := dg dtL_orders_1_ok 14 rfl
theorem dL_orders_119 : decode cL_orders 119 = .ok (.invokevirtual 114, 3) := dg dtL_orders_1_ok 15 rfl
theorem dL_orders_122 : decode cL_orders 122 = .ok (.pop, 1) := dg dtL_orders_1_ok 16 rfl
theorem dL_orders_123 : decode cL_orders 123 = .ok (.iload 6, 2) := dg dtL_orders_1_ok 17 rfl
theorem dL_orders_125 : decode cL_orders 125 = .ok (.ifCond .ne 10, 3) := dg dtL_orders_1_ok 18 rfl
theorem dL_orders_128 : decode cL_orders 128 = .ok (.aload_n 0, 1) := dg dtL_orders_1_ok 19 rfl
theorem dL_orders_129 : decode cL_orders 129 = .ok (.bipush 101, 2) := dg dtL_orders_1_ok 20 rfl
theorem dL_orders_131 : decode cL_orders 131 = .ok (.invokevirtual 114, 3) := dg dtL_orders_1_ok 21 rfl
theorem dL_orders_134 : decode cL_orders 134 = .ok (.pop, 1) := dg dtL_orders_1_ok 22 rfl
theorem dL_orders_135 : decode cL_orders 135 = .ok (.aload_n 0, 1) := dg dtL_orders_1_ok 23 rfl
theorem dL_orders_136 : decode cL_orders 136 = .ok (.bipush 32, 2) := dg dtL_orders_1_ok 24 rfl
theorem dL_orders_138 : decode cL_orders 138 = .ok (.invokevirtual 114, 3) := dg dtL_orders_1_ok 25 rfl
theorem dL_orders_141 : decode cL_orders 141 = .ok (.istore 7, 2) := dg dtL_orders_1_ok 26 rfl
theorem dL_orders_143 : decode cL_orders 143 = .ok (.aload_n 0, 1) := dg dtL_orders_1_ok 27 rfl
theorem dL_orders_144 : decode cL_orders 144 = .ok (.invokevirtual 121, 3) := dg dtL_orders_1_ok 28 rfl
theorem dL_orders_147 : decode cL_orders 147 = .ok (.bipush (-100), 2) := dg dtL_orders_1_ok 29 rfl
theorem dL_orders_149 : decode cL_orders 149 = .ok (.iload 7, 2) := dg dtL_orders_1_ok 30 rfl
theorem dL_orders_151 : decode cL_orders 151 = .ok (.isub, 1) := dg dtL_orders_1_ok 31 rfl
theorem dL_orders_152 : decode cL_orders 152 = .ok (.if_icmp .eq 5, 3) := dg dtL_orders_1_ok 32 rfl
theorem dL_orders_155 : decode cL_orders 155 = .ok (.iconst 0, 1) := dg dtL_orders_1_ok 33 rfl
theorem dL_orders_156 : decode cL_orders 156 = .ok (.ireturn, 1) := dg dtL_orders_1_ok 34 rfl
theorem dL_orders_157 : decode cL_orders 157 = .ok (.aload_n 0, 1) := dg dtL_orders_1_ok 35 rfl
theorem dL_orders_158 : decode cL_orders 158 = .ok (.iload_n 3, 1) := dg dtL_orders_1_ok 36 rfl
theorem dL_orders_159 : decode cL_orders 159 = .ok (.invokestatic 124, 3) := dg dtL_orders_1_ok 37 rfl
theorem dL_orders_162 : decode cL_orders 162 = .ok (.pop, 1) := dg dtL_orders_1_ok 38 rfl
theorem dL_orders_163 : decode cL_orders 163 = .ok (.iload 6, 2) := dg dtL_orders_1_ok 39 rfl
theorem dL_orders_165 : decode cL_orders 165 = .ok (.ifCond .eq 17, 3) := dg dtL_orders_1_ok 40 rfl
theorem dL_orders_168 : decode cL_orders 168 = .ok (.aload_n 0, 1) := dg dtL_orders_1_ok 41 rfl
theorem dL_orders_169 : decode cL_orders 169 = .ok (.bipush 32, 2) := dg dtL_orders_1_ok 42 rfl
theorem dL_orders_171 : decode cL_orders 171 = .ok (.invokevirtual 114, 3) := dg dtL_orders_1_ok 43 rfl
theorem dL_orders_174 : decode cL_orders 174 = .ok (.pop, 1) := dg dtL_orders_1_ok 44 rfl
theorem dL_orders_175 : decode cL_orders 175 = .ok (.aload_n 0, 1) := dg dtL_orders_1_ok 45 rfl
theorem dL_orders_176 : decode cL_orders 176 = .ok (.iload 4, 2) := dg dtL_orders_1_ok 46 rfl
theorem dL_orders_178 : decode cL_orders 178 = .ok (.invokestatic 124, 3) := dg dtL_orders_1_ok 47 rfl
def dtL_orders_2 : List (Nat × Instr × Nat) := [(181, .pop, 1), (182, .aload_n 0, 1), (183, .bipush 59, 2), (185, .invokevirtual 114, 3), (188, .istore 7, 2), (190, .aload_n 0, 1), (191, .invokevirtual 121, 3), (194, .bipush (-100), 2), (196, .iload 7, 2), (198, .isub, 1), (199, .if_icmp .eq 5, 3), (202, .iconst 0, 1), (203, .ireturn, 1), (204, .aload_n 0, 1), (205, .bipush 100, 2), (207, .invokevirtual 114, 3), (210, .pop, 1), (211, .aload_n 0, 1), (212, .bipush 97, 2), (214, .invokevirtual 114, 3), (217, .pop, 1), (218, .aload_n 0, 1), (219, .bipush 121, 2), (221, .invokevirtual 114, 3), (224, .pop, 1), (225, .aload_n 0, 1), (226, .bipush 115, 2), (228, .invokevirtual 114, 3), (231, .pop, 1), (232, .aload_n 0, 1), (233, .bipush 32, 2), (235, .invokevirtual 114, 3), (238, .pop, 1), (239, .aload_n 0, 1), (240, .iload 5, 2), (242, .invokestatic 124, 3), (245, .pop, 1), (246, .aload_n 0, 1), (247, .invokestatic 65, 3), (250, .lstore 8, 2), (252, .aload_n 0, 1), (253, .bipush 12, 2), (255, .invokevirtual 13, 3), (258, .istore 10, 2), (260, .aload_n 0, 1), (261, .invokevirtual 121, 3), (264, .istore 11, 2), (266, .aload_n 0, 1)]
theorem dtL_orders_2_ok : ∀ q ∈ dtL_orders_2, decode cL_orders q.1 = .ok q.2 := by decide +kernel
theorem dL_orders_181 : decode cL_orders 181 = .ok (.pop, 1) := dg dtL_orders_2_ok 0 rfl
theorem dL_orders_182 : decode cL_orders 182 = .ok (.aload_n 0, 1) := dg dtL_orders_2_ok 1 rfl
theorem dL_orders_183 : decode cL_orders 183 = .ok (.bipush 59, 2) := dg dtL_orders_2_ok 2 rfl
theorem dL_orders_185 : decode cL_orders 185 = .ok (.invokevirtual 114, 3) := dg dtL_orders_2_ok 3 rfl
theorem dL_orders_188 : decode cL_orders 188 = .ok (.istore 7, 2) := dg dtL_orders_2_ok 4 rfl
theorem dL_orders_190 : decode cL_orders 190 = .ok (.aload_n 0, 1) := dg dtL_orders_2_ok 5 rfl
theorem dL_orders_191 : decode cL_orders 191 = .ok (.invokevirtual 121, 3) := dg dtL_orders_2_ok 6 rfl
theorem dL_orders_194 : decode cL_orders 194 = .ok (.bipush (-100), 2) := dg dtL_orders_2_ok 7 rfl
theorem dL_orders_196 : decode cL_orders 196 = .ok (.iload 7, 2) := dg dtL_orders_2_ok 8 rfl
theorem dL_orders_198 : decode cL_orders 198 = .ok (.isub, 1) := dg dtL_orders_2_ok 9 rfl
theorem dL_orders_199 : decode cL_orders 199 = .ok (.if_icmp .eq 5, 3) := dg dtL_orders_2_ok 10 rfl
theorem dL_orders_202 : decode cL_orders 202 = .ok (.iconst 0, 1) := dg dtL_orders_2_ok 11 rfl
theorem dL_orders_203 : decode cL_orders 203 = .ok (.ireturn, 1) := dg dtL_orders_2_ok 12 rfl
theorem dL_orders_204 : decode cL_orders 204 = .ok (.aload_n 0, 1) := dg dtL_orders_2_ok 13 rfl
theorem dL_orders_205 : decode cL_orders 205 = .ok (.bipush 100, 2) := dg dtL_orders_2_ok 14 rfl
theorem dL_orders_207 : decode cL_orders 207 = .ok (.invokevirtual 114, 3) := dg dtL_orders_2_ok 15 rfl
theorem dL_orders_210 : decode cL_orders 210 = .ok (.pop, 1) := dg dtL_orders_2_ok 16 rfl
theorem dL_orders_211 : decode cL_orders 211 = .ok (.aload_n 0, 1) := dg dtL_orders_2_ok 17 rfl
theorem dL_orders_212 : decode cL_orders 212 = .ok (.bipush 97, 2) := dg dtL_orders_2_ok 18 rfl
theorem dL_orders_214 : decode cL_orders 214 = .ok (.invokevirtual 114, 3) := dg dtL_orders_2_ok 19 rfl
theorem dL_orders_217 : decode cL_orders 217 = .ok (.pop, 1) := dg dtL_orders_2_ok 20 rfl
theorem dL_orders_218 : decode cL_orders 218 = .ok (.aload_n 0, 1) := dg dtL_orders_2_ok 21 rfl
theorem dL_orders_219 : decode cL_orders 219 = .ok (.bipush 121, 2) := dg dtL_orders_2_ok 22 rfl
theorem dL_orders_221 : decode cL_orders 221 = .ok (.invokevirtual 114, 3) := dg dtL_orders_2_ok 23 rfl
theorem dL_orders_224 : decode cL_orders 224 = .ok (.pop, 1) := dg dtL_orders_2_ok 24 rfl
theorem dL_orders_225 : decode cL_orders 225 = .ok (.aload_n 0, 1) := dg dtL_orders_2_ok 25 rfl
theorem dL_orders_226 : decode cL_orders 226 = .ok (.bipush 115, 2) := dg dtL_orders_2_ok 26 rfl
theorem dL_orders_228 : decode cL_orders 228 = .ok (.invokevirtual 114, 3) := dg dtL_orders_2_ok 27 rfl
theorem dL_orders_231 : decode cL_orders 231 = .ok (.pop, 1) := dg dtL_orders_2_ok 28 rfl
theorem dL_orders_232 : decode cL_orders 232 = .ok (.aload_n 0, 1) := dg dtL_orders_2_ok 29 rfl
theorem dL_orders_233 : decode cL_orders 233 = .ok (.bipush 32, 2) := dg dtL_orders_2_ok 30 rfl
theorem dL_orders_235 : decode cL_orders 235 = .ok (.invokevirtual 114, 3) := dg dtL_orders_2_ok 31 rfl
theorem dL_orders_238 : decode cL_orders 238 = .ok (.pop, 1) := dg dtL_orders_2_ok 32 rfl
theorem dL_orders_239 : decode cL_orders 239 = .ok (.aload_n 0, 1) := dg dtL_orders_2_ok 33 rfl
theorem dL_orders_240 : decode cL_orders 240 = .ok (.iload 5, 2) := dg dtL_orders_2_ok 34 rfl
theorem dL_orders_242 : decode cL_orders 242 = .ok (.invokestatic 124, 3) := dg dtL_orders_2_ok 35 rfl
theorem dL_orders_245 : decode cL_orders 245 = .ok (.pop, 1) := dg dtL_orders_2_ok 36 rfl
theorem dL_orders_246 : decode cL_orders 246 = .ok (.aload_n 0, 1) := dg dtL_orders_2_ok 37 rfl
theorem dL_orders_247 : decode cL_orders 247 = .ok (.invokestatic 65, 3) := dg dtL_orders_2_ok 38 rfl
theorem dL_orders_250 : decode cL_orders 250 = .ok (.lstore 8, 2) := dg dtL_orders_2_ok 39 rfl
theorem dL_orders_252 : decode cL_orders 252 = .ok (.aload_n 0, 1) := dg dtL_orders_2_ok 40 rfl
theorem dL_orders_253 : decode cL_orders 253 = .ok (.bipush 12, 2) := dg dtL_orders_2_ok 41 rfl
theorem dL_orders_255 : decode cL_orders 255 = .ok (.invokevirtual 13, 3) := dg dtL_orders_2_ok 42 rfl
theorem dL_orders_258 : decode cL_orders 258 = .ok (.istore 10, 2) := dg dtL_orders_2_ok 43 rfl
theorem dL_orders_260 : decode cL_orders 260 = .ok (.aload_n 0, 1) := dg dtL_orders_2_ok 44 rfl
theorem dL_orders_261 : decode cL_orders 261 = .ok (.invokevirtual 121, 3) := dg dtL_orders_2_ok 45 rfl
theorem dL_orders_264 : decode cL_orders 264 = .ok (.istore 11, 2) := dg dtL_orders_2_ok 46 rfl
theorem dL_orders_266 : decode cL_orders 266 = .ok (.aload_n 0, 1) := dg dtL_orders_2_ok 47 rfl
def dtL_orders_3 : List (Nat × Instr × Nat) := [(267, .invokestatic 65, 3), (270, .lstore 12, 2), (272, .aload_n 0, 1), (273, .bipush 11, 2), (275, .invokevirtual 13, 3), (278, .istore 14, 2), (280, .aload_n 0, 1), (281, .bipush 12, 2), (283, .invokevirtual 13, 3), (286, .iload 10, 2), (288, .bipush 6, 2), (290, .if_icmp .ne 8, 3), (293, .bipush 6, 2), (295, .goto 7, 3), (298, .iload 10, 2), (300, .iconst 1, 1), (301, .iadd, 1), (302, .if_icmp .ne 20, 3), (305, .aload_n 0, 1), (306, .invokevirtual 72, 3), (309, .ifCond .lt 13, 3), (312, .aload_n 0, 1), (313, .invokestatic 65, 3), (316, .lload 8, 2), (318, .lcmp, 1), (319, .ifCond .eq 5, 3), (322, .iconst 0, 1), (323, .ireturn, 1), (324, .iload 6, 2), (326, .ifCond .eq 13, 3), (329, .aload_n 0, 1), (330, .iload_n 3, 1), (331, .iload 4, 2), (333, .invokevirtual 93, 3), (336, .goto 8, 3), (339, .aload_n 0, 1), (340, .iload_n 3, 1), (341, .invokevirtual 128, 3), (344, .istore 15, 2), (346, .iload 15, 2), (348, .ifCond .ge 40, 3), (351, .iload 11, 2), (353, .ifCond .ne 33, 3), (356, .lload 12, 2), (358, .lload 8, 2), (360, .lcmp, 1), (361, .ifCond .ne 25, 3), (364, .iload 15, 2)]
theorem dtL_orders_3_ok : ∀ q ∈ dtL_orders_3, decode cL_orders q.1 = .ok q.2 := by decide +kernel
theorem dL_orders_267 : decode cL_orders 267 = .ok (.invokestatic 65, 3) := dg dtL_orders_3_ok 0 rfl
theorem dL_orders_270 : decode cL_orders 270 = .ok (.lstore 12, 2) := dg dtL_orders_3_ok 1 rfl
theorem dL_orders_272 : decode cL_orders 272 = .ok (.aload_n 0, 1) := dg dtL_orders_3_ok 2 rfl
theorem dL_orders_273 : decode cL_orders 273 = .ok (.bipush 11, 2) := dg dtL_orders_3_ok 3 rfl
theorem dL_orders_275 : decode cL_orders 275 = .ok (.invokevirtual 13, 3) := dg dtL_orders_3_ok 4 rfl
theorem dL_orders_278 : decode cL_orders 278 = .ok (.istore 14, 2) := dg dtL_orders_3_ok 5 rfl
theorem dL_orders_280 : decode cL_orders 280 = .ok (.aload_n 0, 1) := dg dtL_orders_3_ok 6 rfl
theorem dL_orders_281 : decode cL_orders 281 = .ok (.bipush 12, 2) := dg dtL_orders_3_ok 7 rfl
theorem dL_orders_283 : decode cL_orders 283 = .ok (.invokevirtual 13, 3) := dg dtL_orders_3_ok 8 rfl
theorem dL_orders_286 : decode cL_orders 286 = .ok (.iload 10, 2) := dg dtL_orders_3_ok 9 rfl
theorem dL_orders_288 : decode cL_orders 288 = .ok (.bipush 6, 2) := dg dtL_orders_3_ok 10 rfl
theorem dL_orders_290 : decode cL_orders 290 = .ok (.if_icmp .ne 8, 3) := dg dtL_orders_3_ok 11 rfl
theorem dL_orders_293 : decode cL_orders 293 = .ok (.bipush 6, 2) := dg dtL_orders_3_ok 12 rfl
theorem dL_orders_295 : decode cL_orders 295 = .ok (.goto 7, 3) := dg dtL_orders_3_ok 13 rfl
theorem dL_orders_298 : decode cL_orders 298 = .ok (.iload 10, 2) := dg dtL_orders_3_ok 14 rfl
theorem dL_orders_300 : decode cL_orders 300 = .ok (.iconst 1, 1) := dg dtL_orders_3_ok 15 rfl
theorem dL_orders_301 : decode cL_orders 301 = .ok (.iadd, 1) := dg dtL_orders_3_ok 16 rfl
theorem dL_orders_302 : decode cL_orders 302 = .ok (.if_icmp .ne 20, 3) := dg dtL_orders_3_ok 17 rfl
theorem dL_orders_305 : decode cL_orders 305 = .ok (.aload_n 0, 1) := dg dtL_orders_3_ok 18 rfl
theorem dL_orders_306 : decode cL_orders 306 = .ok (.invokevirtual 72, 3) := dg dtL_orders_3_ok 19 rfl
theorem dL_orders_309 : decode cL_orders 309 = .ok (.ifCond .lt 13, 3) := dg dtL_orders_3_ok 20 rfl
theorem dL_orders_312 : decode cL_orders 312 = .ok (.aload_n 0, 1) := dg dtL_orders_3_ok 21 rfl
theorem dL_orders_313 : decode cL_orders 313 = .ok (.invokestatic 65, 3) := dg dtL_orders_3_ok 22 rfl
theorem dL_orders_316 : decode cL_orders 316 = .ok (.lload 8, 2) := dg dtL_orders_3_ok 23 rfl
theorem dL_orders_318 : decode cL_orders 318 = .ok (.lcmp, 1) := dg dtL_orders_3_ok 24 rfl
theorem dL_orders_319 : decode cL_orders 319 = .ok (.ifCond .eq 5, 3) := dg dtL_orders_3_ok 25 rfl
theorem dL_orders_322 : decode cL_orders 322 = .ok (.iconst 0, 1) := dg dtL_orders_3_ok 26 rfl
theorem dL_orders_323 : decode cL_orders 323 = .ok (.ireturn, 1) := dg dtL_orders_3_ok 27 rfl
theorem dL_orders_324 : decode cL_orders 324 = .ok (.iload 6, 2) := dg dtL_orders_3_ok 28 rfl
theorem dL_orders_326 : decode cL_orders 326 = .ok (.ifCond .eq 13, 3) := dg dtL_orders_3_ok 29 rfl
theorem dL_orders_329 : decode cL_orders 329 = .ok (.aload_n 0, 1) := dg dtL_orders_3_ok 30 rfl
theorem dL_orders_330 : decode cL_orders 330 = .ok (.iload_n 3, 1) := dg dtL_orders_3_ok 31 rfl
theorem dL_orders_331 : decode cL_orders 331 = .ok (.iload 4, 2) := dg dtL_orders_3_ok 32 rfl
theorem dL_orders_333 : decode cL_orders 333 = .ok (.invokevirtual 93, 3) := dg dtL_orders_3_ok 33 rfl
theorem dL_orders_336 : decode cL_orders 336 = .ok (.goto 8, 3) := dg dtL_orders_3_ok 34 rfl
theorem dL_orders_339 : decode cL_orders 339 = .ok (.aload_n 0, 1) := dg dtL_orders_3_ok 35 rfl
theorem dL_orders_340 : decode cL_orders 340 = .ok (.iload_n 3, 1) := dg dtL_orders_3_ok 36 rfl
theorem dL_orders_341 : decode cL_orders 341 = .ok (.invokevirtual 128, 3) := dg dtL_orders_3_ok 37 rfl
theorem dL_orders_344 : decode cL_orders 344 = .ok (.istore 15, 2) := dg dtL_orders_3_ok 38 rfl
theorem dL_orders_346 : decode cL_orders 346 = .ok (.iload 15, 2) := dg dtL_orders_3_ok 39 rfl
theorem dL_orders_348 : decode cL_orders 348 = .ok (.ifCond .ge 40, 3) := dg dtL_orders_3_ok 40 rfl
theorem dL_orders_351 : decode cL_orders 351 = .ok (.iload 11, 2) := dg dtL_orders_3_ok 41 rfl
theorem dL_orders_353 : decode cL_orders 353 = .ok (.ifCond .ne 33, 3) := dg dtL_orders_3_ok 42 rfl
theorem dL_orders_356 : decode cL_orders 356 = .ok (.lload 12, 2) := dg dtL_orders_3_ok 43 rfl
theorem dL_orders_358 : decode cL_orders 358 = .ok (.lload 8, 2) := dg dtL_orders_3_ok 44 rfl
theorem dL_orders_360 : decode cL_orders 360 = .ok (.lcmp, 1) := dg dtL_orders_3_ok 45 rfl
theorem dL_orders_361 : decode cL_orders 361 = .ok (.ifCond .ne 25, 3) := dg dtL_orders_3_ok 46 rfl
theorem dL_orders_364 : decode cL_orders 364 = .ok (.iload 15, 2) := dg dtL_orders_3_ok 47 rfl
def dtL_orders_4 : List (Nat × Instr × Nat) := [(366, .ldc 96, 2), (368, .if_icmp .ne 14, 3), (371, .aload_n 0, 1), (372, .bipush 11, 2), (374, .invokevirtual 13, 3), (377, .iload 14, 2), (379, .if_icmp .ne 7, 3), (382, .iconst 1, 1), (383, .goto 4, 3), (386, .iconst 0, 1), (387, .ireturn, 1), (388, .aload_n 0, 1), (389, .iload 5, 2), (391, .invokevirtual 69, 3), (394, .pop, 1), (395, .iload 11, 2), (397, .iconst 2, 1), (398, .if_icmp .ne 17, 3), (401, .aload_n 0, 1), (402, .invokestatic 65, 3), (405, .lload 12, 2), (407, .lcmp, 1), (408, .ifCond .ne 7, 3), (411, .iconst 1, 1), (412, .goto 4, 3), (415, .iconst 0, 1), (416, .ireturn, 1)]
theorem dtL_orders_4_ok : ∀ q ∈ dtL_orders_4, decode cL_orders q.1 = .ok q.2 := by decide +kernel
theorem dL_orders_366 : decode cL_orders 366 = .ok (.ldc 96, 2) := dg dtL_orders_4_ok 0 rfl
theorem dL_orders_368 : decode cL_orders 368 = .ok (.if_icmp .ne 14, 3) := dg dtL_orders_4_ok 1 rfl
theorem dL_orders_371 : decode cL_orders 371 = .ok (.aload_n 0, 1) := dg dtL_orders_4_ok 2 rfl
theorem dL_orders_372 : decode cL_orders 372 = .ok (.bipush 11, 2) := dg dtL_orders_4_ok 3 rfl
theorem dL_orders_374 : decode cL_orders 374 = .ok (.invokevirtual 13, 3) := dg dtL_orders_4_ok 4 rfl
theorem dL_orders_377 : decode cL_orders 377 = .ok (.iload 14, 2) := dg dtL_orders_4_ok 5 rfl
theorem dL_orders_379 : decode cL_orders 379 = .ok (.if_icmp .ne 7, 3) := dg dtL_orders_4_ok 6 rfl
theorem dL_orders_382 : decode cL_orders 382 = .ok (.iconst 1, 1) := dg dtL_orders_4_ok 7 rfl
theorem dL_orders_383 : decode cL_orders 383 = .ok (.goto 4, 3) := dg dtL_orders_4_ok 8 rfl
theorem dL_orders_386 : decode cL_orders 386 = .ok (.iconst 0, 1) := dg dtL_orders_4_ok 9 rfl
theorem dL_orders_387 : decode cL_orders 387 = .ok (.ireturn, 1) := dg dtL_orders_4_ok 10 rfl
theorem dL_orders_388 : decode cL_orders 388 = .ok (.aload_n 0, 1) := dg dtL_orders_4_ok 11 rfl
theorem dL_orders_389 : decode cL_orders 389 = .ok (.iload 5, 2) := dg dtL_orders_4_ok 12 rfl
theorem dL_orders_391 : decode cL_orders 391 = .ok (.invokevirtual 69, 3) := dg dtL_orders_4_ok 13 rfl
theorem dL_orders_394 : decode cL_orders 394 = .ok (.pop, 1) := dg dtL_orders_4_ok 14 rfl
theorem dL_orders_395 : decode cL_orders 395 = .ok (.iload 11, 2) := dg dtL_orders_4_ok 15 rfl
theorem dL_orders_397 : decode cL_orders 397 = .ok (.iconst 2, 1) := dg dtL_orders_4_ok 16 rfl
theorem dL_orders_398 : decode cL_orders 398 = .ok (.if_icmp .ne 17, 3) := dg dtL_orders_4_ok 17 rfl
theorem dL_orders_401 : decode cL_orders 401 = .ok (.aload_n 0, 1) := dg dtL_orders_4_ok 18 rfl
theorem dL_orders_402 : decode cL_orders 402 = .ok (.invokestatic 65, 3) := dg dtL_orders_4_ok 19 rfl
theorem dL_orders_405 : decode cL_orders 405 = .ok (.lload 12, 2) := dg dtL_orders_4_ok 20 rfl
theorem dL_orders_407 : decode cL_orders 407 = .ok (.lcmp, 1) := dg dtL_orders_4_ok 21 rfl
theorem dL_orders_408 : decode cL_orders 408 = .ok (.ifCond .ne 7, 3) := dg dtL_orders_4_ok 22 rfl
theorem dL_orders_411 : decode cL_orders 411 = .ok (.iconst 1, 1) := dg dtL_orders_4_ok 23 rfl
theorem dL_orders_412 : decode cL_orders 412 = .ok (.goto 4, 3) := dg dtL_orders_4_ok 24 rfl
theorem dL_orders_415 : decode cL_orders 415 = .ok (.iconst 0, 1) := dg dtL_orders_4_ok 25 rfl
theorem dL_orders_416 : decode cL_orders 416 = .ok (.ireturn, 1) := dg dtL_orders_4_ok 26 rfl
def dtL_law_0 : List (Nat × Instr × Nat) := [(0, .new 14, 3), (3, .dup, 1), (4, .invokespecial 131, 3), (7, .astore_n 1, 1), (8, .lconst 0, 1), (9, .lstore_n 2, 1), (10, .iconst 0, 1), (11, .istore 4, 2), (13, .aload_n 1, 1), (14, .invokevirtual 72, 3), (17, .ldc 53, 2), (19, .if_icmp .ne 78, 3), (22, .aload_n 1, 1), (23, .iconst 0, 1), (24, .invokevirtual 132, 3), (27, .ldc 53, 2), (29, .if_icmp .ne 68, 3), (32, .aload_n 1, 1), (33, .iconst 2, 1), (34, .invokevirtual 132, 3), (37, .ldc 40, 2), (39, .if_icmp .ne 58, 3), (42, .aload_n 1, 1), (43, .iconst (-1), 1), (44, .invokevirtual 135, 3), (47, .ldc 40, 2), (49, .if_icmp .ne 48, 3), (52, .aload_n 1, 1), (53, .invokevirtual 57, 3), (56, .ldc 53, 2), (58, .if_icmp .ne 39, 3), (61, .aload_n 1, 1), (62, .iconst 0, 1), (63, .iconst 1, 1), (64, .invokevirtual 138, 3), (67, .ldc 37, 2), (69, .if_icmp .ne 28, 3), (72, .aload_n 1, 1), (73, .bipush 101, 2), (75, .iconst 0, 1), (76, .iconst 0, 1), (77, .invokevirtual 141, 3), (80, .ldc 37, 2), (82, .if_icmp .ne 15, 3), (85, .aload_n 1, 1), (86, .bipush 6, 2), (88, .iconst 0, 1), (89, .invokevirtual 145, 3)]
theorem dtL_law_0_ok : ∀ q ∈ dtL_law_0, decode cL_law q.1 = .ok q.2 := by decide +kernel
theorem dL_law_0 : decode cL_law 0 = .ok (.new 14, 3) := dg dtL_law_0_ok 0 rfl
theorem dL_law_3 : decode cL_law 3 = .ok (.dup, 1) := dg dtL_law_0_ok 1 rfl
theorem dL_law_4 : decode cL_law 4 = .ok (.invokespecial 131, 3) := dg dtL_law_0_ok 2 rfl
theorem dL_law_7 : decode cL_law 7 = .ok (.astore_n 1, 1) := dg dtL_law_0_ok 3 rfl
theorem dL_law_8 : decode cL_law 8 = .ok (.lconst 0, 1) := dg dtL_law_0_ok 4 rfl
theorem dL_law_9 : decode cL_law 9 = .ok (.lstore_n 2, 1) := dg dtL_law_0_ok 5 rfl
theorem dL_law_10 : decode cL_law 10 = .ok (.iconst 0, 1) := dg dtL_law_0_ok 6 rfl
theorem dL_law_11 : decode cL_law 11 = .ok (.istore 4, 2) := dg dtL_law_0_ok 7 rfl
theorem dL_law_13 : decode cL_law 13 = .ok (.aload_n 1, 1) := dg dtL_law_0_ok 8 rfl
theorem dL_law_14 : decode cL_law 14 = .ok (.invokevirtual 72, 3) := dg dtL_law_0_ok 9 rfl
theorem dL_law_17 : decode cL_law 17 = .ok (.ldc 53, 2) := dg dtL_law_0_ok 10 rfl
theorem dL_law_19 : decode cL_law 19 = .ok (.if_icmp .ne 78, 3) := dg dtL_law_0_ok 11 rfl
theorem dL_law_22 : decode cL_law 22 = .ok (.aload_n 1, 1) := dg dtL_law_0_ok 12 rfl
theorem dL_law_23 : decode cL_law 23 = .ok (.iconst 0, 1) := dg dtL_law_0_ok 13 rfl
theorem dL_law_24 : decode cL_law 24 = .ok (.invokevirtual 132, 3) := dg dtL_law_0_ok 14 rfl
theorem dL_law_27 : decode cL_law 27 = .ok (.ldc 53, 2) := dg dtL_law_0_ok 15 rfl
theorem dL_law_29 : decode cL_law 29 = .ok (.if_icmp .ne 68, 3) := dg dtL_law_0_ok 16 rfl
theorem dL_law_32 : decode cL_law 32 = .ok (.aload_n 1, 1) := dg dtL_law_0_ok 17 rfl
theorem dL_law_33 : decode cL_law 33 = .ok (.iconst 2, 1) := dg dtL_law_0_ok 18 rfl
theorem dL_law_34 : decode cL_law 34 = .ok (.invokevirtual 132, 3) := dg dtL_law_0_ok 19 rfl
theorem dL_law_37 : decode cL_law 37 = .ok (.ldc 40, 2) := dg dtL_law_0_ok 20 rfl
theorem dL_law_39 : decode cL_law 39 = .ok (.if_icmp .ne 58, 3) := dg dtL_law_0_ok 21 rfl
theorem dL_law_42 : decode cL_law 42 = .ok (.aload_n 1, 1) := dg dtL_law_0_ok 22 rfl
theorem dL_law_43 : decode cL_law 43 = .ok (.iconst (-1), 1) := dg dtL_law_0_ok 23 rfl
theorem dL_law_44 : decode cL_law 44 = .ok (.invokevirtual 135, 3) := dg dtL_law_0_ok 24 rfl
theorem dL_law_47 : decode cL_law 47 = .ok (.ldc 40, 2) := dg dtL_law_0_ok 25 rfl
theorem dL_law_49 : decode cL_law 49 = .ok (.if_icmp .ne 48, 3) := dg dtL_law_0_ok 26 rfl
theorem dL_law_52 : decode cL_law 52 = .ok (.aload_n 1, 1) := dg dtL_law_0_ok 27 rfl
theorem dL_law_53 : decode cL_law 53 = .ok (.invokevirtual 57, 3) := dg dtL_law_0_ok 28 rfl
theorem dL_law_56 : decode cL_law 56 = .ok (.ldc 53, 2) := dg dtL_law_0_ok 29 rfl
theorem dL_law_58 : decode cL_law 58 = .ok (.if_icmp .ne 39, 3) := dg dtL_law_0_ok 30 rfl
theorem dL_law_61 : decode cL_law 61 = .ok (.aload_n 1, 1) := dg dtL_law_0_ok 31 rfl
theorem dL_law_62 : decode cL_law 62 = .ok (.iconst 0, 1) := dg dtL_law_0_ok 32 rfl
theorem dL_law_63 : decode cL_law 63 = .ok (.iconst 1, 1) := dg dtL_law_0_ok 33 rfl
theorem dL_law_64 : decode cL_law 64 = .ok (.invokevirtual 138, 3) := dg dtL_law_0_ok 34 rfl
theorem dL_law_67 : decode cL_law 67 = .ok (.ldc 37, 2) := dg dtL_law_0_ok 35 rfl
theorem dL_law_69 : decode cL_law 69 = .ok (.if_icmp .ne 28, 3) := dg dtL_law_0_ok 36 rfl
theorem dL_law_72 : decode cL_law 72 = .ok (.aload_n 1, 1) := dg dtL_law_0_ok 37 rfl
theorem dL_law_73 : decode cL_law 73 = .ok (.bipush 101, 2) := dg dtL_law_0_ok 38 rfl
theorem dL_law_75 : decode cL_law 75 = .ok (.iconst 0, 1) := dg dtL_law_0_ok 39 rfl
theorem dL_law_76 : decode cL_law 76 = .ok (.iconst 0, 1) := dg dtL_law_0_ok 40 rfl
theorem dL_law_77 : decode cL_law 77 = .ok (.invokevirtual 141, 3) := dg dtL_law_0_ok 41 rfl
theorem dL_law_80 : decode cL_law 80 = .ok (.ldc 37, 2) := dg dtL_law_0_ok 42 rfl
theorem dL_law_82 : decode cL_law 82 = .ok (.if_icmp .ne 15, 3) := dg dtL_law_0_ok 43 rfl
theorem dL_law_85 : decode cL_law 85 = .ok (.aload_n 1, 1) := dg dtL_law_0_ok 44 rfl
theorem dL_law_86 : decode cL_law 86 = .ok (.bipush 6, 2) := dg dtL_law_0_ok 45 rfl
theorem dL_law_88 : decode cL_law 88 = .ok (.iconst 0, 1) := dg dtL_law_0_ok 46 rfl
theorem dL_law_89 : decode cL_law 89 = .ok (.invokevirtual 145, 3) := dg dtL_law_0_ok 47 rfl
def dtL_law_1 : List (Nat × Instr × Nat) := [(92, .ldc 40, 2), (94, .if_icmp .eq 5, 3), (97, .iconst 0, 1), (98, .ireturn, 1), (99, .iconst 0, 1), (100, .istore 5, 2), (102, .iload 5, 2), (104, .bipush 40, 2), (106, .if_icmp .ge 536, 3), (109, .aload_n 0, 1), (110, .iconst 2, 1), (111, .iload 5, 2), (113, .imul, 1), (114, .invokestatic 148, 3), (117, .istore 6, 2), (119, .aload_n 0, 1), (120, .iconst 2, 1), (121, .iload 5, 2), (123, .imul, 1), (124, .iconst 1, 1), (125, .iadd, 1), (126, .invokestatic 148, 3), (129, .istore 7, 2), (131, .iload 6, 2), (133, .bipush 16, 2), (135, .ishr, 1), (136, .bipush 18, 2), (138, .invokestatic 45, 3), (141, .istore 8, 2), (143, .iconst 1, 1), (144, .istore 9, 2), (146, .iload 5, 2), (148, .iconst 4, 1), (149, .if_icmp .lt 9, 3), (152, .iload 8, 2), (154, .iconst 3, 1), (155, .if_icmp .ge 16, 3), (158, .aload_n 1, 1), (159, .iload 6, 2), (161, .iload 7, 2), (163, .invokestatic 152, 3), (166, .istore 9, 2), (168, .goto 411, 3), (171, .iload 8, 2), (173, .bipush 6, 2), (175, .if_icmp .ge 16, 3), (178, .aload_n 1, 1), (179, .iload 6, 2)]
theorem dtL_law_1_ok : ∀ q ∈ dtL_law_1, decode cL_law q.1 = .ok q.2 := by decide +kernel
theorem dL_law_92 : decode cL_law 92 = .ok (.ldc 40, 2) := dg dtL_law_1_ok 0 rfl
theorem dL_law_94 : decode cL_law 94 = .ok (.if_icmp .eq 5, 3) := dg dtL_law_1_ok 1 rfl
theorem dL_law_97 : decode cL_law 97 = .ok (.iconst 0, 1) := dg dtL_law_1_ok 2 rfl
theorem dL_law_98 : decode cL_law 98 = .ok (.ireturn, 1) := dg dtL_law_1_ok 3 rfl
theorem dL_law_99 : decode cL_law 99 = .ok (.iconst 0, 1) := dg dtL_law_1_ok 4 rfl
theorem dL_law_100 : decode cL_law 100 = .ok (.istore 5, 2) := dg dtL_law_1_ok 5 rfl
theorem dL_law_102 : decode cL_law 102 = .ok (.iload 5, 2) := dg dtL_law_1_ok 6 rfl
theorem dL_law_104 : decode cL_law 104 = .ok (.bipush 40, 2) := dg dtL_law_1_ok 7 rfl
theorem dL_law_106 : decode cL_law 106 = .ok (.if_icmp .ge 536, 3) := dg dtL_law_1_ok 8 rfl
theorem dL_law_109 : decode cL_law 109 = .ok (.aload_n 0, 1) := dg dtL_law_1_ok 9 rfl
theorem dL_law_110 : decode cL_law 110 = .ok (.iconst 2, 1) := dg dtL_law_1_ok 10 rfl
theorem dL_law_111 : decode cL_law 111 = .ok (.iload 5, 2) := dg dtL_law_1_ok 11 rfl
theorem dL_law_113 : decode cL_law 113 = .ok (.imul, 1) := dg dtL_law_1_ok 12 rfl
theorem dL_law_114 : decode cL_law 114 = .ok (.invokestatic 148, 3) := dg dtL_law_1_ok 13 rfl
theorem dL_law_117 : decode cL_law 117 = .ok (.istore 6, 2) := dg dtL_law_1_ok 14 rfl
theorem dL_law_119 : decode cL_law 119 = .ok (.aload_n 0, 1) := dg dtL_law_1_ok 15 rfl
theorem dL_law_120 : decode cL_law 120 = .ok (.iconst 2, 1) := dg dtL_law_1_ok 16 rfl
theorem dL_law_121 : decode cL_law 121 = .ok (.iload 5, 2) := dg dtL_law_1_ok 17 rfl
theorem dL_law_123 : decode cL_law 123 = .ok (.imul, 1) := dg dtL_law_1_ok 18 rfl
theorem dL_law_124 : decode cL_law 124 = .ok (.iconst 1, 1) := dg dtL_law_1_ok 19 rfl
theorem dL_law_125 : decode cL_law 125 = .ok (.iadd, 1) := dg dtL_law_1_ok 20 rfl
theorem dL_law_126 : decode cL_law 126 = .ok (.invokestatic 148, 3) := dg dtL_law_1_ok 21 rfl
theorem dL_law_129 : decode cL_law 129 = .ok (.istore 7, 2) := dg dtL_law_1_ok 22 rfl
theorem dL_law_131 : decode cL_law 131 = .ok (.iload 6, 2) := dg dtL_law_1_ok 23 rfl
theorem dL_law_133 : decode cL_law 133 = .ok (.bipush 16, 2) := dg dtL_law_1_ok 24 rfl
theorem dL_law_135 : decode cL_law 135 = .ok (.ishr, 1) := dg dtL_law_1_ok 25 rfl
theorem dL_law_136 : decode cL_law 136 = .ok (.bipush 18, 2) := dg dtL_law_1_ok 26 rfl
theorem dL_law_138 : decode cL_law 138 = .ok (.invokestatic 45, 3) := dg dtL_law_1_ok 27 rfl
theorem dL_law_141 : decode cL_law 141 = .ok (.istore 8, 2) := dg dtL_law_1_ok 28 rfl
theorem dL_law_143 : decode cL_law 143 = .ok (.iconst 1, 1) := dg dtL_law_1_ok 29 rfl
theorem dL_law_144 : decode cL_law 144 = .ok (.istore 9, 2) := dg dtL_law_1_ok 30 rfl
theorem dL_law_146 : decode cL_law 146 = .ok (.iload 5, 2) := dg dtL_law_1_ok 31 rfl
theorem dL_law_148 : decode cL_law 148 = .ok (.iconst 4, 1) := dg dtL_law_1_ok 32 rfl
theorem dL_law_149 : decode cL_law 149 = .ok (.if_icmp .lt 9, 3) := dg dtL_law_1_ok 33 rfl
theorem dL_law_152 : decode cL_law 152 = .ok (.iload 8, 2) := dg dtL_law_1_ok 34 rfl
theorem dL_law_154 : decode cL_law 154 = .ok (.iconst 3, 1) := dg dtL_law_1_ok 35 rfl
theorem dL_law_155 : decode cL_law 155 = .ok (.if_icmp .ge 16, 3) := dg dtL_law_1_ok 36 rfl
theorem dL_law_158 : decode cL_law 158 = .ok (.aload_n 1, 1) := dg dtL_law_1_ok 37 rfl
theorem dL_law_159 : decode cL_law 159 = .ok (.iload 6, 2) := dg dtL_law_1_ok 38 rfl
theorem dL_law_161 : decode cL_law 161 = .ok (.iload 7, 2) := dg dtL_law_1_ok 39 rfl
theorem dL_law_163 : decode cL_law 163 = .ok (.invokestatic 152, 3) := dg dtL_law_1_ok 40 rfl
theorem dL_law_166 : decode cL_law 166 = .ok (.istore 9, 2) := dg dtL_law_1_ok 41 rfl
theorem dL_law_168 : decode cL_law 168 = .ok (.goto 411, 3) := dg dtL_law_1_ok 42 rfl
theorem dL_law_171 : decode cL_law 171 = .ok (.iload 8, 2) := dg dtL_law_1_ok 43 rfl
theorem dL_law_173 : decode cL_law 173 = .ok (.bipush 6, 2) := dg dtL_law_1_ok 44 rfl
theorem dL_law_175 : decode cL_law 175 = .ok (.if_icmp .ge 16, 3) := dg dtL_law_1_ok 45 rfl
theorem dL_law_178 : decode cL_law 178 = .ok (.aload_n 1, 1) := dg dtL_law_1_ok 46 rfl
theorem dL_law_179 : decode cL_law 179 = .ok (.iload 6, 2) := dg dtL_law_1_ok 47 rfl
def dtL_law_2 : List (Nat × Instr × Nat) := [(181, .iload 7, 2), (183, .invokestatic 156, 3), (186, .istore 9, 2), (188, .goto 391, 3), (191, .iload 8, 2), (193, .bipush 11, 2), (195, .if_icmp .ge 21, 3), (198, .aload_n 1, 1), (199, .iload 8, 2), (201, .bipush 6, 2), (203, .isub, 1), (204, .iload 6, 2), (206, .iload 7, 2), (208, .invokestatic 159, 3), (211, .istore 9, 2), (213, .goto 366, 3), (216, .iload 8, 2), (218, .bipush 11, 2), (220, .if_icmp .ne 16, 3), (223, .aload_n 1, 1), (224, .iload 6, 2), (226, .iload 7, 2), (228, .invokestatic 163, 3), (231, .istore 9, 2), (233, .goto 346, 3), (236, .iload 8, 2), (238, .bipush 12, 2), (240, .if_icmp .ne 82, 3), (243, .aload_n 1, 1), (244, .iconst 3, 1), (245, .invokevirtual 13, 3), (248, .ifCond .ne 7, 3), (251, .iconst (-1), 1), (252, .goto 13, 3), (255, .iload 6, 2), (257, .aload_n 1, 1), (258, .iconst 3, 1), (259, .invokevirtual 13, 3), (262, .invokestatic 45, 3), (265, .istore 10, 2), (267, .iload 10, 2), (269, .ifCond .ge 8, 3), (272, .ldc 40, 2), (274, .goto 25, 3), (277, .aload_n 1, 1), (278, .iload 10, 2), (280, .iconst 4, 1), (281, .invokevirtual 30, 3)]
theorem dtL_law_2_ok : ∀ q ∈ dtL_law_2, decode cL_law q.1 = .ok q.2 := by decide +kernel
theorem dL_law_181 : decode cL_law 181 = .ok (.iload 7, 2) := dg dtL_law_2_ok 0 rfl
theorem dL_law_183 : decode cL_law 183 = .ok (.invokestatic 156, 3) := dg dtL_law_2_ok 1 rfl
theorem dL_law_186 : decode cL_law 186 = .ok (.istore 9, 2) := dg dtL_law_2_ok 2 rfl
theorem dL_law_188 : decode cL_law 188 = .ok (.goto 391, 3) := dg dtL_law_2_ok 3 rfl
theorem dL_law_191 : decode cL_law 191 = .ok (.iload 8, 2) := dg dtL_law_2_ok 4 rfl
theorem dL_law_193 : decode cL_law 193 = .ok (.bipush 11, 2) := dg dtL_law_2_ok 5 rfl
theorem dL_law_195 : decode cL_law 195 = .ok (.if_icmp .ge 21, 3) := dg dtL_law_2_ok 6 rfl
theorem dL_law_198 : decode cL_law 198 = .ok (.aload_n 1, 1) := dg dtL_law_2_ok 7 rfl
theorem dL_law_199 : decode cL_law 199 = .ok (.iload 8, 2) := dg dtL_law_2_ok 8 rfl
theorem dL_law_201 : decode cL_law 201 = .ok (.bipush 6, 2) := dg dtL_law_2_ok 9 rfl
theorem dL_law_203 : decode cL_law 203 = .ok (.isub, 1) := dg dtL_law_2_ok 10 rfl
theorem dL_law_204 : decode cL_law 204 = .ok (.iload 6, 2) := dg dtL_law_2_ok 11 rfl
theorem dL_law_206 : decode cL_law 206 = .ok (.iload 7, 2) := dg dtL_law_2_ok 12 rfl
theorem dL_law_208 : decode cL_law 208 = .ok (.invokestatic 159, 3) := dg dtL_law_2_ok 13 rfl
theorem dL_law_211 : decode cL_law 211 = .ok (.istore 9, 2) := dg dtL_law_2_ok 14 rfl
theorem dL_law_213 : decode cL_law 213 = .ok (.goto 366, 3) := dg dtL_law_2_ok 15 rfl
theorem dL_law_216 : decode cL_law 216 = .ok (.iload 8, 2) := dg dtL_law_2_ok 16 rfl
theorem dL_law_218 : decode cL_law 218 = .ok (.bipush 11, 2) := dg dtL_law_2_ok 17 rfl
theorem dL_law_220 : decode cL_law 220 = .ok (.if_icmp .ne 16, 3) := dg dtL_law_2_ok 18 rfl
theorem dL_law_223 : decode cL_law 223 = .ok (.aload_n 1, 1) := dg dtL_law_2_ok 19 rfl
theorem dL_law_224 : decode cL_law 224 = .ok (.iload 6, 2) := dg dtL_law_2_ok 20 rfl
theorem dL_law_226 : decode cL_law 226 = .ok (.iload 7, 2) := dg dtL_law_2_ok 21 rfl
theorem dL_law_228 : decode cL_law 228 = .ok (.invokestatic 163, 3) := dg dtL_law_2_ok 22 rfl
theorem dL_law_231 : decode cL_law 231 = .ok (.istore 9, 2) := dg dtL_law_2_ok 23 rfl
theorem dL_law_233 : decode cL_law 233 = .ok (.goto 346, 3) := dg dtL_law_2_ok 24 rfl
theorem dL_law_236 : decode cL_law 236 = .ok (.iload 8, 2) := dg dtL_law_2_ok 25 rfl
theorem dL_law_238 : decode cL_law 238 = .ok (.bipush 12, 2) := dg dtL_law_2_ok 26 rfl
theorem dL_law_240 : decode cL_law 240 = .ok (.if_icmp .ne 82, 3) := dg dtL_law_2_ok 27 rfl
theorem dL_law_243 : decode cL_law 243 = .ok (.aload_n 1, 1) := dg dtL_law_2_ok 28 rfl
theorem dL_law_244 : decode cL_law 244 = .ok (.iconst 3, 1) := dg dtL_law_2_ok 29 rfl
theorem dL_law_245 : decode cL_law 245 = .ok (.invokevirtual 13, 3) := dg dtL_law_2_ok 30 rfl
theorem dL_law_248 : decode cL_law 248 = .ok (.ifCond .ne 7, 3) := dg dtL_law_2_ok 31 rfl
theorem dL_law_251 : decode cL_law 251 = .ok (.iconst (-1), 1) := dg dtL_law_2_ok 32 rfl
theorem dL_law_252 : decode cL_law 252 = .ok (.goto 13, 3) := dg dtL_law_2_ok 33 rfl
theorem dL_law_255 : decode cL_law 255 = .ok (.iload 6, 2) := dg dtL_law_2_ok 34 rfl
theorem dL_law_257 : decode cL_law 257 = .ok (.aload_n 1, 1) := dg dtL_law_2_ok 35 rfl
theorem dL_law_258 : decode cL_law 258 = .ok (.iconst 3, 1) := dg dtL_law_2_ok 36 rfl
theorem dL_law_259 : decode cL_law 259 = .ok (.invokevirtual 13, 3) := dg dtL_law_2_ok 37 rfl
theorem dL_law_262 : decode cL_law 262 = .ok (.invokestatic 45, 3) := dg dtL_law_2_ok 38 rfl
theorem dL_law_265 : decode cL_law 265 = .ok (.istore 10, 2) := dg dtL_law_2_ok 39 rfl
theorem dL_law_267 : decode cL_law 267 = .ok (.iload 10, 2) := dg dtL_law_2_ok 40 rfl
theorem dL_law_269 : decode cL_law 269 = .ok (.ifCond .ge 8, 3) := dg dtL_law_2_ok 41 rfl
theorem dL_law_272 : decode cL_law 272 = .ok (.ldc 40, 2) := dg dtL_law_2_ok 42 rfl
theorem dL_law_274 : decode cL_law 274 = .ok (.goto 25, 3) := dg dtL_law_2_ok 43 rfl
theorem dL_law_277 : decode cL_law 277 = .ok (.aload_n 1, 1) := dg dtL_law_2_ok 44 rfl
theorem dL_law_278 : decode cL_law 278 = .ok (.iload 10, 2) := dg dtL_law_2_ok 45 rfl
theorem dL_law_280 : decode cL_law 280 = .ok (.iconst 4, 1) := dg dtL_law_2_ok 46 rfl
theorem dL_law_281 : decode cL_law 281 = .ok (.invokevirtual 30, 3) := dg dtL_law_2_ok 47 rfl
def dtL_law_3 : List (Nat × Instr × Nat) := [(284, .ifCond .eq 8, 3), (287, .ldc 96, 2), (289, .goto 10, 3), (292, .aload_n 1, 1), (293, .iload 10, 2), (295, .iconst 2, 1), (296, .invokevirtual 30, 3), (299, .istore 11, 2), (301, .aload_n 1, 1), (302, .iload 10, 2), (304, .invokevirtual 128, 3), (307, .iload 11, 2), (309, .if_icmp .ne 7, 3), (312, .iconst 1, 1), (313, .goto 4, 3), (316, .iconst 0, 1), (317, .istore 9, 2), (319, .goto 260, 3), (322, .iload 8, 2), (324, .bipush 13, 2), (326, .if_icmp .ne 63, 3), (329, .iconst 1, 1), (330, .iload 7, 2), (332, .bipush 50, 2), (334, .invokestatic 45, 3), (337, .iadd, 1), (338, .istore 10, 2), (340, .aload_n 1, 1), (341, .iload 10, 2), (343, .invokevirtual 62, 3), (346, .istore 11, 2), (348, .aload_n 1, 1), (349, .iconst 0, 1), (350, .invokevirtual 13, 3), (353, .istore 12, 2), (355, .aload_n 1, 1), (356, .iload 10, 2), (358, .invokevirtual 69, 3), (361, .iload 11, 2), (363, .if_icmp .ne 20, 3), (366, .aload_n 1, 1), (367, .iconst 0, 1), (368, .invokevirtual 13, 3), (371, .iload 12, 2), (373, .iload 10, 2), (375, .iadd, 1), (376, .if_icmp .ne 7, 3), (379, .iconst 1, 1)]
theorem dtL_law_3_ok : ∀ q ∈ dtL_law_3, decode cL_law q.1 = .ok q.2 := by decide +kernel
theorem dL_law_284 : decode cL_law 284 = .ok (.ifCond .eq 8, 3) := dg dtL_law_3_ok 0 rfl
theorem dL_law_287 : decode cL_law 287 = .ok (.ldc 96, 2) := dg dtL_law_3_ok 1 rfl
theorem dL_law_289 : decode cL_law 289 = .ok (.goto 10, 3) := dg dtL_law_3_ok 2 rfl
theorem dL_law_292 : decode cL_law 292 = .ok (.aload_n 1, 1) := dg dtL_law_3_ok 3 rfl
theorem dL_law_293 : decode cL_law 293 = .ok (.iload 10, 2) := dg dtL_law_3_ok 4 rfl
theorem dL_law_295 : decode cL_law 295 = .ok (.iconst 2, 1) := dg dtL_law_3_ok 5 rfl
theorem dL_law_296 : decode cL_law 296 = .ok (.invokevirtual 30, 3) := dg dtL_law_3_ok 6 rfl
theorem dL_law_299 : decode cL_law 299 = .ok (.istore 11, 2) := dg dtL_law_3_ok 7 rfl
theorem dL_law_301 : decode cL_law 301 = .ok (.aload_n 1, 1) := dg dtL_law_3_ok 8 rfl
theorem dL_law_302 : decode cL_law 302 = .ok (.iload 10, 2) := dg dtL_law_3_ok 9 rfl
theorem dL_law_304 : decode cL_law 304 = .ok (.invokevirtual 128, 3) := dg dtL_law_3_ok 10 rfl
theorem dL_law_307 : decode cL_law 307 = .ok (.iload 11, 2) := dg dtL_law_3_ok 11 rfl
theorem dL_law_309 : decode cL_law 309 = .ok (.if_icmp .ne 7, 3) := dg dtL_law_3_ok 12 rfl
theorem dL_law_312 : decode cL_law 312 = .ok (.iconst 1, 1) := dg dtL_law_3_ok 13 rfl
theorem dL_law_313 : decode cL_law 313 = .ok (.goto 4, 3) := dg dtL_law_3_ok 14 rfl
theorem dL_law_316 : decode cL_law 316 = .ok (.iconst 0, 1) := dg dtL_law_3_ok 15 rfl
theorem dL_law_317 : decode cL_law 317 = .ok (.istore 9, 2) := dg dtL_law_3_ok 16 rfl
theorem dL_law_319 : decode cL_law 319 = .ok (.goto 260, 3) := dg dtL_law_3_ok 17 rfl
theorem dL_law_322 : decode cL_law 322 = .ok (.iload 8, 2) := dg dtL_law_3_ok 18 rfl
theorem dL_law_324 : decode cL_law 324 = .ok (.bipush 13, 2) := dg dtL_law_3_ok 19 rfl
theorem dL_law_326 : decode cL_law 326 = .ok (.if_icmp .ne 63, 3) := dg dtL_law_3_ok 20 rfl
theorem dL_law_329 : decode cL_law 329 = .ok (.iconst 1, 1) := dg dtL_law_3_ok 21 rfl
theorem dL_law_330 : decode cL_law 330 = .ok (.iload 7, 2) := dg dtL_law_3_ok 22 rfl
theorem dL_law_332 : decode cL_law 332 = .ok (.bipush 50, 2) := dg dtL_law_3_ok 23 rfl
theorem dL_law_334 : decode cL_law 334 = .ok (.invokestatic 45, 3) := dg dtL_law_3_ok 24 rfl
theorem dL_law_337 : decode cL_law 337 = .ok (.iadd, 1) := dg dtL_law_3_ok 25 rfl
theorem dL_law_338 : decode cL_law 338 = .ok (.istore 10, 2) := dg dtL_law_3_ok 26 rfl
theorem dL_law_340 : decode cL_law 340 = .ok (.aload_n 1, 1) := dg dtL_law_3_ok 27 rfl
theorem dL_law_341 : decode cL_law 341 = .ok (.iload 10, 2) := dg dtL_law_3_ok 28 rfl
theorem dL_law_343 : decode cL_law 343 = .ok (.invokevirtual 62, 3) := dg dtL_law_3_ok 29 rfl
theorem dL_law_346 : decode cL_law 346 = .ok (.istore 11, 2) := dg dtL_law_3_ok 30 rfl
theorem dL_law_348 : decode cL_law 348 = .ok (.aload_n 1, 1) := dg dtL_law_3_ok 31 rfl
theorem dL_law_349 : decode cL_law 349 = .ok (.iconst 0, 1) := dg dtL_law_3_ok 32 rfl
theorem dL_law_350 : decode cL_law 350 = .ok (.invokevirtual 13, 3) := dg dtL_law_3_ok 33 rfl
theorem dL_law_353 : decode cL_law 353 = .ok (.istore 12, 2) := dg dtL_law_3_ok 34 rfl
theorem dL_law_355 : decode cL_law 355 = .ok (.aload_n 1, 1) := dg dtL_law_3_ok 35 rfl
theorem dL_law_356 : decode cL_law 356 = .ok (.iload 10, 2) := dg dtL_law_3_ok 36 rfl
theorem dL_law_358 : decode cL_law 358 = .ok (.invokevirtual 69, 3) := dg dtL_law_3_ok 37 rfl
theorem dL_law_361 : decode cL_law 361 = .ok (.iload 11, 2) := dg dtL_law_3_ok 38 rfl
theorem dL_law_363 : decode cL_law 363 = .ok (.if_icmp .ne 20, 3) := dg dtL_law_3_ok 39 rfl
theorem dL_law_366 : decode cL_law 366 = .ok (.aload_n 1, 1) := dg dtL_law_3_ok 40 rfl
theorem dL_law_367 : decode cL_law 367 = .ok (.iconst 0, 1) := dg dtL_law_3_ok 41 rfl
theorem dL_law_368 : decode cL_law 368 = .ok (.invokevirtual 13, 3) := dg dtL_law_3_ok 42 rfl
theorem dL_law_371 : decode cL_law 371 = .ok (.iload 12, 2) := dg dtL_law_3_ok 43 rfl
theorem dL_law_373 : decode cL_law 373 = .ok (.iload 10, 2) := dg dtL_law_3_ok 44 rfl
theorem dL_law_375 : decode cL_law 375 = .ok (.iadd, 1) := dg dtL_law_3_ok 45 rfl
theorem dL_law_376 : decode cL_law 376 = .ok (.if_icmp .ne 7, 3) := dg dtL_law_3_ok 46 rfl
theorem dL_law_379 : decode cL_law 379 = .ok (.iconst 1, 1) := dg dtL_law_3_ok 47 rfl
def dtL_law_4 : List (Nat × Instr × Nat) := [(380, .goto 4, 3), (383, .iconst 0, 1), (384, .istore 9, 2), (386, .goto 193, 3), (389, .iload 8, 2), (391, .bipush 14, 2), (393, .if_icmp .ne 107, 3), (396, .aload_n 1, 1), (397, .bipush 8, 2), (399, .invokevirtual 13, 3), (402, .istore 10, 2), (404, .aload_n 1, 1), (405, .iload 7, 2), (407, .bipush 101, 2), (409, .invokestatic 45, 3), (412, .iload 7, 2), (414, .bipush 7, 2), (416, .ishr, 1), (417, .sipush 200, 3), (420, .invokestatic 45, 3), (423, .iload 7, 2), (425, .bipush 11, 2), (427, .ishr, 1), (428, .bipush 50, 2), (430, .invokestatic 45, 3), (433, .invokevirtual 141, 3), (436, .iload 10, 2), (438, .if_icmp .ne 56, 3), (441, .aload_n 1, 1), (442, .iconst 1, 1), (443, .iload 6, 2), (445, .bipush 120, 2), (447, .invokestatic 45, 3), (450, .iadd, 1), (451, .iconst 1, 1), (452, .iload 6, 2), (454, .iconst 3, 1), (455, .ishr, 1), (456, .bipush 60, 2), (458, .invokestatic 45, 3), (461, .iadd, 1), (462, .invokevirtual 138, 3), (465, .ifCond .le 29, 3), (468, .aload_n 1, 1), (469, .iload 6, 2), (471, .bipush 6, 2), (473, .invokestatic 45, 3), (476, .iload 7, 2)]
theorem dtL_law_4_ok : ∀ q ∈ dtL_law_4, decode cL_law q.1 = .ok q.2 := by decide +kernel
theorem dL_law_380 : decode cL_law 380 = .ok (.goto 4, 3) := dg dtL_law_4_ok 0 rfl
theorem dL_law_383 : decode cL_law 383 = .ok (.iconst 0, 1) := dg dtL_law_4_ok 1 rfl
theorem dL_law_384 : decode cL_law 384 = .ok (.istore 9, 2) := dg dtL_law_4_ok 2 rfl
theorem dL_law_386 : decode cL_law 386 = .ok (.goto 193, 3) := dg dtL_law_4_ok 3 rfl
theorem dL_law_389 : decode cL_law 389 = .ok (.iload 8, 2) := dg dtL_law_4_ok 4 rfl
theorem dL_law_391 : decode cL_law 391 = .ok (.bipush 14, 2) := dg dtL_law_4_ok 5 rfl
theorem dL_law_393 : decode cL_law 393 = .ok (.if_icmp .ne 107, 3) := dg dtL_law_4_ok 6 rfl
theorem dL_law_396 : decode cL_law 396 = .ok (.aload_n 1, 1) := dg dtL_law_4_ok 7 rfl
theorem dL_law_397 : decode cL_law 397 = .ok (.bipush 8, 2) := dg dtL_law_4_ok 8 rfl
theorem dL_law_399 : decode cL_law 399 = .ok (.invokevirtual 13, 3) := dg dtL_law_4_ok 9 rfl
theorem dL_law_402 : decode cL_law 402 = .ok (.istore 10, 2) := dg dtL_law_4_ok 10 rfl
theorem dL_law_404 : decode cL_law 404 = .ok (.aload_n 1, 1) := dg dtL_law_4_ok 11 rfl
theorem dL_law_405 : decode cL_law 405 = .ok (.iload 7, 2) := dg dtL_law_4_ok 12 rfl
theorem dL_law_407 : decode cL_law 407 = .ok (.bipush 101, 2) := dg dtL_law_4_ok 13 rfl
theorem dL_law_409 : decode cL_law 409 = .ok (.invokestatic 45, 3) := dg dtL_law_4_ok 14 rfl
theorem dL_law_412 : decode cL_law 412 = .ok (.iload 7, 2) := dg dtL_law_4_ok 15 rfl
theorem dL_law_414 : decode cL_law 414 = .ok (.bipush 7, 2) := dg dtL_law_4_ok 16 rfl
theorem dL_law_416 : decode cL_law 416 = .ok (.ishr, 1) := dg dtL_law_4_ok 17 rfl
theorem dL_law_417 : decode cL_law 417 = .ok (.sipush 200, 3) := dg dtL_law_4_ok 18 rfl
theorem dL_law_420 : decode cL_law 420 = .ok (.invokestatic 45, 3) := dg dtL_law_4_ok 19 rfl
theorem dL_law_423 : decode cL_law 423 = .ok (.iload 7, 2) := dg dtL_law_4_ok 20 rfl
theorem dL_law_425 : decode cL_law 425 = .ok (.bipush 11, 2) := dg dtL_law_4_ok 21 rfl
theorem dL_law_427 : decode cL_law 427 = .ok (.ishr, 1) := dg dtL_law_4_ok 22 rfl
theorem dL_law_428 : decode cL_law 428 = .ok (.bipush 50, 2) := dg dtL_law_4_ok 23 rfl
theorem dL_law_430 : decode cL_law 430 = .ok (.invokestatic 45, 3) := dg dtL_law_4_ok 24 rfl
theorem dL_law_433 : decode cL_law 433 = .ok (.invokevirtual 141, 3) := dg dtL_law_4_ok 25 rfl
theorem dL_law_436 : decode cL_law 436 = .ok (.iload 10, 2) := dg dtL_law_4_ok 26 rfl
theorem dL_law_438 : decode cL_law 438 = .ok (.if_icmp .ne 56, 3) := dg dtL_law_4_ok 27 rfl
theorem dL_law_441 : decode cL_law 441 = .ok (.aload_n 1, 1) := dg dtL_law_4_ok 28 rfl
theorem dL_law_442 : decode cL_law 442 = .ok (.iconst 1, 1) := dg dtL_law_4_ok 29 rfl
theorem dL_law_443 : decode cL_law 443 = .ok (.iload 6, 2) := dg dtL_law_4_ok 30 rfl
theorem dL_law_445 : decode cL_law 445 = .ok (.bipush 120, 2) := dg dtL_law_4_ok 31 rfl
theorem dL_law_447 : decode cL_law 447 = .ok (.invokestatic 45, 3) := dg dtL_law_4_ok 32 rfl
theorem dL_law_450 : decode cL_law 450 = .ok (.iadd, 1) := dg dtL_law_4_ok 33 rfl
theorem dL_law_451 : decode cL_law 451 = .ok (.iconst 1, 1) := dg dtL_law_4_ok 34 rfl
theorem dL_law_452 : decode cL_law 452 = .ok (.iload 6, 2) := dg dtL_law_4_ok 35 rfl
theorem dL_law_454 : decode cL_law 454 = .ok (.iconst 3, 1) := dg dtL_law_4_ok 36 rfl
theorem dL_law_455 : decode cL_law 455 = .ok (.ishr, 1) := dg dtL_law_4_ok 37 rfl
theorem dL_law_456 : decode cL_law 456 = .ok (.bipush 60, 2) := dg dtL_law_4_ok 38 rfl
theorem dL_law_458 : decode cL_law 458 = .ok (.invokestatic 45, 3) := dg dtL_law_4_ok 39 rfl
theorem dL_law_461 : decode cL_law 461 = .ok (.iadd, 1) := dg dtL_law_4_ok 40 rfl
theorem dL_law_462 : decode cL_law 462 = .ok (.invokevirtual 138, 3) := dg dtL_law_4_ok 41 rfl
theorem dL_law_465 : decode cL_law 465 = .ok (.ifCond .le 29, 3) := dg dtL_law_4_ok 42 rfl
theorem dL_law_468 : decode cL_law 468 = .ok (.aload_n 1, 1) := dg dtL_law_4_ok 43 rfl
theorem dL_law_469 : decode cL_law 469 = .ok (.iload 6, 2) := dg dtL_law_4_ok 44 rfl
theorem dL_law_471 : decode cL_law 471 = .ok (.bipush 6, 2) := dg dtL_law_4_ok 45 rfl
theorem dL_law_473 : decode cL_law 473 = .ok (.invokestatic 45, 3) := dg dtL_law_4_ok 46 rfl
theorem dL_law_476 : decode cL_law 476 = .ok (.iload 7, 2) := dg dtL_law_4_ok 47 rfl
def dtL_law_5 : List (Nat × Instr × Nat) := [(478, .sipush 1001, 3), (481, .invokestatic 45, 3), (484, .invokevirtual 145, 3), (487, .ifCond .lt 7, 3), (490, .iconst 1, 1), (491, .goto 4, 3), (494, .iconst 0, 1), (495, .istore 9, 2), (497, .goto 82, 3), (500, .iload 8, 2), (502, .bipush 15, 2), (504, .if_icmp .ne 34, 3), (507, .aload_n 1, 1), (508, .iconst 1, 1), (509, .invokevirtual 135, 3), (512, .aload_n 1, 1), (513, .iconst 2, 1), (514, .invokevirtual 13, 3), (517, .if_icmp .ne 7, 3), (520, .iconst 1, 1), (521, .goto 4, 3), (524, .iconst 0, 1), (525, .istore 9, 2), (527, .aload_n 1, 1), (528, .invokestatic 65, 3), (531, .lstore_n 2, 1), (532, .iconst 1, 1), (533, .istore 4, 2), (535, .goto 44, 3), (538, .iload 8, 2), (540, .bipush 16, 2), (542, .if_icmp .ne 37, 3), (545, .iload 4, 2), (547, .ifCond .eq 32, 3), (550, .aload_n 1, 1), (551, .iconst 1, 1), (552, .invokevirtual 132, 3), (555, .aload_n 1, 1), (556, .iconst 2, 1), (557, .invokevirtual 13, 3), (560, .if_icmp .ne 16, 3), (563, .aload_n 1, 1), (564, .invokestatic 65, 3), (567, .lload_n 2, 1), (568, .lcmp, 1), (569, .ifCond .ne 7, 3), (572, .iconst 1, 1), (573, .goto 4, 3)]
theorem dtL_law_5_ok : ∀ q ∈ dtL_law_5, decode cL_law q.1 = .ok q.2 := by decide +kernel
theorem dL_law_478 : decode cL_law 478 = .ok (.sipush 1001, 3) := dg dtL_law_5_ok 0 rfl
theorem dL_law_481 : decode cL_law 481 = .ok (.invokestatic 45, 3) := dg dtL_law_5_ok 1 rfl
theorem dL_law_484 : decode cL_law 484 = .ok (.invokevirtual 145, 3) := dg dtL_law_5_ok 2 rfl
theorem dL_law_487 : decode cL_law 487 = .ok (.ifCond .lt 7, 3) := dg dtL_law_5_ok 3 rfl
theorem dL_law_490 : decode cL_law 490 = .ok (.iconst 1, 1) := dg dtL_law_5_ok 4 rfl
theorem dL_law_491 : decode cL_law 491 = .ok (.goto 4, 3) := dg dtL_law_5_ok 5 rfl
theorem dL_law_494 : decode cL_law 494 = .ok (.iconst 0, 1) := dg dtL_law_5_ok 6 rfl
theorem dL_law_495 : decode cL_law 495 = .ok (.istore 9, 2) := dg dtL_law_5_ok 7 rfl
theorem dL_law_497 : decode cL_law 497 = .ok (.goto 82, 3) := dg dtL_law_5_ok 8 rfl
theorem dL_law_500 : decode cL_law 500 = .ok (.iload 8, 2) := dg dtL_law_5_ok 9 rfl
theorem dL_law_502 : decode cL_law 502 = .ok (.bipush 15, 2) := dg dtL_law_5_ok 10 rfl
theorem dL_law_504 : decode cL_law 504 = .ok (.if_icmp .ne 34, 3) := dg dtL_law_5_ok 11 rfl
theorem dL_law_507 : decode cL_law 507 = .ok (.aload_n 1, 1) := dg dtL_law_5_ok 12 rfl
theorem dL_law_508 : decode cL_law 508 = .ok (.iconst 1, 1) := dg dtL_law_5_ok 13 rfl
theorem dL_law_509 : decode cL_law 509 = .ok (.invokevirtual 135, 3) := dg dtL_law_5_ok 14 rfl
theorem dL_law_512 : decode cL_law 512 = .ok (.aload_n 1, 1) := dg dtL_law_5_ok 15 rfl
theorem dL_law_513 : decode cL_law 513 = .ok (.iconst 2, 1) := dg dtL_law_5_ok 16 rfl
theorem dL_law_514 : decode cL_law 514 = .ok (.invokevirtual 13, 3) := dg dtL_law_5_ok 17 rfl
theorem dL_law_517 : decode cL_law 517 = .ok (.if_icmp .ne 7, 3) := dg dtL_law_5_ok 18 rfl
theorem dL_law_520 : decode cL_law 520 = .ok (.iconst 1, 1) := dg dtL_law_5_ok 19 rfl
theorem dL_law_521 : decode cL_law 521 = .ok (.goto 4, 3) := dg dtL_law_5_ok 20 rfl
theorem dL_law_524 : decode cL_law 524 = .ok (.iconst 0, 1) := dg dtL_law_5_ok 21 rfl
theorem dL_law_525 : decode cL_law 525 = .ok (.istore 9, 2) := dg dtL_law_5_ok 22 rfl
theorem dL_law_527 : decode cL_law 527 = .ok (.aload_n 1, 1) := dg dtL_law_5_ok 23 rfl
theorem dL_law_528 : decode cL_law 528 = .ok (.invokestatic 65, 3) := dg dtL_law_5_ok 24 rfl
theorem dL_law_531 : decode cL_law 531 = .ok (.lstore_n 2, 1) := dg dtL_law_5_ok 25 rfl
theorem dL_law_532 : decode cL_law 532 = .ok (.iconst 1, 1) := dg dtL_law_5_ok 26 rfl
theorem dL_law_533 : decode cL_law 533 = .ok (.istore 4, 2) := dg dtL_law_5_ok 27 rfl
theorem dL_law_535 : decode cL_law 535 = .ok (.goto 44, 3) := dg dtL_law_5_ok 28 rfl
theorem dL_law_538 : decode cL_law 538 = .ok (.iload 8, 2) := dg dtL_law_5_ok 29 rfl
theorem dL_law_540 : decode cL_law 540 = .ok (.bipush 16, 2) := dg dtL_law_5_ok 30 rfl
theorem dL_law_542 : decode cL_law 542 = .ok (.if_icmp .ne 37, 3) := dg dtL_law_5_ok 31 rfl
theorem dL_law_545 : decode cL_law 545 = .ok (.iload 4, 2) := dg dtL_law_5_ok 32 rfl
theorem dL_law_547 : decode cL_law 547 = .ok (.ifCond .eq 32, 3) := dg dtL_law_5_ok 33 rfl
theorem dL_law_550 : decode cL_law 550 = .ok (.aload_n 1, 1) := dg dtL_law_5_ok 34 rfl
theorem dL_law_551 : decode cL_law 551 = .ok (.iconst 1, 1) := dg dtL_law_5_ok 35 rfl
theorem dL_law_552 : decode cL_law 552 = .ok (.invokevirtual 132, 3) := dg dtL_law_5_ok 36 rfl
theorem dL_law_555 : decode cL_law 555 = .ok (.aload_n 1, 1) := dg dtL_law_5_ok 37 rfl
theorem dL_law_556 : decode cL_law 556 = .ok (.iconst 2, 1) := dg dtL_law_5_ok 38 rfl
theorem dL_law_557 : decode cL_law 557 = .ok (.invokevirtual 13, 3) := dg dtL_law_5_ok 39 rfl
theorem dL_law_560 : decode cL_law 560 = .ok (.if_icmp .ne 16, 3) := dg dtL_law_5_ok 40 rfl
theorem dL_law_563 : decode cL_law 563 = .ok (.aload_n 1, 1) := dg dtL_law_5_ok 41 rfl
theorem dL_law_564 : decode cL_law 564 = .ok (.invokestatic 65, 3) := dg dtL_law_5_ok 42 rfl
theorem dL_law_567 : decode cL_law 567 = .ok (.lload_n 2, 1) := dg dtL_law_5_ok 43 rfl
theorem dL_law_568 : decode cL_law 568 = .ok (.lcmp, 1) := dg dtL_law_5_ok 44 rfl
theorem dL_law_569 : decode cL_law 569 = .ok (.ifCond .ne 7, 3) := dg dtL_law_5_ok 45 rfl
theorem dL_law_572 : decode cL_law 572 = .ok (.iconst 1, 1) := dg dtL_law_5_ok 46 rfl
theorem dL_law_573 : decode cL_law 573 = .ok (.goto 4, 3) := dg dtL_law_5_ok 47 rfl
def dtL_law_6 : List (Nat × Instr × Nat) := [(576, .iconst 0, 1), (577, .istore 9, 2), (579, .iload 9, 2), (581, .ifCond .eq 53, 3), (584, .aload_n 1, 1), (585, .invokestatic 166, 3), (588, .ifCond .eq 46, 3), (591, .aload_n 1, 1), (592, .iload 7, 2), (594, .invokestatic 170, 3), (597, .ifCond .eq 37, 3), (600, .aload_n 1, 1), (601, .iload 7, 2), (603, .invokestatic 174, 3), (606, .ifCond .eq 28, 3), (609, .aload_n 1, 1), (610, .iconst 2, 1), (611, .invokevirtual 13, 3), (614, .ifCond .le 22, 3), (617, .aload_n 1, 1), (618, .iload 7, 2), (620, .aload_n 1, 1), (621, .iconst 2, 1), (622, .invokevirtual 13, 3), (625, .invokestatic 45, 3), (628, .invokestatic 177, 3), (631, .ifCond .ne 5, 3), (634, .iconst 0, 1), (635, .ireturn, 1), (636, .iinc 5 1, 3), (639, .goto (-537), 3), (642, .iconst 1, 1), (643, .ireturn, 1)]
theorem dtL_law_6_ok : ∀ q ∈ dtL_law_6, decode cL_law q.1 = .ok q.2 := by decide +kernel
theorem dL_law_576 : decode cL_law 576 = .ok (.iconst 0, 1) := dg dtL_law_6_ok 0 rfl
theorem dL_law_577 : decode cL_law 577 = .ok (.istore 9, 2) := dg dtL_law_6_ok 1 rfl
theorem dL_law_579 : decode cL_law 579 = .ok (.iload 9, 2) := dg dtL_law_6_ok 2 rfl
theorem dL_law_581 : decode cL_law 581 = .ok (.ifCond .eq 53, 3) := dg dtL_law_6_ok 3 rfl
theorem dL_law_584 : decode cL_law 584 = .ok (.aload_n 1, 1) := dg dtL_law_6_ok 4 rfl
theorem dL_law_585 : decode cL_law 585 = .ok (.invokestatic 166, 3) := dg dtL_law_6_ok 5 rfl
theorem dL_law_588 : decode cL_law 588 = .ok (.ifCond .eq 46, 3) := dg dtL_law_6_ok 6 rfl
theorem dL_law_591 : decode cL_law 591 = .ok (.aload_n 1, 1) := dg dtL_law_6_ok 7 rfl
theorem dL_law_592 : decode cL_law 592 = .ok (.iload 7, 2) := dg dtL_law_6_ok 8 rfl
theorem dL_law_594 : decode cL_law 594 = .ok (.invokestatic 170, 3) := dg dtL_law_6_ok 9 rfl
theorem dL_law_597 : decode cL_law 597 = .ok (.ifCond .eq 37, 3) := dg dtL_law_6_ok 10 rfl
theorem dL_law_600 : decode cL_law 600 = .ok (.aload_n 1, 1) := dg dtL_law_6_ok 11 rfl
theorem dL_law_601 : decode cL_law 601 = .ok (.iload 7, 2) := dg dtL_law_6_ok 12 rfl
theorem dL_law_603 : decode cL_law 603 = .ok (.invokestatic 174, 3) := dg dtL_law_6_ok 13 rfl
theorem dL_law_606 : decode cL_law 606 = .ok (.ifCond .eq 28, 3) := dg dtL_law_6_ok 14 rfl
theorem dL_law_609 : decode cL_law 609 = .ok (.aload_n 1, 1) := dg dtL_law_6_ok 15 rfl
theorem dL_law_610 : decode cL_law 610 = .ok (.iconst 2, 1) := dg dtL_law_6_ok 16 rfl
theorem dL_law_611 : decode cL_law 611 = .ok (.invokevirtual 13, 3) := dg dtL_law_6_ok 17 rfl
theorem dL_law_614 : decode cL_law 614 = .ok (.ifCond .le 22, 3) := dg dtL_law_6_ok 18 rfl
theorem dL_law_617 : decode cL_law 617 = .ok (.aload_n 1, 1) := dg dtL_law_6_ok 19 rfl
theorem dL_law_618 : decode cL_law 618 = .ok (.iload 7, 2) := dg dtL_law_6_ok 20 rfl
theorem dL_law_620 : decode cL_law 620 = .ok (.aload_n 1, 1) := dg dtL_law_6_ok 21 rfl
theorem dL_law_621 : decode cL_law 621 = .ok (.iconst 2, 1) := dg dtL_law_6_ok 22 rfl
theorem dL_law_622 : decode cL_law 622 = .ok (.invokevirtual 13, 3) := dg dtL_law_6_ok 23 rfl
theorem dL_law_625 : decode cL_law 625 = .ok (.invokestatic 45, 3) := dg dtL_law_6_ok 24 rfl
theorem dL_law_628 : decode cL_law 628 = .ok (.invokestatic 177, 3) := dg dtL_law_6_ok 25 rfl
theorem dL_law_631 : decode cL_law 631 = .ok (.ifCond .ne 5, 3) := dg dtL_law_6_ok 26 rfl
theorem dL_law_634 : decode cL_law 634 = .ok (.iconst 0, 1) := dg dtL_law_6_ok 27 rfl
theorem dL_law_635 : decode cL_law 635 = .ok (.ireturn, 1) := dg dtL_law_6_ok 28 rfl
theorem dL_law_636 : decode cL_law 636 = .ok (.iinc 5 1, 3) := dg dtL_law_6_ok 29 rfl
theorem dL_law_639 : decode cL_law 639 = .ok (.goto (-537), 3) := dg dtL_law_6_ok 30 rfl
theorem dL_law_642 : decode cL_law 642 = .ok (.iconst 1, 1) := dg dtL_law_6_ok 31 rfl
theorem dL_law_643 : decode cL_law 643 = .ok (.ireturn, 1) := dg dtL_law_6_ok 32 rfl
