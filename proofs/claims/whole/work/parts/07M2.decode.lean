theorem de_M_play_2 : decode am_M_play.2.1 2 = .ok (.invokevirtual 168, 3) := by decide +kernel
theorem de_M_play_5 : decode am_M_play.2.1 5 = .ok (.ifCond .ne (9), 3) := by decide +kernel
theorem de_M_play_8 : decode am_M_play.2.1 8 = .ok (.aload_n 0, 1) := by decide +kernel
theorem de_M_play_9 : decode am_M_play.2.1 9 = .ok (.iconst (-1), 1) := by decide +kernel
theorem de_M_play_10 : decode am_M_play.2.1 10 = .ok (.invokevirtual 94, 3) := by decide +kernel
theorem de_M_play_13 : decode am_M_play.2.1 13 = .ok (.ireturn, 1) := by decide +kernel
theorem de_M_play_14 : decode am_M_play.2.1 14 = .ok (.aload_n 0, 1) := by decide +kernel
theorem de_M_play_15 : decode am_M_play.2.1 15 = .ok (.iload_n 1, 1) := by decide +kernel
theorem de_M_play_16 : decode am_M_play.2.1 16 = .ok (.iload_n 2, 1) := by decide +kernel
theorem de_M_play_17 : decode am_M_play.2.1 17 = .ok (.aload_n 0, 1) := by decide +kernel
theorem de_M_play_18 : decode am_M_play.2.1 18 = .ok (.invokevirtual 213, 3) := by decide +kernel
theorem de_M_play_21 : decode am_M_play.2.1 21 = .ok (.aload_n 0, 1) := by decide +kernel
theorem de_M_play_22 : decode am_M_play.2.1 22 = .ok (.invokevirtual 216, 3) := by decide +kernel
theorem de_M_play_25 : decode am_M_play.2.1 25 = .ok (.invokevirtual 204, 3) := by decide +kernel
theorem de_M_play_28 : decode am_M_play.2.1 28 = .ok (.ifCond .ne (10), 3) := by decide +kernel
theorem de_M_play_31 : decode am_M_play.2.1 31 = .ok (.aload_n 0, 1) := by decide +kernel
theorem de_M_play_32 : decode am_M_play.2.1 32 = .ok (.bipush (-6), 2) := by decide +kernel
theorem de_M_play_34 : decode am_M_play.2.1 34 = .ok (.invokevirtual 94, 3) := by decide +kernel
theorem de_M_play_37 : decode am_M_play.2.1 37 = .ok (.ireturn, 1) := by decide +kernel
theorem de_M_play_38 : decode am_M_play.2.1 38 = .ok (.aload_n 0, 1) := by decide +kernel
theorem de_M_play_39 : decode am_M_play.2.1 39 = .ok (.iload_n 1, 1) := by decide +kernel
theorem de_M_play_40 : decode am_M_play.2.1 40 = .ok (.iload_n 2, 1) := by decide +kernel
theorem de_M_play_41 : decode am_M_play.2.1 41 = .ok (.invokevirtual 232, 3) := by decide +kernel
theorem de_M_play_44 : decode am_M_play.2.1 44 = .ok (.aload_n 0, 1) := by decide +kernel
theorem de_M_play_45 : decode am_M_play.2.1 45 = .ok (.aload_n 0, 1) := by decide +kernel
theorem de_M_play_46 : decode am_M_play.2.1 46 = .ok (.getfield 171, 3) := by decide +kernel
theorem de_M_play_49 : decode am_M_play.2.1 49 = .ok (.aload_n 0, 1) := by decide +kernel
theorem de_M_play_50 : decode am_M_play.2.1 50 = .ok (.getfield 174, 3) := by decide +kernel
theorem de_M_play_53 : decode am_M_play.2.1 53 = .ok (.ior, 1) := by decide +kernel
theorem de_M_play_54 : decode am_M_play.2.1 54 = .ok (.invokevirtual 101, 3) := by decide +kernel
theorem de_M_play_57 : decode am_M_play.2.1 57 = .ok (.ireturn, 1) := by decide +kernel
theorem de_M_game_0 : decode am_M_game.2.1 0 = .ok (.aload_n 0, 1) := by decide +kernel
theorem de_M_game_1 : decode am_M_game.2.1 1 = .ok (.iload_n 1, 1) := by decide +kernel
theorem de_M_game_2 : decode am_M_game.2.1 2 = .ok (.invokevirtual 90, 3) := by decide +kernel
theorem de_M_game_5 : decode am_M_game.2.1 5 = .ok (.ifCond .eq (11), 3) := by decide +kernel
theorem de_M_game_8 : decode am_M_game.2.1 8 = .ok (.aload_n 0, 1) := by decide +kernel
theorem de_M_game_9 : decode am_M_game.2.1 9 = .ok (.iload_n 2, 1) := by decide +kernel
theorem de_M_game_10 : decode am_M_game.2.1 10 = .ok (.invokevirtual 90, 3) := by decide +kernel
theorem de_M_game_13 : decode am_M_game.2.1 13 = .ok (.ifCond .ne (9), 3) := by decide +kernel
theorem de_M_game_16 : decode am_M_game.2.1 16 = .ok (.aload_n 0, 1) := by decide +kernel
theorem de_M_game_17 : decode am_M_game.2.1 17 = .ok (.iconst (-1), 1) := by decide +kernel
theorem de_M_game_18 : decode am_M_game.2.1 18 = .ok (.invokevirtual 94, 3) := by decide +kernel
theorem de_M_game_21 : decode am_M_game.2.1 21 = .ok (.ireturn, 1) := by decide +kernel
theorem de_M_game_22 : decode am_M_game.2.1 22 = .ok (.aload_n 0, 1) := by decide +kernel
theorem de_M_game_23 : decode am_M_game.2.1 23 = .ok (.getfield 35, 3) := by decide +kernel
theorem de_M_game_26 : decode am_M_game.2.1 26 = .ok (.iload_n 1, 1) := by decide +kernel
theorem de_M_game_27 : decode am_M_game.2.1 27 = .ok (.iaload, 1) := by decide +kernel
theorem de_M_game_28 : decode am_M_game.2.1 28 = .ok (.iconst 2, 1) := by decide +kernel
theorem de_M_game_29 : decode am_M_game.2.1 29 = .ok (.if_icmp .eq (13), 3) := by decide +kernel
theorem de_M_game_32 : decode am_M_game.2.1 32 = .ok (.aload_n 0, 1) := by decide +kernel
theorem de_M_game_33 : decode am_M_game.2.1 33 = .ok (.getfield 35, 3) := by decide +kernel
theorem de_M_game_36 : decode am_M_game.2.1 36 = .ok (.iload_n 2, 1) := by decide +kernel
theorem de_M_game_37 : decode am_M_game.2.1 37 = .ok (.iaload, 1) := by decide +kernel
theorem de_M_game_38 : decode am_M_game.2.1 38 = .ok (.iconst 2, 1) := by decide +kernel
theorem de_M_game_39 : decode am_M_game.2.1 39 = .ok (.if_icmp .ne (10), 3) := by decide +kernel
theorem de_M_game_42 : decode am_M_game.2.1 42 = .ok (.aload_n 0, 1) := by decide +kernel
theorem de_M_game_43 : decode am_M_game.2.1 43 = .ok (.bipush (-2), 2) := by decide +kernel
theorem de_M_game_45 : decode am_M_game.2.1 45 = .ok (.invokevirtual 94, 3) := by decide +kernel
theorem de_M_game_48 : decode am_M_game.2.1 48 = .ok (.ireturn, 1) := by decide +kernel
theorem de_M_game_49 : decode am_M_game.2.1 49 = .ok (.aload_n 0, 1) := by decide +kernel
theorem de_M_game_50 : decode am_M_game.2.1 50 = .ok (.getfield 35, 3) := by decide +kernel
theorem de_M_game_53 : decode am_M_game.2.1 53 = .ok (.iload_n 1, 1) := by decide +kernel
theorem de_M_game_54 : decode am_M_game.2.1 54 = .ok (.iaload, 1) := by decide +kernel
theorem de_M_game_55 : decode am_M_game.2.1 55 = .ok (.ifCond .eq (12), 3) := by decide +kernel
theorem de_M_game_58 : decode am_M_game.2.1 58 = .ok (.aload_n 0, 1) := by decide +kernel
theorem de_M_game_59 : decode am_M_game.2.1 59 = .ok (.getfield 35, 3) := by decide +kernel
theorem de_M_game_62 : decode am_M_game.2.1 62 = .ok (.iload_n 2, 1) := by decide +kernel
theorem de_M_game_63 : decode am_M_game.2.1 63 = .ok (.iaload, 1) := by decide +kernel
theorem de_M_game_64 : decode am_M_game.2.1 64 = .ok (.ifCond .ne (10), 3) := by decide +kernel
theorem de_M_game_67 : decode am_M_game.2.1 67 = .ok (.aload_n 0, 1) := by decide +kernel
theorem de_M_game_68 : decode am_M_game.2.1 68 = .ok (.bipush (-3), 2) := by decide +kernel
theorem de_M_game_70 : decode am_M_game.2.1 70 = .ok (.invokevirtual 94, 3) := by decide +kernel
theorem de_M_game_73 : decode am_M_game.2.1 73 = .ok (.ireturn, 1) := by decide +kernel
theorem de_M_game_74 : decode am_M_game.2.1 74 = .ok (.iload_n 3, 1) := by decide +kernel
theorem de_M_game_75 : decode am_M_game.2.1 75 = .ok (.ifCond .ge (10), 3) := by decide +kernel
theorem de_M_game_78 : decode am_M_game.2.1 78 = .ok (.aload_n 0, 1) := by decide +kernel
theorem de_M_game_79 : decode am_M_game.2.1 79 = .ok (.bipush (-4), 2) := by decide +kernel
theorem de_M_game_81 : decode am_M_game.2.1 81 = .ok (.invokevirtual 94, 3) := by decide +kernel
theorem de_M_game_84 : decode am_M_game.2.1 84 = .ok (.ireturn, 1) := by decide +kernel
theorem de_M_game_85 : decode am_M_game.2.1 85 = .ok (.aload_n 0, 1) := by decide +kernel
theorem de_M_game_86 : decode am_M_game.2.1 86 = .ok (.getfield 41, 3) := by decide +kernel
theorem de_M_game_89 : decode am_M_game.2.1 89 = .ok (.iload_n 1, 1) := by decide +kernel
theorem de_M_game_90 : decode am_M_game.2.1 90 = .ok (.iaload, 1) := by decide +kernel
theorem de_M_game_91 : decode am_M_game.2.1 91 = .ok (.bipush (12), 2) := by decide +kernel
theorem de_M_game_93 : decode am_M_game.2.1 93 = .ok (.if_icmp .lt (13), 3) := by decide +kernel
theorem de_M_game_96 : decode am_M_game.2.1 96 = .ok (.aload_n 0, 1) := by decide +kernel
theorem de_M_game_97 : decode am_M_game.2.1 97 = .ok (.getfield 41, 3) := by decide +kernel
theorem de_M_game_100 : decode am_M_game.2.1 100 = .ok (.iload_n 2, 1) := by decide +kernel
theorem de_M_game_101 : decode am_M_game.2.1 101 = .ok (.iaload, 1) := by decide +kernel
theorem de_M_game_102 : decode am_M_game.2.1 102 = .ok (.iload_n 3, 1) := by decide +kernel
theorem de_M_game_103 : decode am_M_game.2.1 103 = .ok (.if_icmp .ge (10), 3) := by decide +kernel
theorem de_M_game_106 : decode am_M_game.2.1 106 = .ok (.aload_n 0, 1) := by decide +kernel
theorem de_M_game_107 : decode am_M_game.2.1 107 = .ok (.bipush (-5), 2) := by decide +kernel
theorem de_M_game_109 : decode am_M_game.2.1 109 = .ok (.invokevirtual 94, 3) := by decide +kernel
theorem de_M_game_112 : decode am_M_game.2.1 112 = .ok (.ireturn, 1) := by decide +kernel
theorem de_M_game_113 : decode am_M_game.2.1 113 = .ok (.iload_n 3, 1) := by decide +kernel
theorem de_M_game_114 : decode am_M_game.2.1 114 = .ok (.bipush (20), 2) := by decide +kernel
theorem de_M_game_116 : decode am_M_game.2.1 116 = .ok (.if_icmp .gt (15), 3) := by decide +kernel
theorem de_M_game_119 : decode am_M_game.2.1 119 = .ok (.iload 4, 2) := by decide +kernel
theorem de_M_game_121 : decode am_M_game.2.1 121 = .ok (.iconst (-1), 1) := by decide +kernel
theorem de_M_game_122 : decode am_M_game.2.1 122 = .ok (.if_icmp .lt (9), 3) := by decide +kernel
theorem de_M_game_125 : decode am_M_game.2.1 125 = .ok (.iload 4, 2) := by decide +kernel
theorem de_M_game_127 : decode am_M_game.2.1 127 = .ok (.iconst 1, 1) := by decide +kernel
theorem de_M_game_128 : decode am_M_game.2.1 128 = .ok (.if_icmp .le (10), 3) := by decide +kernel
theorem de_M_game_131 : decode am_M_game.2.1 131 = .ok (.aload_n 0, 1) := by decide +kernel
theorem de_M_game_132 : decode am_M_game.2.1 132 = .ok (.bipush (-6), 2) := by decide +kernel
theorem de_M_game_134 : decode am_M_game.2.1 134 = .ok (.invokevirtual 94, 3) := by decide +kernel
theorem de_M_game_137 : decode am_M_game.2.1 137 = .ok (.ireturn, 1) := by decide +kernel
theorem de_M_game_138 : decode am_M_game.2.1 138 = .ok (.iconst 0, 1) := by decide +kernel
theorem de_M_game_139 : decode am_M_game.2.1 139 = .ok (.istore 5, 2) := by decide +kernel
theorem de_M_game_141 : decode am_M_game.2.1 141 = .ok (.iload 5, 2) := by decide +kernel
theorem de_M_game_143 : decode am_M_game.2.1 143 = .ok (.bipush (12), 2) := by decide +kernel
theorem de_M_game_145 : decode am_M_game.2.1 145 = .ok (.if_icmp .ge (37), 3) := by decide +kernel
theorem de_M_game_148 : decode am_M_game.2.1 148 = .ok (.aload_n 0, 1) := by decide +kernel
theorem de_M_game_149 : decode am_M_game.2.1 149 = .ok (.iload_n 1, 1) := by decide +kernel
theorem de_M_game_150 : decode am_M_game.2.1 150 = .ok (.iload 5, 2) := by decide +kernel
theorem de_M_game_152 : decode am_M_game.2.1 152 = .ok (.invokevirtual 134, 3) := by decide +kernel
theorem de_M_game_155 : decode am_M_game.2.1 155 = .ok (.ifCond .lt (14), 3) := by decide +kernel
theorem de_M_game_158 : decode am_M_game.2.1 158 = .ok (.aload_n 0, 1) := by decide +kernel
theorem de_M_game_159 : decode am_M_game.2.1 159 = .ok (.iload_n 1, 1) := by decide +kernel
theorem de_M_game_160 : decode am_M_game.2.1 160 = .ok (.iload 5, 2) := by decide +kernel
theorem de_M_game_162 : decode am_M_game.2.1 162 = .ok (.invokevirtual 134, 3) := by decide +kernel
theorem de_M_game_165 : decode am_M_game.2.1 165 = .ok (.iconst 2, 1) := by decide +kernel
theorem de_M_game_166 : decode am_M_game.2.1 166 = .ok (.if_icmp .le (10), 3) := by decide +kernel
theorem de_M_game_169 : decode am_M_game.2.1 169 = .ok (.aload_n 0, 1) := by decide +kernel
theorem de_M_game_170 : decode am_M_game.2.1 170 = .ok (.bipush (-6), 2) := by decide +kernel
theorem de_M_game_172 : decode am_M_game.2.1 172 = .ok (.invokevirtual 94, 3) := by decide +kernel
theorem de_M_game_175 : decode am_M_game.2.1 175 = .ok (.ireturn, 1) := by decide +kernel
theorem de_M_game_176 : decode am_M_game.2.1 176 = .ok (.iinc 5 (1), 3) := by decide +kernel
theorem de_M_game_179 : decode am_M_game.2.1 179 = .ok (.goto (-38), 3) := by decide +kernel
theorem de_M_game_182 : decode am_M_game.2.1 182 = .ok (.iconst 0, 1) := by decide +kernel
theorem de_M_game_183 : decode am_M_game.2.1 183 = .ok (.istore 5, 2) := by decide +kernel
theorem de_M_game_185 : decode am_M_game.2.1 185 = .ok (.iload 5, 2) := by decide +kernel
theorem de_M_game_187 : decode am_M_game.2.1 187 = .ok (.iload_n 3, 1) := by decide +kernel
theorem de_M_game_188 : decode am_M_game.2.1 188 = .ok (.if_icmp .ge (30), 3) := by decide +kernel
theorem de_M_game_191 : decode am_M_game.2.1 191 = .ok (.aload_n 0, 1) := by decide +kernel
theorem de_M_game_192 : decode am_M_game.2.1 192 = .ok (.aload_n 0, 1) := by decide +kernel
theorem de_M_game_193 : decode am_M_game.2.1 193 = .ok (.iload_n 2, 1) := by decide +kernel
theorem de_M_game_194 : decode am_M_game.2.1 194 = .ok (.iload 5, 2) := by decide +kernel
theorem de_M_game_196 : decode am_M_game.2.1 196 = .ok (.invokevirtual 134, 3) := by decide +kernel
theorem de_M_game_199 : decode am_M_game.2.1 199 = .ok (.invokevirtual 201, 3) := by decide +kernel
theorem de_M_game_202 : decode am_M_game.2.1 202 = .ok (.ifCond .ne (10), 3) := by decide +kernel
theorem de_M_game_205 : decode am_M_game.2.1 205 = .ok (.aload_n 0, 1) := by decide +kernel
theorem de_M_game_206 : decode am_M_game.2.1 206 = .ok (.bipush (-6), 2) := by decide +kernel
theorem de_M_game_208 : decode am_M_game.2.1 208 = .ok (.invokevirtual 94, 3) := by decide +kernel
theorem de_M_game_211 : decode am_M_game.2.1 211 = .ok (.ireturn, 1) := by decide +kernel
theorem de_M_game_212 : decode am_M_game.2.1 212 = .ok (.iinc 5 (1), 3) := by decide +kernel
theorem de_M_game_215 : decode am_M_game.2.1 215 = .ok (.goto (-30), 3) := by decide +kernel
theorem de_M_game_218 : decode am_M_game.2.1 218 = .ok (.aload_n 0, 1) := by decide +kernel
theorem de_M_game_219 : decode am_M_game.2.1 219 = .ok (.getfield 84, 3) := by decide +kernel
theorem de_M_game_222 : decode am_M_game.2.1 222 = .ok (.bipush (6), 2) := by decide +kernel
theorem de_M_game_224 : decode am_M_game.2.1 224 = .ok (.if_icmp .ne (10), 3) := by decide +kernel
theorem de_M_game_227 : decode am_M_game.2.1 227 = .ok (.aload_n 0, 1) := by decide +kernel
theorem de_M_game_228 : decode am_M_game.2.1 228 = .ok (.bipush (-7), 2) := by decide +kernel
theorem de_M_game_230 : decode am_M_game.2.1 230 = .ok (.invokevirtual 94, 3) := by decide +kernel
theorem de_M_game_233 : decode am_M_game.2.1 233 = .ok (.ireturn, 1) := by decide +kernel
theorem de_M_game_234 : decode am_M_game.2.1 234 = .ok (.iconst 0, 1) := by decide +kernel
theorem de_M_game_235 : decode am_M_game.2.1 235 = .ok (.istore 5, 2) := by decide +kernel
theorem de_M_game_237 : decode am_M_game.2.1 237 = .ok (.iload 5, 2) := by decide +kernel
theorem de_M_game_239 : decode am_M_game.2.1 239 = .ok (.bipush (12), 2) := by decide +kernel
theorem de_M_game_241 : decode am_M_game.2.1 241 = .ok (.if_icmp .ge (31), 3) := by decide +kernel
theorem de_M_game_244 : decode am_M_game.2.1 244 = .ok (.aload_n 0, 1) := by decide +kernel
theorem de_M_game_245 : decode am_M_game.2.1 245 = .ok (.getfield 23, 3) := by decide +kernel
theorem de_M_game_248 : decode am_M_game.2.1 248 = .ok (.bipush (12), 2) := by decide +kernel
theorem de_M_game_250 : decode am_M_game.2.1 250 = .ok (.aload_n 0, 1) := by decide +kernel
theorem de_M_game_251 : decode am_M_game.2.1 251 = .ok (.getfield 84, 3) := by decide +kernel
theorem de_M_game_254 : decode am_M_game.2.1 254 = .ok (.imul, 1) := by decide +kernel
theorem de_M_game_255 : decode am_M_game.2.1 255 = .ok (.iload 5, 2) := by decide +kernel
theorem de_M_game_257 : decode am_M_game.2.1 257 = .ok (.iadd, 1) := by decide +kernel
theorem de_M_game_258 : decode am_M_game.2.1 258 = .ok (.aload_n 0, 1) := by decide +kernel
theorem de_M_game_259 : decode am_M_game.2.1 259 = .ok (.iload_n 1, 1) := by decide +kernel
theorem de_M_game_260 : decode am_M_game.2.1 260 = .ok (.iload 5, 2) := by decide +kernel
theorem de_M_game_262 : decode am_M_game.2.1 262 = .ok (.invokevirtual 134, 3) := by decide +kernel
theorem de_M_game_265 : decode am_M_game.2.1 265 = .ok (.iastore, 1) := by decide +kernel
theorem de_M_game_266 : decode am_M_game.2.1 266 = .ok (.iinc 5 (1), 3) := by decide +kernel
theorem de_M_game_269 : decode am_M_game.2.1 269 = .ok (.goto (-32), 3) := by decide +kernel
theorem de_M_game_272 : decode am_M_game.2.1 272 = .ok (.iconst 0, 1) := by decide +kernel
theorem de_M_game_273 : decode am_M_game.2.1 273 = .ok (.istore 5, 2) := by decide +kernel
theorem de_M_game_275 : decode am_M_game.2.1 275 = .ok (.iload 5, 2) := by decide +kernel
theorem de_M_game_277 : decode am_M_game.2.1 277 = .ok (.iload_n 3, 1) := by decide +kernel
theorem de_M_game_278 : decode am_M_game.2.1 278 = .ok (.if_icmp .ge (31), 3) := by decide +kernel
theorem de_M_game_281 : decode am_M_game.2.1 281 = .ok (.aload_n 0, 1) := by decide +kernel
theorem de_M_game_282 : decode am_M_game.2.1 282 = .ok (.getfield 26, 3) := by decide +kernel
theorem de_M_game_285 : decode am_M_game.2.1 285 = .ok (.bipush (20), 2) := by decide +kernel
theorem de_M_game_287 : decode am_M_game.2.1 287 = .ok (.aload_n 0, 1) := by decide +kernel
theorem de_M_game_288 : decode am_M_game.2.1 288 = .ok (.getfield 84, 3) := by decide +kernel
theorem de_M_game_291 : decode am_M_game.2.1 291 = .ok (.imul, 1) := by decide +kernel
theorem de_M_game_292 : decode am_M_game.2.1 292 = .ok (.iload 5, 2) := by decide +kernel
theorem de_M_game_294 : decode am_M_game.2.1 294 = .ok (.iadd, 1) := by decide +kernel
theorem de_M_game_295 : decode am_M_game.2.1 295 = .ok (.aload_n 0, 1) := by decide +kernel
theorem de_M_game_296 : decode am_M_game.2.1 296 = .ok (.iload_n 2, 1) := by decide +kernel
theorem de_M_game_297 : decode am_M_game.2.1 297 = .ok (.iload 5, 2) := by decide +kernel
theorem de_M_game_299 : decode am_M_game.2.1 299 = .ok (.invokevirtual 134, 3) := by decide +kernel
theorem de_M_game_302 : decode am_M_game.2.1 302 = .ok (.iastore, 1) := by decide +kernel
theorem de_M_game_303 : decode am_M_game.2.1 303 = .ok (.iinc 5 (1), 3) := by decide +kernel
theorem de_M_game_306 : decode am_M_game.2.1 306 = .ok (.goto (-31), 3) := by decide +kernel
theorem de_M_game_309 : decode am_M_game.2.1 309 = .ok (.aload_n 0, 1) := by decide +kernel
theorem de_M_game_310 : decode am_M_game.2.1 310 = .ok (.getfield 29, 3) := by decide +kernel
theorem de_M_game_313 : decode am_M_game.2.1 313 = .ok (.aload_n 0, 1) := by decide +kernel
theorem de_M_game_314 : decode am_M_game.2.1 314 = .ok (.getfield 84, 3) := by decide +kernel
theorem de_M_game_317 : decode am_M_game.2.1 317 = .ok (.iload_n 3, 1) := by decide +kernel
theorem de_M_game_318 : decode am_M_game.2.1 318 = .ok (.iastore, 1) := by decide +kernel
theorem de_M_game_319 : decode am_M_game.2.1 319 = .ok (.aload_n 0, 1) := by decide +kernel
theorem de_M_game_320 : decode am_M_game.2.1 320 = .ok (.getfield 32, 3) := by decide +kernel
theorem de_M_game_323 : decode am_M_game.2.1 323 = .ok (.aload_n 0, 1) := by decide +kernel
theorem de_M_game_324 : decode am_M_game.2.1 324 = .ok (.getfield 84, 3) := by decide +kernel
theorem de_M_game_327 : decode am_M_game.2.1 327 = .ok (.iload 4, 2) := by decide +kernel
theorem de_M_game_329 : decode am_M_game.2.1 329 = .ok (.iastore, 1) := by decide +kernel
theorem de_M_game_330 : decode am_M_game.2.1 330 = .ok (.aload_n 0, 1) := by decide +kernel
theorem de_M_game_331 : decode am_M_game.2.1 331 = .ok (.invokevirtual 122, 3) := by decide +kernel
theorem de_M_game_334 : decode am_M_game.2.1 334 = .ok (.aload_n 0, 1) := by decide +kernel
theorem de_M_game_335 : decode am_M_game.2.1 335 = .ok (.dup, 1) := by decide +kernel
theorem de_M_game_336 : decode am_M_game.2.1 336 = .ok (.getfield 84, 3) := by decide +kernel
theorem de_M_game_339 : decode am_M_game.2.1 339 = .ok (.dup_x1, 1) := by decide +kernel
theorem de_M_game_340 : decode am_M_game.2.1 340 = .ok (.iconst 1, 1) := by decide +kernel
theorem de_M_game_341 : decode am_M_game.2.1 341 = .ok (.iadd, 1) := by decide +kernel
theorem de_M_game_342 : decode am_M_game.2.1 342 = .ok (.putfield 84, 3) := by decide +kernel
theorem de_M_game_345 : decode am_M_game.2.1 345 = .ok (.ireturn, 1) := by decide +kernel
theorem de_M_gameOf_0 : decode am_M_gameOf.2.1 0 = .ok (.aload_n 0, 1) := by decide +kernel
theorem de_M_gameOf_1 : decode am_M_gameOf.2.1 1 = .ok (.iload_n 1, 1) := by decide +kernel
theorem de_M_gameOf_2 : decode am_M_gameOf.2.1 2 = .ok (.invokevirtual 236, 3) := by decide +kernel
theorem de_M_gameOf_5 : decode am_M_gameOf.2.1 5 = .ok (.ifCond .ne (10), 3) := by decide +kernel
theorem de_M_gameOf_8 : decode am_M_gameOf.2.1 8 = .ok (.aload_n 0, 1) := by decide +kernel
theorem de_M_gameOf_9 : decode am_M_gameOf.2.1 9 = .ok (.bipush (-5), 2) := by decide +kernel
theorem de_M_gameOf_11 : decode am_M_gameOf.2.1 11 = .ok (.invokevirtual 94, 3) := by decide +kernel
theorem de_M_gameOf_14 : decode am_M_gameOf.2.1 14 = .ok (.ireturn, 1) := by decide +kernel
theorem de_M_gameOf_15 : decode am_M_gameOf.2.1 15 = .ok (.iload_n 2, 1) := by decide +kernel
theorem de_M_gameOf_16 : decode am_M_gameOf.2.1 16 = .ok (.ifCond .ne (10), 3) := by decide +kernel
theorem de_M_gameOf_19 : decode am_M_gameOf.2.1 19 = .ok (.aload_n 0, 1) := by decide +kernel
theorem de_M_gameOf_20 : decode am_M_gameOf.2.1 20 = .ok (.getfield 29, 3) := by decide +kernel
theorem de_M_gameOf_23 : decode am_M_gameOf.2.1 23 = .ok (.iload_n 1, 1) := by decide +kernel
theorem de_M_gameOf_24 : decode am_M_gameOf.2.1 24 = .ok (.iaload, 1) := by decide +kernel
theorem de_M_gameOf_25 : decode am_M_gameOf.2.1 25 = .ok (.ireturn, 1) := by decide +kernel
theorem de_M_gameOf_26 : decode am_M_gameOf.2.1 26 = .ok (.iload_n 2, 1) := by decide +kernel
theorem de_M_gameOf_27 : decode am_M_gameOf.2.1 27 = .ok (.iconst 1, 1) := by decide +kernel
theorem de_M_gameOf_28 : decode am_M_gameOf.2.1 28 = .ok (.if_icmp .ne (10), 3) := by decide +kernel
theorem de_M_gameOf_31 : decode am_M_gameOf.2.1 31 = .ok (.aload_n 0, 1) := by decide +kernel
theorem de_M_gameOf_32 : decode am_M_gameOf.2.1 32 = .ok (.getfield 32, 3) := by decide +kernel
theorem de_M_gameOf_35 : decode am_M_gameOf.2.1 35 = .ok (.iload_n 1, 1) := by decide +kernel
theorem de_M_gameOf_36 : decode am_M_gameOf.2.1 36 = .ok (.iaload, 1) := by decide +kernel
theorem de_M_gameOf_37 : decode am_M_gameOf.2.1 37 = .ok (.ireturn, 1) := by decide +kernel
theorem de_M_gameOf_38 : decode am_M_gameOf.2.1 38 = .ok (.iload_n 2, 1) := by decide +kernel
theorem de_M_gameOf_39 : decode am_M_gameOf.2.1 39 = .ok (.bipush (100), 2) := by decide +kernel
theorem de_M_gameOf_41 : decode am_M_gameOf.2.1 41 = .ok (.if_icmp .lt (31), 3) := by decide +kernel
theorem de_M_gameOf_44 : decode am_M_gameOf.2.1 44 = .ok (.iload_n 2, 1) := by decide +kernel
theorem de_M_gameOf_45 : decode am_M_gameOf.2.1 45 = .ok (.bipush (100), 2) := by decide +kernel
theorem de_M_gameOf_47 : decode am_M_gameOf.2.1 47 = .ok (.aload_n 0, 1) := by decide +kernel
theorem de_M_gameOf_48 : decode am_M_gameOf.2.1 48 = .ok (.getfield 29, 3) := by decide +kernel
theorem de_M_gameOf_51 : decode am_M_gameOf.2.1 51 = .ok (.iload_n 1, 1) := by decide +kernel
theorem de_M_gameOf_52 : decode am_M_gameOf.2.1 52 = .ok (.iaload, 1) := by decide +kernel
theorem de_M_gameOf_53 : decode am_M_gameOf.2.1 53 = .ok (.iadd, 1) := by decide +kernel
theorem de_M_gameOf_54 : decode am_M_gameOf.2.1 54 = .ok (.if_icmp .ge (18), 3) := by decide +kernel
theorem de_M_gameOf_57 : decode am_M_gameOf.2.1 57 = .ok (.aload_n 0, 1) := by decide +kernel
theorem de_M_gameOf_58 : decode am_M_gameOf.2.1 58 = .ok (.getfield 26, 3) := by decide +kernel
theorem de_M_gameOf_61 : decode am_M_gameOf.2.1 61 = .ok (.bipush (20), 2) := by decide +kernel
theorem de_M_gameOf_63 : decode am_M_gameOf.2.1 63 = .ok (.iload_n 1, 1) := by decide +kernel
theorem de_M_gameOf_64 : decode am_M_gameOf.2.1 64 = .ok (.imul, 1) := by decide +kernel
theorem de_M_gameOf_65 : decode am_M_gameOf.2.1 65 = .ok (.iload_n 2, 1) := by decide +kernel
theorem de_M_gameOf_66 : decode am_M_gameOf.2.1 66 = .ok (.iadd, 1) := by decide +kernel
theorem de_M_gameOf_67 : decode am_M_gameOf.2.1 67 = .ok (.bipush (100), 2) := by decide +kernel
theorem de_M_gameOf_69 : decode am_M_gameOf.2.1 69 = .ok (.isub, 1) := by decide +kernel
theorem de_M_gameOf_70 : decode am_M_gameOf.2.1 70 = .ok (.iaload, 1) := by decide +kernel
theorem de_M_gameOf_71 : decode am_M_gameOf.2.1 71 = .ok (.ireturn, 1) := by decide +kernel
theorem de_M_gameOf_72 : decode am_M_gameOf.2.1 72 = .ok (.iload_n 2, 1) := by decide +kernel
theorem de_M_gameOf_73 : decode am_M_gameOf.2.1 73 = .ok (.sipush (200), 3) := by decide +kernel
theorem de_M_gameOf_76 : decode am_M_gameOf.2.1 76 = .ok (.if_icmp .lt (28), 3) := by decide +kernel
theorem de_M_gameOf_79 : decode am_M_gameOf.2.1 79 = .ok (.iload_n 2, 1) := by decide +kernel
theorem de_M_gameOf_80 : decode am_M_gameOf.2.1 80 = .ok (.sipush (212), 3) := by decide +kernel
theorem de_M_gameOf_83 : decode am_M_gameOf.2.1 83 = .ok (.if_icmp .ge (21), 3) := by decide +kernel
theorem de_M_gameOf_86 : decode am_M_gameOf.2.1 86 = .ok (.aload_n 0, 1) := by decide +kernel
theorem de_M_gameOf_87 : decode am_M_gameOf.2.1 87 = .ok (.getfield 23, 3) := by decide +kernel
theorem de_M_gameOf_90 : decode am_M_gameOf.2.1 90 = .ok (.bipush (12), 2) := by decide +kernel
theorem de_M_gameOf_92 : decode am_M_gameOf.2.1 92 = .ok (.iload_n 1, 1) := by decide +kernel
theorem de_M_gameOf_93 : decode am_M_gameOf.2.1 93 = .ok (.imul, 1) := by decide +kernel
theorem de_M_gameOf_94 : decode am_M_gameOf.2.1 94 = .ok (.iload_n 2, 1) := by decide +kernel
theorem de_M_gameOf_95 : decode am_M_gameOf.2.1 95 = .ok (.iadd, 1) := by decide +kernel
theorem de_M_gameOf_96 : decode am_M_gameOf.2.1 96 = .ok (.sipush (200), 3) := by decide +kernel
theorem de_M_gameOf_99 : decode am_M_gameOf.2.1 99 = .ok (.isub, 1) := by decide +kernel
theorem de_M_gameOf_100 : decode am_M_gameOf.2.1 100 = .ok (.iaload, 1) := by decide +kernel
theorem de_M_gameOf_101 : decode am_M_gameOf.2.1 101 = .ok (.goto (9), 3) := by decide +kernel
theorem de_M_gameOf_104 : decode am_M_gameOf.2.1 104 = .ok (.aload_n 0, 1) := by decide +kernel
theorem de_M_gameOf_105 : decode am_M_gameOf.2.1 105 = .ok (.bipush (-5), 2) := by decide +kernel
theorem de_M_gameOf_107 : decode am_M_gameOf.2.1 107 = .ok (.invokevirtual 94, 3) := by decide +kernel
theorem de_M_gameOf_110 : decode am_M_gameOf.2.1 110 = .ok (.ireturn, 1) := by decide +kernel
theorem de_M_begins_0 : decode am_M_begins.2.1 0 = .ok (.aload_n 0, 1) := by decide +kernel
theorem de_M_begins_1 : decode am_M_begins.2.1 1 = .ok (.iconst 0, 1) := by decide +kernel
theorem de_M_begins_2 : decode am_M_begins.2.1 2 = .ok (.putfield 239, 3) := by decide +kernel
theorem de_M_begins_5 : decode am_M_begins.2.1 5 = .ok (.aload_n 0, 1) := by decide +kernel
theorem de_M_begins_6 : decode am_M_begins.2.1 6 = .ok (.iconst 0, 1) := by decide +kernel
theorem de_M_begins_7 : decode am_M_begins.2.1 7 = .ok (.putfield 242, 3) := by decide +kernel
theorem de_M_begins_10 : decode am_M_begins.2.1 10 = .ok (.iconst 0, 1) := by decide +kernel
theorem de_M_begins_11 : decode am_M_begins.2.1 11 = .ok (.istore_n 2, 1) := by decide +kernel
theorem de_M_begins_12 : decode am_M_begins.2.1 12 = .ok (.iload_n 2, 1) := by decide +kernel
theorem de_M_begins_13 : decode am_M_begins.2.1 13 = .ok (.bipush (12), 2) := by decide +kernel
theorem de_M_begins_15 : decode am_M_begins.2.1 15 = .ok (.if_icmp .ge (63), 3) := by decide +kernel
theorem de_M_begins_18 : decode am_M_begins.2.1 18 = .ok (.aload_n 0, 1) := by decide +kernel
theorem de_M_begins_19 : decode am_M_begins.2.1 19 = .ok (.getfield 23, 3) := by decide +kernel
theorem de_M_begins_22 : decode am_M_begins.2.1 22 = .ok (.bipush (12), 2) := by decide +kernel
theorem de_M_begins_24 : decode am_M_begins.2.1 24 = .ok (.iload_n 1, 1) := by decide +kernel
theorem de_M_begins_25 : decode am_M_begins.2.1 25 = .ok (.imul, 1) := by decide +kernel
theorem de_M_begins_26 : decode am_M_begins.2.1 26 = .ok (.iload_n 2, 1) := by decide +kernel
theorem de_M_begins_27 : decode am_M_begins.2.1 27 = .ok (.iadd, 1) := by decide +kernel
theorem de_M_begins_28 : decode am_M_begins.2.1 28 = .ok (.iaload, 1) := by decide +kernel
theorem de_M_begins_29 : decode am_M_begins.2.1 29 = .ok (.iconst 1, 1) := by decide +kernel
theorem de_M_begins_30 : decode am_M_begins.2.1 30 = .ok (.if_icmp .ne (15), 3) := by decide +kernel
theorem de_M_begins_33 : decode am_M_begins.2.1 33 = .ok (.aload_n 0, 1) := by decide +kernel
theorem de_M_begins_34 : decode am_M_begins.2.1 34 = .ok (.dup, 1) := by decide +kernel
theorem de_M_begins_35 : decode am_M_begins.2.1 35 = .ok (.getfield 239, 3) := by decide +kernel
theorem de_M_begins_38 : decode am_M_begins.2.1 38 = .ok (.iconst 1, 1) := by decide +kernel
theorem de_M_begins_39 : decode am_M_begins.2.1 39 = .ok (.iload_n 2, 1) := by decide +kernel
theorem de_M_begins_40 : decode am_M_begins.2.1 40 = .ok (.ishl, 1) := by decide +kernel
theorem de_M_begins_41 : decode am_M_begins.2.1 41 = .ok (.ior, 1) := by decide +kernel
theorem de_M_begins_42 : decode am_M_begins.2.1 42 = .ok (.putfield 239, 3) := by decide +kernel
theorem de_M_begins_45 : decode am_M_begins.2.1 45 = .ok (.aload_n 0, 1) := by decide +kernel
theorem de_M_begins_46 : decode am_M_begins.2.1 46 = .ok (.getfield 23, 3) := by decide +kernel
theorem de_M_begins_49 : decode am_M_begins.2.1 49 = .ok (.bipush (12), 2) := by decide +kernel
theorem de_M_begins_51 : decode am_M_begins.2.1 51 = .ok (.iload_n 1, 1) := by decide +kernel
theorem de_M_begins_52 : decode am_M_begins.2.1 52 = .ok (.imul, 1) := by decide +kernel
theorem de_M_begins_53 : decode am_M_begins.2.1 53 = .ok (.iload_n 2, 1) := by decide +kernel
theorem de_M_begins_54 : decode am_M_begins.2.1 54 = .ok (.iadd, 1) := by decide +kernel
theorem de_M_begins_55 : decode am_M_begins.2.1 55 = .ok (.iaload, 1) := by decide +kernel
theorem de_M_begins_56 : decode am_M_begins.2.1 56 = .ok (.iconst 2, 1) := by decide +kernel
theorem de_M_begins_57 : decode am_M_begins.2.1 57 = .ok (.if_icmp .ne (15), 3) := by decide +kernel
theorem de_M_begins_60 : decode am_M_begins.2.1 60 = .ok (.aload_n 0, 1) := by decide +kernel
theorem de_M_begins_61 : decode am_M_begins.2.1 61 = .ok (.dup, 1) := by decide +kernel
theorem de_M_begins_62 : decode am_M_begins.2.1 62 = .ok (.getfield 242, 3) := by decide +kernel
theorem de_M_begins_65 : decode am_M_begins.2.1 65 = .ok (.iconst 1, 1) := by decide +kernel
theorem de_M_begins_66 : decode am_M_begins.2.1 66 = .ok (.iload_n 2, 1) := by decide +kernel
theorem de_M_begins_67 : decode am_M_begins.2.1 67 = .ok (.ishl, 1) := by decide +kernel
theorem de_M_begins_68 : decode am_M_begins.2.1 68 = .ok (.ior, 1) := by decide +kernel
theorem de_M_begins_69 : decode am_M_begins.2.1 69 = .ok (.putfield 242, 3) := by decide +kernel
theorem de_M_begins_72 : decode am_M_begins.2.1 72 = .ok (.iinc 2 (1), 3) := by decide +kernel
theorem de_M_begins_75 : decode am_M_begins.2.1 75 = .ok (.goto (-63), 3) := by decide +kernel
theorem de_M_begins_78 : decode am_M_begins.2.1 78 = .ok (.return_, 1) := by decide +kernel
theorem de_M_steps_0 : decode am_M_steps.2.1 0 = .ok (.aload_n 0, 1) := by decide +kernel
theorem de_M_steps_1 : decode am_M_steps.2.1 1 = .ok (.iload_n 1, 1) := by decide +kernel
theorem de_M_steps_2 : decode am_M_steps.2.1 2 = .ok (.iload_n 2, 1) := by decide +kernel
theorem de_M_steps_3 : decode am_M_steps.2.1 3 = .ok (.aload_n 0, 1) := by decide +kernel
theorem de_M_steps_4 : decode am_M_steps.2.1 4 = .ok (.getfield 239, 3) := by decide +kernel
theorem de_M_steps_7 : decode am_M_steps.2.1 7 = .ok (.aload_n 0, 1) := by decide +kernel
theorem de_M_steps_8 : decode am_M_steps.2.1 8 = .ok (.getfield 242, 3) := by decide +kernel
theorem de_M_steps_11 : decode am_M_steps.2.1 11 = .ok (.invokevirtual 228, 3) := by decide +kernel
theorem de_M_steps_14 : decode am_M_steps.2.1 14 = .ok (.aload_n 0, 1) := by decide +kernel
theorem de_M_steps_15 : decode am_M_steps.2.1 15 = .ok (.aload_n 0, 1) := by decide +kernel
theorem de_M_steps_16 : decode am_M_steps.2.1 16 = .ok (.getfield 207, 3) := by decide +kernel
theorem de_M_steps_19 : decode am_M_steps.2.1 19 = .ok (.putfield 239, 3) := by decide +kernel
theorem de_M_steps_22 : decode am_M_steps.2.1 22 = .ok (.aload_n 0, 1) := by decide +kernel
theorem de_M_steps_23 : decode am_M_steps.2.1 23 = .ok (.aload_n 0, 1) := by decide +kernel
theorem de_M_steps_24 : decode am_M_steps.2.1 24 = .ok (.getfield 210, 3) := by decide +kernel
theorem de_M_steps_27 : decode am_M_steps.2.1 27 = .ok (.putfield 242, 3) := by decide +kernel
theorem de_M_steps_30 : decode am_M_steps.2.1 30 = .ok (.return_, 1) := by decide +kernel
theorem de_M_isOut_0 : decode am_M_isOut.2.1 0 = .ok (.aload_n 0, 1) := by decide +kernel
theorem de_M_isOut_1 : decode am_M_isOut.2.1 1 = .ok (.iload_n 2, 1) := by decide +kernel
theorem de_M_isOut_2 : decode am_M_isOut.2.1 2 = .ok (.aload_n 0, 1) := by decide +kernel
theorem de_M_isOut_3 : decode am_M_isOut.2.1 3 = .ok (.getfield 239, 3) := by decide +kernel
theorem de_M_isOut_6 : decode am_M_isOut.2.1 6 = .ok (.aload_n 0, 1) := by decide +kernel
theorem de_M_isOut_7 : decode am_M_isOut.2.1 7 = .ok (.getfield 242, 3) := by decide +kernel
theorem de_M_isOut_10 : decode am_M_isOut.2.1 10 = .ok (.invokevirtual 225, 3) := by decide +kernel
theorem de_M_isOut_13 : decode am_M_isOut.2.1 13 = .ok (.istore_n 3, 1) := by decide +kernel
theorem de_M_isOut_14 : decode am_M_isOut.2.1 14 = .ok (.aload_n 0, 1) := by decide +kernel
theorem de_M_isOut_15 : decode am_M_isOut.2.1 15 = .ok (.getfield 32, 3) := by decide +kernel
theorem de_M_isOut_18 : decode am_M_isOut.2.1 18 = .ok (.iload_n 1, 1) := by decide +kernel
theorem de_M_isOut_19 : decode am_M_isOut.2.1 19 = .ok (.iaload, 1) := by decide +kernel
theorem de_M_isOut_20 : decode am_M_isOut.2.1 20 = .ok (.iconst (-1), 1) := by decide +kernel
theorem de_M_isOut_21 : decode am_M_isOut.2.1 21 = .ok (.if_icmp .ne (15), 3) := by decide +kernel
theorem de_M_isOut_24 : decode am_M_isOut.2.1 24 = .ok (.iload_n 3, 1) := by decide +kernel
theorem de_M_isOut_25 : decode am_M_isOut.2.1 25 = .ok (.ifCond .ne (7), 3) := by decide +kernel
theorem de_M_isOut_28 : decode am_M_isOut.2.1 28 = .ok (.iconst 1, 1) := by decide +kernel
theorem de_M_isOut_29 : decode am_M_isOut.2.1 29 = .ok (.goto (35), 3) := by decide +kernel
theorem de_M_isOut_32 : decode am_M_isOut.2.1 32 = .ok (.iconst 0, 1) := by decide +kernel
theorem de_M_isOut_33 : decode am_M_isOut.2.1 33 = .ok (.goto (31), 3) := by decide +kernel
theorem de_M_isOut_36 : decode am_M_isOut.2.1 36 = .ok (.iload_n 3, 1) := by decide +kernel
theorem de_M_isOut_37 : decode am_M_isOut.2.1 37 = .ok (.ifCond .eq (26), 3) := by decide +kernel
theorem de_M_isOut_40 : decode am_M_isOut.2.1 40 = .ok (.iconst 1, 1) := by decide +kernel
theorem de_M_isOut_41 : decode am_M_isOut.2.1 41 = .ok (.aload_n 0, 1) := by decide +kernel
theorem de_M_isOut_42 : decode am_M_isOut.2.1 42 = .ok (.getfield 29, 3) := by decide +kernel
theorem de_M_isOut_45 : decode am_M_isOut.2.1 45 = .ok (.iload_n 1, 1) := by decide +kernel
theorem de_M_isOut_46 : decode am_M_isOut.2.1 46 = .ok (.iaload, 1) := by decide +kernel
theorem de_M_isOut_47 : decode am_M_isOut.2.1 47 = .ok (.iconst 2, 1) := by decide +kernel
theorem de_M_isOut_48 : decode am_M_isOut.2.1 48 = .ok (.irem, 1) := by decide +kernel
theorem de_M_isOut_49 : decode am_M_isOut.2.1 49 = .ok (.isub, 1) := by decide +kernel
theorem de_M_isOut_50 : decode am_M_isOut.2.1 50 = .ok (.aload_n 0, 1) := by decide +kernel
theorem de_M_isOut_51 : decode am_M_isOut.2.1 51 = .ok (.getfield 32, 3) := by decide +kernel
theorem de_M_isOut_54 : decode am_M_isOut.2.1 54 = .ok (.iload_n 1, 1) := by decide +kernel
theorem de_M_isOut_55 : decode am_M_isOut.2.1 55 = .ok (.iaload, 1) := by decide +kernel
theorem de_M_isOut_56 : decode am_M_isOut.2.1 56 = .ok (.if_icmp .ne (7), 3) := by decide +kernel
theorem de_M_isOut_59 : decode am_M_isOut.2.1 59 = .ok (.iconst 1, 1) := by decide +kernel
theorem de_M_isOut_60 : decode am_M_isOut.2.1 60 = .ok (.goto (4), 3) := by decide +kernel
theorem de_M_isOut_63 : decode am_M_isOut.2.1 63 = .ok (.iconst 0, 1) := by decide +kernel
theorem de_M_isOut_64 : decode am_M_isOut.2.1 64 = .ok (.ireturn, 1) := by decide +kernel
theorem de_M_failsAt_0 : decode am_M_failsAt.2.1 0 = .ok (.aload_n 0, 1) := by decide +kernel
theorem de_M_failsAt_1 : decode am_M_failsAt.2.1 1 = .ok (.iload_n 1, 1) := by decide +kernel
theorem de_M_failsAt_2 : decode am_M_failsAt.2.1 2 = .ok (.invokevirtual 245, 3) := by decide +kernel
theorem de_M_failsAt_5 : decode am_M_failsAt.2.1 5 = .ok (.iconst 0, 1) := by decide +kernel
theorem de_M_failsAt_6 : decode am_M_failsAt.2.1 6 = .ok (.istore_n 3, 1) := by decide +kernel
theorem de_M_failsAt_7 : decode am_M_failsAt.2.1 7 = .ok (.iload_n 3, 1) := by decide +kernel
theorem de_M_failsAt_8 : decode am_M_failsAt.2.1 8 = .ok (.aload_n 0, 1) := by decide +kernel
theorem de_M_failsAt_9 : decode am_M_failsAt.2.1 9 = .ok (.getfield 29, 3) := by decide +kernel
theorem de_M_failsAt_12 : decode am_M_failsAt.2.1 12 = .ok (.iload_n 1, 1) := by decide +kernel
theorem de_M_failsAt_13 : decode am_M_failsAt.2.1 13 = .ok (.iaload, 1) := by decide +kernel
theorem de_M_failsAt_14 : decode am_M_failsAt.2.1 14 = .ok (.if_icmp .ge (65), 3) := by decide +kernel
theorem de_M_failsAt_17 : decode am_M_failsAt.2.1 17 = .ok (.aload_n 0, 1) := by decide +kernel
theorem de_M_failsAt_18 : decode am_M_failsAt.2.1 18 = .ok (.getfield 26, 3) := by decide +kernel
theorem de_M_failsAt_21 : decode am_M_failsAt.2.1 21 = .ok (.bipush (20), 2) := by decide +kernel
theorem de_M_failsAt_23 : decode am_M_failsAt.2.1 23 = .ok (.iload_n 1, 1) := by decide +kernel
theorem de_M_failsAt_24 : decode am_M_failsAt.2.1 24 = .ok (.imul, 1) := by decide +kernel
theorem de_M_failsAt_25 : decode am_M_failsAt.2.1 25 = .ok (.iload_n 3, 1) := by decide +kernel
theorem de_M_failsAt_26 : decode am_M_failsAt.2.1 26 = .ok (.iadd, 1) := by decide +kernel
theorem de_M_failsAt_27 : decode am_M_failsAt.2.1 27 = .ok (.iaload, 1) := by decide +kernel
theorem de_M_failsAt_28 : decode am_M_failsAt.2.1 28 = .ok (.istore 4, 2) := by decide +kernel
theorem de_M_failsAt_30 : decode am_M_failsAt.2.1 30 = .ok (.aload_n 0, 1) := by decide +kernel
theorem de_M_failsAt_31 : decode am_M_failsAt.2.1 31 = .ok (.iload_n 2, 1) := by decide +kernel
theorem de_M_failsAt_32 : decode am_M_failsAt.2.1 32 = .ok (.iload 4, 2) := by decide +kernel
theorem de_M_failsAt_34 : decode am_M_failsAt.2.1 34 = .ok (.aload_n 0, 1) := by decide +kernel
theorem de_M_failsAt_35 : decode am_M_failsAt.2.1 35 = .ok (.getfield 239, 3) := by decide +kernel
theorem de_M_failsAt_38 : decode am_M_failsAt.2.1 38 = .ok (.aload_n 0, 1) := by decide +kernel
theorem de_M_failsAt_39 : decode am_M_failsAt.2.1 39 = .ok (.getfield 242, 3) := by decide +kernel
theorem de_M_failsAt_42 : decode am_M_failsAt.2.1 42 = .ok (.invokevirtual 204, 3) := by decide +kernel
theorem de_M_failsAt_45 : decode am_M_failsAt.2.1 45 = .ok (.ifCond .eq (19), 3) := by decide +kernel
theorem de_M_failsAt_48 : decode am_M_failsAt.2.1 48 = .ok (.aload_n 0, 1) := by decide +kernel
theorem de_M_failsAt_49 : decode am_M_failsAt.2.1 49 = .ok (.iload_n 2, 1) := by decide +kernel
theorem de_M_failsAt_50 : decode am_M_failsAt.2.1 50 = .ok (.aload_n 0, 1) := by decide +kernel
theorem de_M_failsAt_51 : decode am_M_failsAt.2.1 51 = .ok (.getfield 239, 3) := by decide +kernel
theorem de_M_failsAt_54 : decode am_M_failsAt.2.1 54 = .ok (.aload_n 0, 1) := by decide +kernel
theorem de_M_failsAt_55 : decode am_M_failsAt.2.1 55 = .ok (.getfield 242, 3) := by decide +kernel
theorem de_M_failsAt_58 : decode am_M_failsAt.2.1 58 = .ok (.invokevirtual 225, 3) := by decide +kernel
theorem de_M_failsAt_61 : decode am_M_failsAt.2.1 61 = .ok (.ifCond .eq (5), 3) := by decide +kernel
theorem de_M_failsAt_64 : decode am_M_failsAt.2.1 64 = .ok (.iload_n 3, 1) := by decide +kernel
theorem de_M_failsAt_65 : decode am_M_failsAt.2.1 65 = .ok (.ireturn, 1) := by decide +kernel
theorem de_M_failsAt_66 : decode am_M_failsAt.2.1 66 = .ok (.aload_n 0, 1) := by decide +kernel
theorem de_M_failsAt_67 : decode am_M_failsAt.2.1 67 = .ok (.iload_n 2, 1) := by decide +kernel
theorem de_M_failsAt_68 : decode am_M_failsAt.2.1 68 = .ok (.iload 4, 2) := by decide +kernel
theorem de_M_failsAt_70 : decode am_M_failsAt.2.1 70 = .ok (.invokevirtual 249, 3) := by decide +kernel
theorem de_M_failsAt_73 : decode am_M_failsAt.2.1 73 = .ok (.iinc 3 (1), 3) := by decide +kernel
theorem de_M_failsAt_76 : decode am_M_failsAt.2.1 76 = .ok (.goto (-69), 3) := by decide +kernel
theorem de_M_failsAt_79 : decode am_M_failsAt.2.1 79 = .ok (.aload_n 0, 1) := by decide +kernel
theorem de_M_failsAt_80 : decode am_M_failsAt.2.1 80 = .ok (.iload_n 1, 1) := by decide +kernel
theorem de_M_failsAt_81 : decode am_M_failsAt.2.1 81 = .ok (.iload_n 2, 1) := by decide +kernel
theorem de_M_failsAt_82 : decode am_M_failsAt.2.1 82 = .ok (.invokevirtual 252, 3) := by decide +kernel
theorem de_M_failsAt_85 : decode am_M_failsAt.2.1 85 = .ok (.ifCond .eq (7), 3) := by decide +kernel
theorem de_M_failsAt_88 : decode am_M_failsAt.2.1 88 = .ok (.iconst (-1), 1) := by decide +kernel
theorem de_M_failsAt_89 : decode am_M_failsAt.2.1 89 = .ok (.goto (9), 3) := by decide +kernel
theorem de_M_failsAt_92 : decode am_M_failsAt.2.1 92 = .ok (.aload_n 0, 1) := by decide +kernel
theorem de_M_failsAt_93 : decode am_M_failsAt.2.1 93 = .ok (.getfield 29, 3) := by decide +kernel
theorem de_M_failsAt_96 : decode am_M_failsAt.2.1 96 = .ok (.iload_n 1, 1) := by decide +kernel
theorem de_M_failsAt_97 : decode am_M_failsAt.2.1 97 = .ok (.iaload, 1) := by decide +kernel
theorem de_M_failsAt_98 : decode am_M_failsAt.2.1 98 = .ok (.ireturn, 1) := by decide +kernel
theorem de_M_load_0 : decode am_M_load.2.1 0 = .ok (.aload_n 0, 1) := by decide +kernel
theorem de_M_load_1 : decode am_M_load.2.1 1 = .ok (.iload_n 1, 1) := by decide +kernel
theorem de_M_load_2 : decode am_M_load.2.1 2 = .ok (.invokevirtual 236, 3) := by decide +kernel
theorem de_M_load_5 : decode am_M_load.2.1 5 = .ok (.ifCond .eq (11), 3) := by decide +kernel
theorem de_M_load_8 : decode am_M_load.2.1 8 = .ok (.aload_n 0, 1) := by decide +kernel
theorem de_M_load_9 : decode am_M_load.2.1 9 = .ok (.iload_n 3, 1) := by decide +kernel
theorem de_M_load_10 : decode am_M_load.2.1 10 = .ok (.invokevirtual 168, 3) := by decide +kernel
theorem de_M_load_13 : decode am_M_load.2.1 13 = .ok (.ifCond .ne (9), 3) := by decide +kernel
theorem de_M_load_16 : decode am_M_load.2.1 16 = .ok (.aload_n 0, 1) := by decide +kernel
theorem de_M_load_17 : decode am_M_load.2.1 17 = .ok (.iconst (-1), 1) := by decide +kernel
theorem de_M_load_18 : decode am_M_load.2.1 18 = .ok (.invokevirtual 94, 3) := by decide +kernel
theorem de_M_load_21 : decode am_M_load.2.1 21 = .ok (.ireturn, 1) := by decide +kernel
theorem de_M_load_22 : decode am_M_load.2.1 22 = .ok (.iload_n 2, 1) := by decide +kernel
theorem de_M_load_23 : decode am_M_load.2.1 23 = .ok (.ifCond .lt (13), 3) := by decide +kernel
theorem de_M_load_26 : decode am_M_load.2.1 26 = .ok (.iload_n 2, 1) := by decide +kernel
theorem de_M_load_27 : decode am_M_load.2.1 27 = .ok (.aload_n 0, 1) := by decide +kernel
theorem de_M_load_28 : decode am_M_load.2.1 28 = .ok (.getfield 29, 3) := by decide +kernel
theorem de_M_load_31 : decode am_M_load.2.1 31 = .ok (.iload_n 1, 1) := by decide +kernel
theorem de_M_load_32 : decode am_M_load.2.1 32 = .ok (.iaload, 1) := by decide +kernel
theorem de_M_load_33 : decode am_M_load.2.1 33 = .ok (.if_icmp .le (10), 3) := by decide +kernel
theorem de_M_load_36 : decode am_M_load.2.1 36 = .ok (.aload_n 0, 1) := by decide +kernel
theorem de_M_load_37 : decode am_M_load.2.1 37 = .ok (.bipush (-6), 2) := by decide +kernel
theorem de_M_load_39 : decode am_M_load.2.1 39 = .ok (.invokevirtual 94, 3) := by decide +kernel
theorem de_M_load_42 : decode am_M_load.2.1 42 = .ok (.ireturn, 1) := by decide +kernel
theorem de_M_load_43 : decode am_M_load.2.1 43 = .ok (.aload_n 0, 1) := by decide +kernel
theorem de_M_load_44 : decode am_M_load.2.1 44 = .ok (.iload_n 1, 1) := by decide +kernel
theorem de_M_load_45 : decode am_M_load.2.1 45 = .ok (.invokevirtual 245, 3) := by decide +kernel
theorem de_M_load_48 : decode am_M_load.2.1 48 = .ok (.iconst 0, 1) := by decide +kernel
theorem de_M_load_49 : decode am_M_load.2.1 49 = .ok (.istore 4, 2) := by decide +kernel
theorem de_M_load_51 : decode am_M_load.2.1 51 = .ok (.iload 4, 2) := by decide +kernel
theorem de_M_load_53 : decode am_M_load.2.1 53 = .ok (.iload_n 2, 1) := by decide +kernel
theorem de_M_load_54 : decode am_M_load.2.1 54 = .ok (.if_icmp .ge (26), 3) := by decide +kernel
theorem de_M_load_57 : decode am_M_load.2.1 57 = .ok (.aload_n 0, 1) := by decide +kernel
theorem de_M_load_58 : decode am_M_load.2.1 58 = .ok (.iload_n 3, 1) := by decide +kernel
theorem de_M_load_59 : decode am_M_load.2.1 59 = .ok (.aload_n 0, 1) := by decide +kernel
theorem de_M_load_60 : decode am_M_load.2.1 60 = .ok (.getfield 26, 3) := by decide +kernel
theorem de_M_load_63 : decode am_M_load.2.1 63 = .ok (.bipush (20), 2) := by decide +kernel
theorem de_M_load_65 : decode am_M_load.2.1 65 = .ok (.iload_n 1, 1) := by decide +kernel
theorem de_M_load_66 : decode am_M_load.2.1 66 = .ok (.imul, 1) := by decide +kernel
theorem de_M_load_67 : decode am_M_load.2.1 67 = .ok (.iload 4, 2) := by decide +kernel
theorem de_M_load_69 : decode am_M_load.2.1 69 = .ok (.iadd, 1) := by decide +kernel
theorem de_M_load_70 : decode am_M_load.2.1 70 = .ok (.iaload, 1) := by decide +kernel
theorem de_M_load_71 : decode am_M_load.2.1 71 = .ok (.invokevirtual 249, 3) := by decide +kernel
theorem de_M_load_74 : decode am_M_load.2.1 74 = .ok (.iinc 4 (1), 3) := by decide +kernel
theorem de_M_load_77 : decode am_M_load.2.1 77 = .ok (.goto (-26), 3) := by decide +kernel
theorem de_M_load_80 : decode am_M_load.2.1 80 = .ok (.aload_n 0, 1) := by decide +kernel
theorem de_M_load_81 : decode am_M_load.2.1 81 = .ok (.iload_n 2, 1) := by decide +kernel
theorem de_M_load_82 : decode am_M_load.2.1 82 = .ok (.iconst 2, 1) := by decide +kernel
theorem de_M_load_83 : decode am_M_load.2.1 83 = .ok (.irem, 1) := by decide +kernel
theorem de_M_load_84 : decode am_M_load.2.1 84 = .ok (.putfield 177, 3) := by decide +kernel
theorem de_M_load_87 : decode am_M_load.2.1 87 = .ok (.aload_n 0, 1) := by decide +kernel
theorem de_M_load_88 : decode am_M_load.2.1 88 = .ok (.aload_n 0, 1) := by decide +kernel
theorem de_M_load_89 : decode am_M_load.2.1 89 = .ok (.getfield 177, 3) := by decide +kernel
theorem de_M_load_92 : decode am_M_load.2.1 92 = .ok (.ifCond .ne (10), 3) := by decide +kernel
theorem de_M_load_95 : decode am_M_load.2.1 95 = .ok (.aload_n 0, 1) := by decide +kernel
theorem de_M_load_96 : decode am_M_load.2.1 96 = .ok (.getfield 239, 3) := by decide +kernel
theorem de_M_load_99 : decode am_M_load.2.1 99 = .ok (.goto (7), 3) := by decide +kernel
theorem de_M_load_102 : decode am_M_load.2.1 102 = .ok (.aload_n 0, 1) := by decide +kernel
theorem de_M_load_103 : decode am_M_load.2.1 103 = .ok (.getfield 242, 3) := by decide +kernel
theorem de_M_load_106 : decode am_M_load.2.1 106 = .ok (.putfield 171, 3) := by decide +kernel
theorem de_M_load_109 : decode am_M_load.2.1 109 = .ok (.aload_n 0, 1) := by decide +kernel
theorem de_M_load_110 : decode am_M_load.2.1 110 = .ok (.aload_n 0, 1) := by decide +kernel
theorem de_M_load_111 : decode am_M_load.2.1 111 = .ok (.getfield 177, 3) := by decide +kernel
theorem de_M_load_114 : decode am_M_load.2.1 114 = .ok (.ifCond .ne (10), 3) := by decide +kernel
theorem de_M_load_117 : decode am_M_load.2.1 117 = .ok (.aload_n 0, 1) := by decide +kernel
theorem de_M_load_118 : decode am_M_load.2.1 118 = .ok (.getfield 242, 3) := by decide +kernel
theorem de_M_load_121 : decode am_M_load.2.1 121 = .ok (.goto (7), 3) := by decide +kernel
theorem de_M_load_124 : decode am_M_load.2.1 124 = .ok (.aload_n 0, 1) := by decide +kernel
theorem de_M_load_125 : decode am_M_load.2.1 125 = .ok (.getfield 239, 3) := by decide +kernel
theorem de_M_load_128 : decode am_M_load.2.1 128 = .ok (.putfield 174, 3) := by decide +kernel
theorem de_M_load_131 : decode am_M_load.2.1 131 = .ok (.aload_n 0, 1) := by decide +kernel
theorem de_M_load_132 : decode am_M_load.2.1 132 = .ok (.getfield 177, 3) := by decide +kernel
theorem de_M_load_135 : decode am_M_load.2.1 135 = .ok (.ireturn, 1) := by decide +kernel
theorem de_M_judge_0 : decode am_M_judge.2.1 0 = .ok (.aload_n 0, 1) := by decide +kernel
theorem de_M_judge_1 : decode am_M_judge.2.1 1 = .ok (.iload_n 1, 1) := by decide +kernel
theorem de_M_judge_2 : decode am_M_judge.2.1 2 = .ok (.invokevirtual 236, 3) := by decide +kernel
theorem de_M_judge_5 : decode am_M_judge.2.1 5 = .ok (.ifCond .eq (20), 3) := by decide +kernel
theorem de_M_judge_8 : decode am_M_judge.2.1 8 = .ok (.aload_n 0, 1) := by decide +kernel
theorem de_M_judge_9 : decode am_M_judge.2.1 9 = .ok (.iload_n 2, 1) := by decide +kernel
theorem de_M_judge_10 : decode am_M_judge.2.1 10 = .ok (.invokevirtual 168, 3) := by decide +kernel
theorem de_M_judge_13 : decode am_M_judge.2.1 13 = .ok (.ifCond .eq (12), 3) := by decide +kernel
theorem de_M_judge_16 : decode am_M_judge.2.1 16 = .ok (.aload_n 0, 1) := by decide +kernel
theorem de_M_judge_17 : decode am_M_judge.2.1 17 = .ok (.iload_n 1, 1) := by decide +kernel
theorem de_M_judge_18 : decode am_M_judge.2.1 18 = .ok (.iload_n 2, 1) := by decide +kernel
theorem de_M_judge_19 : decode am_M_judge.2.1 19 = .ok (.invokevirtual 255, 3) := by decide +kernel
theorem de_M_judge_22 : decode am_M_judge.2.1 22 = .ok (.goto (8), 3) := by decide +kernel
theorem de_M_judge_25 : decode am_M_judge.2.1 25 = .ok (.aload_n 0, 1) := by decide +kernel
theorem de_M_judge_26 : decode am_M_judge.2.1 26 = .ok (.iconst (-1), 1) := by decide +kernel
theorem de_M_judge_27 : decode am_M_judge.2.1 27 = .ok (.invokevirtual 222, 3) := by decide +kernel
theorem de_M_judge_30 : decode am_M_judge.2.1 30 = .ok (.ireturn, 1) := by decide +kernel
theorem de_M_forgets_0 : decode am_M_forgets.2.1 0 = .ok (.aload_n 0, 1) := by decide +kernel
theorem de_M_forgets_1 : decode am_M_forgets.2.1 1 = .ok (.iconst (-1), 1) := by decide +kernel
theorem de_M_forgets_2 : decode am_M_forgets.2.1 2 = .ok (.putfield 63, 3) := by decide +kernel
theorem de_M_forgets_5 : decode am_M_forgets.2.1 5 = .ok (.aload_n 0, 1) := by decide +kernel
theorem de_M_forgets_6 : decode am_M_forgets.2.1 6 = .ok (.iconst 0, 1) := by decide +kernel
theorem de_M_forgets_7 : decode am_M_forgets.2.1 7 = .ok (.putfield 258, 3) := by decide +kernel
theorem de_M_forgets_10 : decode am_M_forgets.2.1 10 = .ok (.aload_n 0, 1) := by decide +kernel
theorem de_M_forgets_11 : decode am_M_forgets.2.1 11 = .ok (.iconst (-1), 1) := by decide +kernel
theorem de_M_forgets_12 : decode am_M_forgets.2.1 12 = .ok (.putfield 66, 3) := by decide +kernel
theorem de_M_forgets_15 : decode am_M_forgets.2.1 15 = .ok (.return_, 1) := by decide +kernel
theorem de_M_isFit_0 : decode am_M_isFit.2.1 0 = .ok (.iconst 0, 1) := by decide +kernel
theorem de_M_isFit_1 : decode am_M_isFit.2.1 1 = .ok (.istore_n 2, 1) := by decide +kernel
theorem de_M_isFit_2 : decode am_M_isFit.2.1 2 = .ok (.iload_n 2, 1) := by decide +kernel
theorem de_M_isFit_3 : decode am_M_isFit.2.1 3 = .ok (.aload_n 0, 1) := by decide +kernel
theorem de_M_isFit_4 : decode am_M_isFit.2.1 4 = .ok (.getfield 84, 3) := by decide +kernel
theorem de_M_isFit_7 : decode am_M_isFit.2.1 7 = .ok (.if_icmp .ge (21), 3) := by decide +kernel
theorem de_M_isFit_10 : decode am_M_isFit.2.1 10 = .ok (.aload_n 0, 1) := by decide +kernel
theorem de_M_isFit_11 : decode am_M_isFit.2.1 11 = .ok (.iload_n 2, 1) := by decide +kernel
theorem de_M_isFit_12 : decode am_M_isFit.2.1 12 = .ok (.iload_n 1, 1) := by decide +kernel
theorem de_M_isFit_13 : decode am_M_isFit.2.1 13 = .ok (.invokevirtual 255, 3) := by decide +kernel
theorem de_M_isFit_16 : decode am_M_isFit.2.1 16 = .ok (.iconst (-1), 1) := by decide +kernel
theorem de_M_isFit_17 : decode am_M_isFit.2.1 17 = .ok (.if_icmp .eq (5), 3) := by decide +kernel
theorem de_M_isFit_20 : decode am_M_isFit.2.1 20 = .ok (.iconst 0, 1) := by decide +kernel
theorem de_M_isFit_21 : decode am_M_isFit.2.1 21 = .ok (.ireturn, 1) := by decide +kernel
theorem de_M_isFit_22 : decode am_M_isFit.2.1 22 = .ok (.iinc 2 (1), 3) := by decide +kernel
theorem de_M_isFit_25 : decode am_M_isFit.2.1 25 = .ok (.goto (-23), 3) := by decide +kernel
theorem de_M_isFit_28 : decode am_M_isFit.2.1 28 = .ok (.iconst 1, 1) := by decide +kernel
theorem de_M_isFit_29 : decode am_M_isFit.2.1 29 = .ok (.ireturn, 1) := by decide +kernel
theorem de_M_fitting_0 : decode am_M_fitting.2.1 0 = .ok (.aload_n 0, 1) := by decide +kernel
theorem de_M_fitting_1 : decode am_M_fitting.2.1 1 = .ok (.getfield 63, 3) := by decide +kernel
theorem de_M_fitting_4 : decode am_M_fitting.2.1 4 = .ok (.iconst (-1), 1) := by decide +kernel
theorem de_M_fitting_5 : decode am_M_fitting.2.1 5 = .ok (.if_icmp .eq (8), 3) := by decide +kernel
theorem de_M_fitting_8 : decode am_M_fitting.2.1 8 = .ok (.aload_n 0, 1) := by decide +kernel
theorem de_M_fitting_9 : decode am_M_fitting.2.1 9 = .ok (.getfield 63, 3) := by decide +kernel
theorem de_M_fitting_12 : decode am_M_fitting.2.1 12 = .ok (.ireturn, 1) := by decide +kernel
theorem de_M_fitting_13 : decode am_M_fitting.2.1 13 = .ok (.aload_n 0, 1) := by decide +kernel
theorem de_M_fitting_14 : decode am_M_fitting.2.1 14 = .ok (.iconst 0, 1) := by decide +kernel
theorem de_M_fitting_15 : decode am_M_fitting.2.1 15 = .ok (.putfield 63, 3) := by decide +kernel
theorem de_M_fitting_18 : decode am_M_fitting.2.1 18 = .ok (.iconst 1, 1) := by decide +kernel
theorem de_M_fitting_19 : decode am_M_fitting.2.1 19 = .ok (.istore_n 1, 1) := by decide +kernel
theorem de_M_fitting_20 : decode am_M_fitting.2.1 20 = .ok (.iload_n 1, 1) := by decide +kernel
theorem de_M_fitting_21 : decode am_M_fitting.2.1 21 = .ok (.sipush (4096), 3) := by decide +kernel
theorem de_M_fitting_24 : decode am_M_fitting.2.1 24 = .ok (.if_icmp .ge (32), 3) := by decide +kernel
theorem de_M_fitting_27 : decode am_M_fitting.2.1 27 = .ok (.aload_n 0, 1) := by decide +kernel
theorem de_M_fitting_28 : decode am_M_fitting.2.1 28 = .ok (.getfield 60, 3) := by decide +kernel
theorem de_M_fitting_31 : decode am_M_fitting.2.1 31 = .ok (.iload_n 1, 1) := by decide +kernel
theorem de_M_fitting_32 : decode am_M_fitting.2.1 32 = .ok (.aload_n 0, 1) := by decide +kernel
theorem de_M_fitting_33 : decode am_M_fitting.2.1 33 = .ok (.iload_n 1, 1) := by decide +kernel
theorem de_M_fitting_34 : decode am_M_fitting.2.1 34 = .ok (.invokevirtual 261, 3) := by decide +kernel
theorem de_M_fitting_37 : decode am_M_fitting.2.1 37 = .ok (.ifCond .eq (11), 3) := by decide +kernel
theorem de_M_fitting_40 : decode am_M_fitting.2.1 40 = .ok (.aload_n 0, 1) := by decide +kernel
theorem de_M_fitting_41 : decode am_M_fitting.2.1 41 = .ok (.iload_n 1, 1) := by decide +kernel
theorem de_M_fitting_42 : decode am_M_fitting.2.1 42 = .ok (.invokevirtual 116, 3) := by decide +kernel
theorem de_M_fitting_45 : decode am_M_fitting.2.1 45 = .ok (.goto (4), 3) := by decide +kernel
theorem de_M_fitting_48 : decode am_M_fitting.2.1 48 = .ok (.iconst (-1), 1) := by decide +kernel
theorem de_M_fitting_49 : decode am_M_fitting.2.1 49 = .ok (.iastore, 1) := by decide +kernel
theorem de_M_fitting_50 : decode am_M_fitting.2.1 50 = .ok (.iinc 1 (1), 3) := by decide +kernel
theorem de_M_fitting_53 : decode am_M_fitting.2.1 53 = .ok (.goto (-33), 3) := by decide +kernel
theorem de_M_fitting_56 : decode am_M_fitting.2.1 56 = .ok (.iconst 1, 1) := by decide +kernel
theorem de_M_fitting_57 : decode am_M_fitting.2.1 57 = .ok (.istore_n 1, 1) := by decide +kernel
theorem de_M_fitting_58 : decode am_M_fitting.2.1 58 = .ok (.iload_n 1, 1) := by decide +kernel
theorem de_M_fitting_59 : decode am_M_fitting.2.1 59 = .ok (.bipush (25), 2) := by decide +kernel
theorem de_M_fitting_61 : decode am_M_fitting.2.1 61 = .ok (.if_icmp .gt (51), 3) := by decide +kernel
theorem de_M_fitting_64 : decode am_M_fitting.2.1 64 = .ok (.iconst 1, 1) := by decide +kernel
theorem de_M_fitting_65 : decode am_M_fitting.2.1 65 = .ok (.istore_n 2, 1) := by decide +kernel
theorem de_M_fitting_66 : decode am_M_fitting.2.1 66 = .ok (.iload_n 2, 1) := by decide +kernel
theorem de_M_fitting_67 : decode am_M_fitting.2.1 67 = .ok (.sipush (4096), 3) := by decide +kernel
theorem de_M_fitting_70 : decode am_M_fitting.2.1 70 = .ok (.if_icmp .ge (36), 3) := by decide +kernel
theorem de_M_fitting_73 : decode am_M_fitting.2.1 73 = .ok (.aload_n 0, 1) := by decide +kernel
theorem de_M_fitting_74 : decode am_M_fitting.2.1 74 = .ok (.getfield 60, 3) := by decide +kernel
theorem de_M_fitting_77 : decode am_M_fitting.2.1 77 = .ok (.iload_n 2, 1) := by decide +kernel
theorem de_M_fitting_78 : decode am_M_fitting.2.1 78 = .ok (.iaload, 1) := by decide +kernel
theorem de_M_fitting_79 : decode am_M_fitting.2.1 79 = .ok (.iload_n 1, 1) := by decide +kernel
theorem de_M_fitting_80 : decode am_M_fitting.2.1 80 = .ok (.if_icmp .ne (20), 3) := by decide +kernel
theorem de_M_fitting_83 : decode am_M_fitting.2.1 83 = .ok (.aload_n 0, 1) := by decide +kernel
theorem de_M_fitting_84 : decode am_M_fitting.2.1 84 = .ok (.getfield 57, 3) := by decide +kernel
theorem de_M_fitting_87 : decode am_M_fitting.2.1 87 = .ok (.aload_n 0, 1) := by decide +kernel
theorem de_M_fitting_88 : decode am_M_fitting.2.1 88 = .ok (.dup, 1) := by decide +kernel
theorem de_M_fitting_89 : decode am_M_fitting.2.1 89 = .ok (.getfield 63, 3) := by decide +kernel
theorem de_M_fitting_92 : decode am_M_fitting.2.1 92 = .ok (.dup_x1, 1) := by decide +kernel
theorem de_M_fitting_93 : decode am_M_fitting.2.1 93 = .ok (.iconst 1, 1) := by decide +kernel
theorem de_M_fitting_94 : decode am_M_fitting.2.1 94 = .ok (.iadd, 1) := by decide +kernel
theorem de_M_fitting_95 : decode am_M_fitting.2.1 95 = .ok (.putfield 63, 3) := by decide +kernel
theorem de_M_fitting_98 : decode am_M_fitting.2.1 98 = .ok (.iload_n 2, 1) := by decide +kernel
theorem de_M_fitting_99 : decode am_M_fitting.2.1 99 = .ok (.iastore, 1) := by decide +kernel
theorem de_M_fitting_100 : decode am_M_fitting.2.1 100 = .ok (.iinc 2 (1), 3) := by decide +kernel
theorem de_M_fitting_103 : decode am_M_fitting.2.1 103 = .ok (.goto (-37), 3) := by decide +kernel
theorem de_M_fitting_106 : decode am_M_fitting.2.1 106 = .ok (.iinc 1 (1), 3) := by decide +kernel
theorem de_M_fitting_109 : decode am_M_fitting.2.1 109 = .ok (.goto (-51), 3) := by decide +kernel
theorem de_M_fitting_112 : decode am_M_fitting.2.1 112 = .ok (.aload_n 0, 1) := by decide +kernel
theorem de_M_fitting_113 : decode am_M_fitting.2.1 113 = .ok (.iconst 0, 1) := by decide +kernel
theorem de_M_fitting_114 : decode am_M_fitting.2.1 114 = .ok (.putfield 258, 3) := by decide +kernel
theorem de_M_fitting_117 : decode am_M_fitting.2.1 117 = .ok (.aload_n 0, 1) := by decide +kernel
theorem de_M_fitting_118 : decode am_M_fitting.2.1 118 = .ok (.getfield 63, 3) := by decide +kernel
theorem de_M_fitting_121 : decode am_M_fitting.2.1 121 = .ok (.ireturn, 1) := by decide +kernel
theorem de_M_rivalsBy_0 : decode am_M_rivalsBy.2.1 0 = .ok (.iconst 0, 1) := by decide +kernel
theorem de_M_rivalsBy_1 : decode am_M_rivalsBy.2.1 1 = .ok (.istore_n 2, 1) := by decide +kernel
theorem de_M_rivalsBy_2 : decode am_M_rivalsBy.2.1 2 = .ok (.iload_n 2, 1) := by decide +kernel
theorem de_M_rivalsBy_3 : decode am_M_rivalsBy.2.1 3 = .ok (.aload_n 0, 1) := by decide +kernel
theorem de_M_rivalsBy_4 : decode am_M_rivalsBy.2.1 4 = .ok (.invokevirtual 264, 3) := by decide +kernel
theorem de_M_rivalsBy_7 : decode am_M_rivalsBy.2.1 7 = .ok (.if_icmp .ge (34), 3) := by decide +kernel
theorem de_M_rivalsBy_10 : decode am_M_rivalsBy.2.1 10 = .ok (.aload_n 0, 1) := by decide +kernel
theorem de_M_rivalsBy_11 : decode am_M_rivalsBy.2.1 11 = .ok (.aload_n 0, 1) := by decide +kernel
theorem de_M_rivalsBy_12 : decode am_M_rivalsBy.2.1 12 = .ok (.getfield 57, 3) := by decide +kernel
theorem de_M_rivalsBy_15 : decode am_M_rivalsBy.2.1 15 = .ok (.iload_n 2, 1) := by decide +kernel
theorem de_M_rivalsBy_16 : decode am_M_rivalsBy.2.1 16 = .ok (.iaload, 1) := by decide +kernel
theorem de_M_rivalsBy_17 : decode am_M_rivalsBy.2.1 17 = .ok (.invokevirtual 116, 3) := by decide +kernel
theorem de_M_rivalsBy_20 : decode am_M_rivalsBy.2.1 20 = .ok (.aload_n 0, 1) := by decide +kernel
theorem de_M_rivalsBy_21 : decode am_M_rivalsBy.2.1 21 = .ok (.aload_n 0, 1) := by decide +kernel
theorem de_M_rivalsBy_22 : decode am_M_rivalsBy.2.1 22 = .ok (.getfield 57, 3) := by decide +kernel
theorem de_M_rivalsBy_25 : decode am_M_rivalsBy.2.1 25 = .ok (.iconst 0, 1) := by decide +kernel
theorem de_M_rivalsBy_26 : decode am_M_rivalsBy.2.1 26 = .ok (.iaload, 1) := by decide +kernel
theorem de_M_rivalsBy_27 : decode am_M_rivalsBy.2.1 27 = .ok (.invokevirtual 116, 3) := by decide +kernel
theorem de_M_rivalsBy_30 : decode am_M_rivalsBy.2.1 30 = .ok (.iload_n 1, 1) := by decide +kernel
theorem de_M_rivalsBy_31 : decode am_M_rivalsBy.2.1 31 = .ok (.iadd, 1) := by decide +kernel
theorem de_M_rivalsBy_32 : decode am_M_rivalsBy.2.1 32 = .ok (.if_icmp .gt (9), 3) := by decide +kernel
theorem de_M_rivalsBy_35 : decode am_M_rivalsBy.2.1 35 = .ok (.iinc 2 (1), 3) := by decide +kernel
theorem de_M_rivalsBy_38 : decode am_M_rivalsBy.2.1 38 = .ok (.goto (-36), 3) := by decide +kernel
theorem de_M_rivalsBy_41 : decode am_M_rivalsBy.2.1 41 = .ok (.iload_n 2, 1) := by decide +kernel
theorem de_M_rivalsBy_42 : decode am_M_rivalsBy.2.1 42 = .ok (.ireturn, 1) := by decide +kernel
theorem de_M_find_0 : decode am_M_find.2.1 0 = .ok (.aload_n 0, 1) := by decide +kernel
theorem de_M_find_1 : decode am_M_find.2.1 1 = .ok (.invokevirtual 264, 3) := by decide +kernel
theorem de_M_find_4 : decode am_M_find.2.1 4 = .ok (.ifCond .ne (12), 3) := by decide +kernel
theorem de_M_find_7 : decode am_M_find.2.1 7 = .ok (.aload_n 0, 1) := by decide +kernel
theorem de_M_find_8 : decode am_M_find.2.1 8 = .ok (.bipush (-5), 2) := by decide +kernel
theorem de_M_find_10 : decode am_M_find.2.1 10 = .ok (.invokevirtual 94, 3) := by decide +kernel
theorem de_M_find_13 : decode am_M_find.2.1 13 = .ok (.goto (9), 3) := by decide +kernel
theorem de_M_find_16 : decode am_M_find.2.1 16 = .ok (.aload_n 0, 1) := by decide +kernel
theorem de_M_find_17 : decode am_M_find.2.1 17 = .ok (.getfield 57, 3) := by decide +kernel
theorem de_M_find_20 : decode am_M_find.2.1 20 = .ok (.iconst 0, 1) := by decide +kernel
theorem de_M_find_21 : decode am_M_find.2.1 21 = .ok (.iaload, 1) := by decide +kernel
theorem de_M_find_22 : decode am_M_find.2.1 22 = .ok (.ireturn, 1) := by decide +kernel
theorem de_M_fits_0 : decode am_M_fits.2.1 0 = .ok (.aload_n 0, 1) := by decide +kernel
theorem de_M_fits_1 : decode am_M_fits.2.1 1 = .ok (.invokevirtual 264, 3) := by decide +kernel
theorem de_M_fits_4 : decode am_M_fits.2.1 4 = .ok (.ireturn, 1) := by decide +kernel
theorem de_M_isX_0 : decode am_M_isX.2.1 0 = .ok (.iload_n 1, 1) := by decide +kernel
theorem de_M_isX_1 : decode am_M_isX.2.1 1 = .ok (.ifCond .lt (13), 3) := by decide +kernel
theorem de_M_isX_4 : decode am_M_isX.2.1 4 = .ok (.iload_n 1, 1) := by decide +kernel
theorem de_M_isX_5 : decode am_M_isX.2.1 5 = .ok (.bipush (10), 2) := by decide +kernel
theorem de_M_isX_7 : decode am_M_isX.2.1 7 = .ok (.if_icmp .ge (7), 3) := by decide +kernel
theorem de_M_isX_10 : decode am_M_isX.2.1 10 = .ok (.iconst 1, 1) := by decide +kernel
theorem de_M_isX_11 : decode am_M_isX.2.1 11 = .ok (.goto (4), 3) := by decide +kernel
theorem de_M_isX_14 : decode am_M_isX.2.1 14 = .ok (.iconst 0, 1) := by decide +kernel
theorem de_M_isX_15 : decode am_M_isX.2.1 15 = .ok (.ireturn, 1) := by decide +kernel
theorem de_M_rivals_0 : decode am_M_rivals.2.1 0 = .ok (.aload_n 0, 1) := by decide +kernel
theorem de_M_rivals_1 : decode am_M_rivals.2.1 1 = .ok (.iload_n 1, 1) := by decide +kernel
theorem de_M_rivals_2 : decode am_M_rivals.2.1 2 = .ok (.invokevirtual 266, 3) := by decide +kernel
theorem de_M_rivals_5 : decode am_M_rivals.2.1 5 = .ok (.ifCond .eq (11), 3) := by decide +kernel
theorem de_M_rivals_8 : decode am_M_rivals.2.1 8 = .ok (.aload_n 0, 1) := by decide +kernel
theorem de_M_rivals_9 : decode am_M_rivals.2.1 9 = .ok (.iload_n 1, 1) := by decide +kernel
theorem de_M_rivals_10 : decode am_M_rivals.2.1 10 = .ok (.invokevirtual 269, 3) := by decide +kernel
theorem de_M_rivals_13 : decode am_M_rivals.2.1 13 = .ok (.goto (9), 3) := by decide +kernel
theorem de_M_rivals_16 : decode am_M_rivals.2.1 16 = .ok (.aload_n 0, 1) := by decide +kernel
theorem de_M_rivals_17 : decode am_M_rivals.2.1 17 = .ok (.bipush (-6), 2) := by decide +kernel
theorem de_M_rivals_19 : decode am_M_rivals.2.1 19 = .ok (.invokevirtual 94, 3) := by decide +kernel
theorem de_M_rivals_22 : decode am_M_rivals.2.1 22 = .ok (.ireturn, 1) := by decide +kernel
theorem de_M_rival_0 : decode am_M_rival.2.1 0 = .ok (.aload_n 0, 1) := by decide +kernel
theorem de_M_rival_1 : decode am_M_rival.2.1 1 = .ok (.iload_n 1, 1) := by decide +kernel
theorem de_M_rival_2 : decode am_M_rival.2.1 2 = .ok (.invokevirtual 266, 3) := by decide +kernel
theorem de_M_rival_5 : decode am_M_rival.2.1 5 = .ok (.ifCond .eq (16), 3) := by decide +kernel
theorem de_M_rival_8 : decode am_M_rival.2.1 8 = .ok (.iload_n 2, 1) := by decide +kernel
theorem de_M_rival_9 : decode am_M_rival.2.1 9 = .ok (.ifCond .lt (12), 3) := by decide +kernel
theorem de_M_rival_12 : decode am_M_rival.2.1 12 = .ok (.iload_n 2, 1) := by decide +kernel
theorem de_M_rival_13 : decode am_M_rival.2.1 13 = .ok (.aload_n 0, 1) := by decide +kernel
theorem de_M_rival_14 : decode am_M_rival.2.1 14 = .ok (.iload_n 1, 1) := by decide +kernel
theorem de_M_rival_15 : decode am_M_rival.2.1 15 = .ok (.invokevirtual 269, 3) := by decide +kernel
theorem de_M_rival_18 : decode am_M_rival.2.1 18 = .ok (.if_icmp .lt (10), 3) := by decide +kernel
theorem de_M_rival_21 : decode am_M_rival.2.1 21 = .ok (.aload_n 0, 1) := by decide +kernel
theorem de_M_rival_22 : decode am_M_rival.2.1 22 = .ok (.bipush (-5), 2) := by decide +kernel
theorem de_M_rival_24 : decode am_M_rival.2.1 24 = .ok (.invokevirtual 94, 3) := by decide +kernel
theorem de_M_rival_27 : decode am_M_rival.2.1 27 = .ok (.ireturn, 1) := by decide +kernel
theorem de_M_rival_28 : decode am_M_rival.2.1 28 = .ok (.aload_n 0, 1) := by decide +kernel
theorem de_M_rival_29 : decode am_M_rival.2.1 29 = .ok (.getfield 57, 3) := by decide +kernel
theorem de_M_rival_32 : decode am_M_rival.2.1 32 = .ok (.iload_n 2, 1) := by decide +kernel
theorem de_M_rival_33 : decode am_M_rival.2.1 33 = .ok (.iaload, 1) := by decide +kernel
theorem de_M_rival_34 : decode am_M_rival.2.1 34 = .ok (.ireturn, 1) := by decide +kernel
theorem de_M_wideOf_0 : decode am_M_wideOf.2.1 0 = .ok (.iconst 0, 1) := by decide +kernel
theorem de_M_wideOf_1 : decode am_M_wideOf.2.1 1 = .ok (.istore_n 2, 1) := by decide +kernel
theorem de_M_wideOf_2 : decode am_M_wideOf.2.1 2 = .ok (.iconst 0, 1) := by decide +kernel
theorem de_M_wideOf_3 : decode am_M_wideOf.2.1 3 = .ok (.istore_n 3, 1) := by decide +kernel
theorem de_M_wideOf_4 : decode am_M_wideOf.2.1 4 = .ok (.iload_n 3, 1) := by decide +kernel
theorem de_M_wideOf_5 : decode am_M_wideOf.2.1 5 = .ok (.aload_n 0, 1) := by decide +kernel
theorem de_M_wideOf_6 : decode am_M_wideOf.2.1 6 = .ok (.getfield 84, 3) := by decide +kernel
theorem de_M_wideOf_9 : decode am_M_wideOf.2.1 9 = .ok (.if_icmp .ge (68), 3) := by decide +kernel
theorem de_M_wideOf_12 : decode am_M_wideOf.2.1 12 = .ok (.aload_n 0, 1) := by decide +kernel
theorem de_M_wideOf_13 : decode am_M_wideOf.2.1 13 = .ok (.iload_n 3, 1) := by decide +kernel
theorem de_M_wideOf_14 : decode am_M_wideOf.2.1 14 = .ok (.invokevirtual 245, 3) := by decide +kernel
theorem de_M_wideOf_17 : decode am_M_wideOf.2.1 17 = .ok (.iconst 0, 1) := by decide +kernel
theorem de_M_wideOf_18 : decode am_M_wideOf.2.1 18 = .ok (.istore 4, 2) := by decide +kernel
theorem de_M_wideOf_20 : decode am_M_wideOf.2.1 20 = .ok (.iload 4, 2) := by decide +kernel
theorem de_M_wideOf_22 : decode am_M_wideOf.2.1 22 = .ok (.aload_n 0, 1) := by decide +kernel
theorem de_M_wideOf_23 : decode am_M_wideOf.2.1 23 = .ok (.getfield 29, 3) := by decide +kernel
theorem de_M_wideOf_26 : decode am_M_wideOf.2.1 26 = .ok (.iload_n 3, 1) := by decide +kernel
theorem de_M_wideOf_27 : decode am_M_wideOf.2.1 27 = .ok (.iaload, 1) := by decide +kernel
theorem de_M_wideOf_28 : decode am_M_wideOf.2.1 28 = .ok (.if_icmp .ge (43), 3) := by decide +kernel
theorem de_M_wideOf_31 : decode am_M_wideOf.2.1 31 = .ok (.iload_n 2, 1) := by decide +kernel
theorem de_M_wideOf_32 : decode am_M_wideOf.2.1 32 = .ok (.aload_n 0, 1) := by decide +kernel
theorem de_M_wideOf_33 : decode am_M_wideOf.2.1 33 = .ok (.iload_n 1, 1) := by decide +kernel
theorem de_M_wideOf_34 : decode am_M_wideOf.2.1 34 = .ok (.aload_n 0, 1) := by decide +kernel
theorem de_M_wideOf_35 : decode am_M_wideOf.2.1 35 = .ok (.getfield 239, 3) := by decide +kernel
theorem de_M_wideOf_38 : decode am_M_wideOf.2.1 38 = .ok (.aload_n 0, 1) := by decide +kernel
theorem de_M_wideOf_39 : decode am_M_wideOf.2.1 39 = .ok (.getfield 242, 3) := by decide +kernel
theorem de_M_wideOf_42 : decode am_M_wideOf.2.1 42 = .ok (.iconst 0, 1) := by decide +kernel
theorem de_M_wideOf_43 : decode am_M_wideOf.2.1 43 = .ok (.invokevirtual 219, 3) := by decide +kernel
theorem de_M_wideOf_46 : decode am_M_wideOf.2.1 46 = .ok (.iadd, 1) := by decide +kernel
theorem de_M_wideOf_47 : decode am_M_wideOf.2.1 47 = .ok (.istore_n 2, 1) := by decide +kernel
theorem de_M_wideOf_48 : decode am_M_wideOf.2.1 48 = .ok (.aload_n 0, 1) := by decide +kernel
theorem de_M_wideOf_49 : decode am_M_wideOf.2.1 49 = .ok (.iload_n 1, 1) := by decide +kernel
theorem de_M_wideOf_50 : decode am_M_wideOf.2.1 50 = .ok (.aload_n 0, 1) := by decide +kernel
theorem de_M_wideOf_51 : decode am_M_wideOf.2.1 51 = .ok (.getfield 26, 3) := by decide +kernel
theorem de_M_wideOf_54 : decode am_M_wideOf.2.1 54 = .ok (.bipush (20), 2) := by decide +kernel
theorem de_M_wideOf_56 : decode am_M_wideOf.2.1 56 = .ok (.iload_n 3, 1) := by decide +kernel
theorem de_M_wideOf_57 : decode am_M_wideOf.2.1 57 = .ok (.imul, 1) := by decide +kernel
theorem de_M_wideOf_58 : decode am_M_wideOf.2.1 58 = .ok (.iload 4, 2) := by decide +kernel
theorem de_M_wideOf_60 : decode am_M_wideOf.2.1 60 = .ok (.iadd, 1) := by decide +kernel
theorem de_M_wideOf_61 : decode am_M_wideOf.2.1 61 = .ok (.iaload, 1) := by decide +kernel
theorem de_M_wideOf_62 : decode am_M_wideOf.2.1 62 = .ok (.invokevirtual 249, 3) := by decide +kernel
theorem de_M_wideOf_65 : decode am_M_wideOf.2.1 65 = .ok (.iinc 4 (1), 3) := by decide +kernel
theorem de_M_wideOf_68 : decode am_M_wideOf.2.1 68 = .ok (.goto (-48), 3) := by decide +kernel
theorem de_M_wideOf_71 : decode am_M_wideOf.2.1 71 = .ok (.iinc 3 (1), 3) := by decide +kernel
theorem de_M_wideOf_74 : decode am_M_wideOf.2.1 74 = .ok (.goto (-70), 3) := by decide +kernel
theorem de_M_wideOf_77 : decode am_M_wideOf.2.1 77 = .ok (.iload_n 2, 1) := by decide +kernel
theorem de_M_wideOf_78 : decode am_M_wideOf.2.1 78 = .ok (.ireturn, 1) := by decide +kernel
theorem de_M_wide_0 : decode am_M_wide.2.1 0 = .ok (.aload_n 0, 1) := by decide +kernel
theorem de_M_wide_1 : decode am_M_wide.2.1 1 = .ok (.iload_n 1, 1) := by decide +kernel
theorem de_M_wide_2 : decode am_M_wide.2.1 2 = .ok (.invokevirtual 168, 3) := by decide +kernel
theorem de_M_wide_5 : decode am_M_wide.2.1 5 = .ok (.ifCond .eq (11), 3) := by decide +kernel
theorem de_M_wide_8 : decode am_M_wide.2.1 8 = .ok (.aload_n 0, 1) := by decide +kernel
theorem de_M_wide_9 : decode am_M_wide.2.1 9 = .ok (.iload_n 1, 1) := by decide +kernel
theorem de_M_wide_10 : decode am_M_wide.2.1 10 = .ok (.invokevirtual 272, 3) := by decide +kernel
theorem de_M_wide_13 : decode am_M_wide.2.1 13 = .ok (.goto (8), 3) := by decide +kernel
theorem de_M_wide_16 : decode am_M_wide.2.1 16 = .ok (.aload_n 0, 1) := by decide +kernel
theorem de_M_wide_17 : decode am_M_wide.2.1 17 = .ok (.iconst (-1), 1) := by decide +kernel
theorem de_M_wide_18 : decode am_M_wide.2.1 18 = .ok (.invokevirtual 94, 3) := by decide +kernel
theorem de_M_wide_21 : decode am_M_wide.2.1 21 = .ok (.ireturn, 1) := by decide +kernel
theorem de_M_tight_0 : decode am_M_tight.2.1 0 = .ok (.aload_n 0, 1) := by decide +kernel
theorem de_M_tight_1 : decode am_M_tight.2.1 1 = .ok (.bipush (9), 2) := by decide +kernel
theorem de_M_tight_3 : decode am_M_tight.2.1 3 = .ok (.invokevirtual 269, 3) := by decide +kernel
theorem de_M_tight_6 : decode am_M_tight.2.1 6 = .ok (.istore_n 1, 1) := by decide +kernel
theorem de_M_tight_7 : decode am_M_tight.2.1 7 = .ok (.iload_n 1, 1) := by decide +kernel
theorem de_M_tight_8 : decode am_M_tight.2.1 8 = .ok (.ifCond .ne (10), 3) := by decide +kernel
theorem de_M_tight_11 : decode am_M_tight.2.1 11 = .ok (.aload_n 0, 1) := by decide +kernel
theorem de_M_tight_12 : decode am_M_tight.2.1 12 = .ok (.bipush (-5), 2) := by decide +kernel
theorem de_M_tight_14 : decode am_M_tight.2.1 14 = .ok (.invokevirtual 94, 3) := by decide +kernel
theorem de_M_tight_17 : decode am_M_tight.2.1 17 = .ok (.ireturn, 1) := by decide +kernel
theorem de_M_tight_18 : decode am_M_tight.2.1 18 = .ok (.aload_n 0, 1) := by decide +kernel
theorem de_M_tight_19 : decode am_M_tight.2.1 19 = .ok (.getfield 66, 3) := by decide +kernel
theorem de_M_tight_22 : decode am_M_tight.2.1 22 = .ok (.iconst (-1), 1) := by decide +kernel
theorem de_M_tight_23 : decode am_M_tight.2.1 23 = .ok (.if_icmp .ne (53), 3) := by decide +kernel
theorem de_M_tight_26 : decode am_M_tight.2.1 26 = .ok (.iconst 0, 1) := by decide +kernel
theorem de_M_tight_27 : decode am_M_tight.2.1 27 = .ok (.istore_n 2, 1) := by decide +kernel
theorem de_M_tight_28 : decode am_M_tight.2.1 28 = .ok (.iconst 0, 1) := by decide +kernel
theorem de_M_tight_29 : decode am_M_tight.2.1 29 = .ok (.istore_n 3, 1) := by decide +kernel
theorem de_M_tight_30 : decode am_M_tight.2.1 30 = .ok (.iload_n 3, 1) := by decide +kernel
theorem de_M_tight_31 : decode am_M_tight.2.1 31 = .ok (.iload_n 1, 1) := by decide +kernel
theorem de_M_tight_32 : decode am_M_tight.2.1 32 = .ok (.if_icmp .ge (44), 3) := by decide +kernel
theorem de_M_tight_35 : decode am_M_tight.2.1 35 = .ok (.aload_n 0, 1) := by decide +kernel
theorem de_M_tight_36 : decode am_M_tight.2.1 36 = .ok (.aload_n 0, 1) := by decide +kernel
theorem de_M_tight_37 : decode am_M_tight.2.1 37 = .ok (.getfield 57, 3) := by decide +kernel
theorem de_M_tight_40 : decode am_M_tight.2.1 40 = .ok (.iload_n 3, 1) := by decide +kernel
theorem de_M_tight_41 : decode am_M_tight.2.1 41 = .ok (.iaload, 1) := by decide +kernel
theorem de_M_tight_42 : decode am_M_tight.2.1 42 = .ok (.invokevirtual 272, 3) := by decide +kernel
theorem de_M_tight_45 : decode am_M_tight.2.1 45 = .ok (.istore 4, 2) := by decide +kernel
theorem de_M_tight_47 : decode am_M_tight.2.1 47 = .ok (.iload_n 3, 1) := by decide +kernel
theorem de_M_tight_48 : decode am_M_tight.2.1 48 = .ok (.ifCond .eq (9), 3) := by decide +kernel
theorem de_M_tight_51 : decode am_M_tight.2.1 51 = .ok (.iload 4, 2) := by decide +kernel
theorem de_M_tight_53 : decode am_M_tight.2.1 53 = .ok (.iload_n 2, 1) := by decide +kernel
theorem de_M_tight_54 : decode am_M_tight.2.1 54 = .ok (.if_icmp .ge (16), 3) := by decide +kernel
theorem de_M_tight_57 : decode am_M_tight.2.1 57 = .ok (.iload 4, 2) := by decide +kernel
theorem de_M_tight_59 : decode am_M_tight.2.1 59 = .ok (.istore_n 2, 1) := by decide +kernel
theorem de_M_tight_60 : decode am_M_tight.2.1 60 = .ok (.aload_n 0, 1) := by decide +kernel
theorem de_M_tight_61 : decode am_M_tight.2.1 61 = .ok (.aload_n 0, 1) := by decide +kernel
theorem de_M_tight_62 : decode am_M_tight.2.1 62 = .ok (.getfield 57, 3) := by decide +kernel
theorem de_M_tight_65 : decode am_M_tight.2.1 65 = .ok (.iload_n 3, 1) := by decide +kernel
theorem de_M_tight_66 : decode am_M_tight.2.1 66 = .ok (.iaload, 1) := by decide +kernel
theorem de_M_tight_67 : decode am_M_tight.2.1 67 = .ok (.putfield 66, 3) := by decide +kernel
theorem de_M_tight_70 : decode am_M_tight.2.1 70 = .ok (.iinc 3 (1), 3) := by decide +kernel
theorem de_M_tight_73 : decode am_M_tight.2.1 73 = .ok (.goto (-43), 3) := by decide +kernel
theorem de_M_tight_76 : decode am_M_tight.2.1 76 = .ok (.aload_n 0, 1) := by decide +kernel
theorem de_M_tight_77 : decode am_M_tight.2.1 77 = .ok (.getfield 66, 3) := by decide +kernel
theorem de_M_tight_80 : decode am_M_tight.2.1 80 = .ok (.ireturn, 1) := by decide +kernel
theorem de_M_part2_0 : decode am_M_part2.2.1 0 = .ok (.aload_n 0, 1) := by decide +kernel
theorem de_M_part2_1 : decode am_M_part2.2.1 1 = .ok (.iload_n 1, 1) := by decide +kernel
theorem de_M_part2_2 : decode am_M_part2.2.1 2 = .ok (.invokevirtual 168, 3) := by decide +kernel
theorem de_M_part2_5 : decode am_M_part2.2.1 5 = .ok (.ifCond .eq (11), 3) := by decide +kernel
theorem de_M_part2_8 : decode am_M_part2.2.1 8 = .ok (.aload_n 0, 1) := by decide +kernel
theorem de_M_part2_9 : decode am_M_part2.2.1 9 = .ok (.iload_n 2, 1) := by decide +kernel
theorem de_M_part2_10 : decode am_M_part2.2.1 10 = .ok (.invokevirtual 168, 3) := by decide +kernel
theorem de_M_part2_13 : decode am_M_part2.2.1 13 = .ok (.ifCond .ne (9), 3) := by decide +kernel
theorem de_M_part2_16 : decode am_M_part2.2.1 16 = .ok (.aload_n 0, 1) := by decide +kernel
theorem de_M_part2_17 : decode am_M_part2.2.1 17 = .ok (.iconst (-1), 1) := by decide +kernel
theorem de_M_part2_18 : decode am_M_part2.2.1 18 = .ok (.invokevirtual 222, 3) := by decide +kernel
theorem de_M_part2_21 : decode am_M_part2.2.1 21 = .ok (.ireturn, 1) := by decide +kernel
theorem de_M_part2_22 : decode am_M_part2.2.1 22 = .ok (.iconst 0, 1) := by decide +kernel
theorem de_M_part2_23 : decode am_M_part2.2.1 23 = .ok (.istore_n 3, 1) := by decide +kernel
theorem de_M_part2_24 : decode am_M_part2.2.1 24 = .ok (.iload_n 3, 1) := by decide +kernel
theorem de_M_part2_25 : decode am_M_part2.2.1 25 = .ok (.aload_n 0, 1) := by decide +kernel
theorem de_M_part2_26 : decode am_M_part2.2.1 26 = .ok (.getfield 84, 3) := by decide +kernel
theorem de_M_part2_29 : decode am_M_part2.2.1 29 = .ok (.if_icmp .ge (161), 3) := by decide +kernel
theorem de_M_part2_32 : decode am_M_part2.2.1 32 = .ok (.aload_n 0, 1) := by decide +kernel
theorem de_M_part2_33 : decode am_M_part2.2.1 33 = .ok (.iload_n 3, 1) := by decide +kernel
theorem de_M_part2_34 : decode am_M_part2.2.1 34 = .ok (.invokevirtual 245, 3) := by decide +kernel
theorem de_M_part2_37 : decode am_M_part2.2.1 37 = .ok (.iconst 0, 1) := by decide +kernel
theorem de_M_part2_38 : decode am_M_part2.2.1 38 = .ok (.istore 4, 2) := by decide +kernel
theorem de_M_part2_40 : decode am_M_part2.2.1 40 = .ok (.iload 4, 2) := by decide +kernel
theorem de_M_part2_42 : decode am_M_part2.2.1 42 = .ok (.aload_n 0, 1) := by decide +kernel
theorem de_M_part2_43 : decode am_M_part2.2.1 43 = .ok (.getfield 29, 3) := by decide +kernel
theorem de_M_part2_46 : decode am_M_part2.2.1 46 = .ok (.iload_n 3, 1) := by decide +kernel
theorem de_M_part2_47 : decode am_M_part2.2.1 47 = .ok (.iaload, 1) := by decide +kernel
theorem de_M_part2_48 : decode am_M_part2.2.1 48 = .ok (.if_icmp .ge (136), 3) := by decide +kernel
theorem de_M_part2_51 : decode am_M_part2.2.1 51 = .ok (.aload_n 0, 1) := by decide +kernel
theorem de_M_part2_52 : decode am_M_part2.2.1 52 = .ok (.iload_n 1, 1) := by decide +kernel
theorem de_M_part2_53 : decode am_M_part2.2.1 53 = .ok (.aload_n 0, 1) := by decide +kernel
theorem de_M_part2_54 : decode am_M_part2.2.1 54 = .ok (.getfield 239, 3) := by decide +kernel
theorem de_M_part2_57 : decode am_M_part2.2.1 57 = .ok (.aload_n 0, 1) := by decide +kernel
theorem de_M_part2_58 : decode am_M_part2.2.1 58 = .ok (.getfield 242, 3) := by decide +kernel
theorem de_M_part2_61 : decode am_M_part2.2.1 61 = .ok (.iconst 0, 1) := by decide +kernel
theorem de_M_part2_62 : decode am_M_part2.2.1 62 = .ok (.invokevirtual 219, 3) := by decide +kernel
theorem de_M_part2_65 : decode am_M_part2.2.1 65 = .ok (.istore 5, 2) := by decide +kernel
theorem de_M_part2_67 : decode am_M_part2.2.1 67 = .ok (.aload_n 0, 1) := by decide +kernel
theorem de_M_part2_68 : decode am_M_part2.2.1 68 = .ok (.iload_n 2, 1) := by decide +kernel
theorem de_M_part2_69 : decode am_M_part2.2.1 69 = .ok (.aload_n 0, 1) := by decide +kernel
theorem de_M_part2_70 : decode am_M_part2.2.1 70 = .ok (.getfield 239, 3) := by decide +kernel
theorem de_M_part2_73 : decode am_M_part2.2.1 73 = .ok (.aload_n 0, 1) := by decide +kernel
theorem de_M_part2_74 : decode am_M_part2.2.1 74 = .ok (.getfield 242, 3) := by decide +kernel
theorem de_M_part2_77 : decode am_M_part2.2.1 77 = .ok (.sipush (200), 3) := by decide +kernel
theorem de_M_part2_80 : decode am_M_part2.2.1 80 = .ok (.invokevirtual 219, 3) := by decide +kernel
theorem de_M_part2_83 : decode am_M_part2.2.1 83 = .ok (.istore 6, 2) := by decide +kernel
theorem de_M_part2_85 : decode am_M_part2.2.1 85 = .ok (.iload 5, 2) := by decide +kernel
theorem de_M_part2_87 : decode am_M_part2.2.1 87 = .ok (.iload 6, 2) := by decide +kernel
theorem de_M_part2_89 : decode am_M_part2.2.1 89 = .ok (.if_icmp .ne (7), 3) := by decide +kernel
theorem de_M_part2_92 : decode am_M_part2.2.1 92 = .ok (.iconst 1, 1) := by decide +kernel
theorem de_M_part2_93 : decode am_M_part2.2.1 93 = .ok (.goto (4), 3) := by decide +kernel
theorem de_M_part2_96 : decode am_M_part2.2.1 96 = .ok (.iconst 0, 1) := by decide +kernel
theorem de_M_part2_97 : decode am_M_part2.2.1 97 = .ok (.istore 7, 2) := by decide +kernel
theorem de_M_part2_99 : decode am_M_part2.2.1 99 = .ok (.iconst 0, 1) := by decide +kernel
theorem de_M_part2_100 : decode am_M_part2.2.1 100 = .ok (.istore 8, 2) := by decide +kernel
theorem de_M_part2_102 : decode am_M_part2.2.1 102 = .ok (.iload 8, 2) := by decide +kernel
theorem de_M_part2_104 : decode am_M_part2.2.1 104 = .ok (.iload 5, 2) := by decide +kernel
theorem de_M_part2_106 : decode am_M_part2.2.1 106 = .ok (.if_icmp .ge (42), 3) := by decide +kernel
theorem de_M_part2_109 : decode am_M_part2.2.1 109 = .ok (.iload 7, 2) := by decide +kernel
theorem de_M_part2_111 : decode am_M_part2.2.1 111 = .ok (.ifCond .eq (37), 3) := by decide +kernel
theorem de_M_part2_114 : decode am_M_part2.2.1 114 = .ok (.aload_n 0, 1) := by decide +kernel
theorem de_M_part2_115 : decode am_M_part2.2.1 115 = .ok (.getfield 54, 3) := by decide +kernel
theorem de_M_part2_118 : decode am_M_part2.2.1 118 = .ok (.iload 8, 2) := by decide +kernel
theorem de_M_part2_120 : decode am_M_part2.2.1 120 = .ok (.iaload, 1) := by decide +kernel
theorem de_M_part2_121 : decode am_M_part2.2.1 121 = .ok (.aload_n 0, 1) := by decide +kernel
theorem de_M_part2_122 : decode am_M_part2.2.1 122 = .ok (.getfield 54, 3) := by decide +kernel
theorem de_M_part2_125 : decode am_M_part2.2.1 125 = .ok (.sipush (200), 3) := by decide +kernel
theorem de_M_part2_128 : decode am_M_part2.2.1 128 = .ok (.iload 8, 2) := by decide +kernel
theorem de_M_part2_130 : decode am_M_part2.2.1 130 = .ok (.iadd, 1) := by decide +kernel
theorem de_M_part2_131 : decode am_M_part2.2.1 131 = .ok (.iaload, 1) := by decide +kernel
theorem de_M_part2_132 : decode am_M_part2.2.1 132 = .ok (.if_icmp .ne (7), 3) := by decide +kernel
theorem de_M_part2_135 : decode am_M_part2.2.1 135 = .ok (.iconst 1, 1) := by decide +kernel
theorem de_M_part2_136 : decode am_M_part2.2.1 136 = .ok (.goto (4), 3) := by decide +kernel
theorem de_M_part2_139 : decode am_M_part2.2.1 139 = .ok (.iconst 0, 1) := by decide +kernel
theorem de_M_part2_140 : decode am_M_part2.2.1 140 = .ok (.istore 7, 2) := by decide +kernel
theorem de_M_part2_142 : decode am_M_part2.2.1 142 = .ok (.iinc 8 (1), 3) := by decide +kernel
theorem de_M_part2_145 : decode am_M_part2.2.1 145 = .ok (.goto (-43), 3) := by decide +kernel
theorem de_M_part2_148 : decode am_M_part2.2.1 148 = .ok (.iload 7, 2) := by decide +kernel
theorem de_M_part2_150 : decode am_M_part2.2.1 150 = .ok (.ifCond .ne (11), 3) := by decide +kernel
theorem de_M_part2_153 : decode am_M_part2.2.1 153 = .ok (.bipush (100), 2) := by decide +kernel
theorem de_M_part2_155 : decode am_M_part2.2.1 155 = .ok (.iload_n 3, 1) := by decide +kernel
theorem de_M_part2_156 : decode am_M_part2.2.1 156 = .ok (.imul, 1) := by decide +kernel
theorem de_M_part2_157 : decode am_M_part2.2.1 157 = .ok (.iload 4, 2) := by decide +kernel
theorem de_M_part2_159 : decode am_M_part2.2.1 159 = .ok (.iadd, 1) := by decide +kernel
theorem de_M_part2_160 : decode am_M_part2.2.1 160 = .ok (.ireturn, 1) := by decide +kernel
theorem de_M_part2_161 : decode am_M_part2.2.1 161 = .ok (.aload_n 0, 1) := by decide +kernel
theorem de_M_part2_162 : decode am_M_part2.2.1 162 = .ok (.iload_n 1, 1) := by decide +kernel
theorem de_M_part2_163 : decode am_M_part2.2.1 163 = .ok (.aload_n 0, 1) := by decide +kernel
theorem de_M_part2_164 : decode am_M_part2.2.1 164 = .ok (.getfield 26, 3) := by decide +kernel
theorem de_M_part2_167 : decode am_M_part2.2.1 167 = .ok (.bipush (20), 2) := by decide +kernel
theorem de_M_part2_169 : decode am_M_part2.2.1 169 = .ok (.iload_n 3, 1) := by decide +kernel
theorem de_M_part2_170 : decode am_M_part2.2.1 170 = .ok (.imul, 1) := by decide +kernel
theorem de_M_part2_171 : decode am_M_part2.2.1 171 = .ok (.iload 4, 2) := by decide +kernel
theorem de_M_part2_173 : decode am_M_part2.2.1 173 = .ok (.iadd, 1) := by decide +kernel
theorem de_M_part2_174 : decode am_M_part2.2.1 174 = .ok (.iaload, 1) := by decide +kernel
theorem de_M_part2_175 : decode am_M_part2.2.1 175 = .ok (.invokevirtual 249, 3) := by decide +kernel
theorem de_M_part2_178 : decode am_M_part2.2.1 178 = .ok (.iinc 4 (1), 3) := by decide +kernel
theorem de_M_part2_181 : decode am_M_part2.2.1 181 = .ok (.goto (-141), 3) := by decide +kernel
theorem de_M_part2_184 : decode am_M_part2.2.1 184 = .ok (.iinc 3 (1), 3) := by decide +kernel
theorem de_M_part2_187 : decode am_M_part2.2.1 187 = .ok (.goto (-163), 3) := by decide +kernel
theorem de_M_part2_190 : decode am_M_part2.2.1 190 = .ok (.iconst (-1), 1) := by decide +kernel
theorem de_M_part2_191 : decode am_M_part2.2.1 191 = .ok (.ireturn, 1) := by decide +kernel
theorem de_M_counts_0 : decode am_M_counts.2.1 0 = .ok (.aload_n 0, 1) := by decide +kernel
theorem de_M_counts_1 : decode am_M_counts.2.1 1 = .ok (.iload_n 1, 1) := by decide +kernel
theorem de_M_counts_2 : decode am_M_counts.2.1 2 = .ok (.invokevirtual 269, 3) := by decide +kernel
theorem de_M_counts_5 : decode am_M_counts.2.1 5 = .ok (.istore_n 2, 1) := by decide +kernel
theorem de_M_counts_6 : decode am_M_counts.2.1 6 = .ok (.iconst 0, 1) := by decide +kernel
theorem de_M_counts_7 : decode am_M_counts.2.1 7 = .ok (.istore_n 3, 1) := by decide +kernel
theorem de_M_counts_8 : decode am_M_counts.2.1 8 = .ok (.iload_n 3, 1) := by decide +kernel
theorem de_M_counts_9 : decode am_M_counts.2.1 9 = .ok (.sipush (256), 3) := by decide +kernel
theorem de_M_counts_12 : decode am_M_counts.2.1 12 = .ok (.if_icmp .ge (16), 3) := by decide +kernel
theorem de_M_counts_15 : decode am_M_counts.2.1 15 = .ok (.aload_n 0, 1) := by decide +kernel
theorem de_M_counts_16 : decode am_M_counts.2.1 16 = .ok (.getfield 69, 3) := by decide +kernel
theorem de_M_counts_19 : decode am_M_counts.2.1 19 = .ok (.iload_n 3, 1) := by decide +kernel
theorem de_M_counts_20 : decode am_M_counts.2.1 20 = .ok (.iconst 0, 1) := by decide +kernel
theorem de_M_counts_21 : decode am_M_counts.2.1 21 = .ok (.iastore, 1) := by decide +kernel
theorem de_M_counts_22 : decode am_M_counts.2.1 22 = .ok (.iinc 3 (1), 3) := by decide +kernel
theorem de_M_counts_25 : decode am_M_counts.2.1 25 = .ok (.goto (-17), 3) := by decide +kernel
theorem de_M_counts_28 : decode am_M_counts.2.1 28 = .ok (.iconst 0, 1) := by decide +kernel
theorem de_M_counts_29 : decode am_M_counts.2.1 29 = .ok (.istore_n 3, 1) := by decide +kernel
theorem de_M_counts_30 : decode am_M_counts.2.1 30 = .ok (.iload_n 3, 1) := by decide +kernel
theorem de_M_counts_31 : decode am_M_counts.2.1 31 = .ok (.iload_n 2, 1) := by decide +kernel
theorem de_M_counts_32 : decode am_M_counts.2.1 32 = .ok (.if_icmp .ge (62), 3) := by decide +kernel
theorem de_M_counts_35 : decode am_M_counts.2.1 35 = .ok (.aload_n 0, 1) := by decide +kernel
theorem de_M_counts_36 : decode am_M_counts.2.1 36 = .ok (.aload_n 0, 1) := by decide +kernel
theorem de_M_counts_37 : decode am_M_counts.2.1 37 = .ok (.getfield 57, 3) := by decide +kernel
theorem de_M_counts_40 : decode am_M_counts.2.1 40 = .ok (.iload_n 3, 1) := by decide +kernel
theorem de_M_counts_41 : decode am_M_counts.2.1 41 = .ok (.iaload, 1) := by decide +kernel
theorem de_M_counts_42 : decode am_M_counts.2.1 42 = .ok (.aload_n 0, 1) := by decide +kernel
theorem de_M_counts_43 : decode am_M_counts.2.1 43 = .ok (.invokevirtual 213, 3) := by decide +kernel
theorem de_M_counts_46 : decode am_M_counts.2.1 46 = .ok (.aload_n 0, 1) := by decide +kernel
theorem de_M_counts_47 : decode am_M_counts.2.1 47 = .ok (.invokevirtual 216, 3) := by decide +kernel
theorem de_M_counts_50 : decode am_M_counts.2.1 50 = .ok (.iconst 0, 1) := by decide +kernel
theorem de_M_counts_51 : decode am_M_counts.2.1 51 = .ok (.invokevirtual 219, 3) := by decide +kernel
theorem de_M_counts_54 : decode am_M_counts.2.1 54 = .ok (.istore 4, 2) := by decide +kernel
theorem de_M_counts_56 : decode am_M_counts.2.1 56 = .ok (.iconst 0, 1) := by decide +kernel
theorem de_M_counts_57 : decode am_M_counts.2.1 57 = .ok (.istore 5, 2) := by decide +kernel
theorem de_M_counts_59 : decode am_M_counts.2.1 59 = .ok (.iload 5, 2) := by decide +kernel
theorem de_M_counts_61 : decode am_M_counts.2.1 61 = .ok (.iload 4, 2) := by decide +kernel
theorem de_M_counts_63 : decode am_M_counts.2.1 63 = .ok (.if_icmp .ge (25), 3) := by decide +kernel
theorem de_M_counts_66 : decode am_M_counts.2.1 66 = .ok (.aload_n 0, 1) := by decide +kernel
theorem de_M_counts_67 : decode am_M_counts.2.1 67 = .ok (.getfield 69, 3) := by decide +kernel
theorem de_M_counts_70 : decode am_M_counts.2.1 70 = .ok (.aload_n 0, 1) := by decide +kernel
theorem de_M_counts_71 : decode am_M_counts.2.1 71 = .ok (.getfield 54, 3) := by decide +kernel
theorem de_M_counts_74 : decode am_M_counts.2.1 74 = .ok (.iload 5, 2) := by decide +kernel
theorem de_M_counts_76 : decode am_M_counts.2.1 76 = .ok (.iaload, 1) := by decide +kernel
theorem de_M_counts_77 : decode am_M_counts.2.1 77 = .ok (.dup2, 1) := by decide +kernel
theorem de_M_counts_78 : decode am_M_counts.2.1 78 = .ok (.iaload, 1) := by decide +kernel
theorem de_M_counts_79 : decode am_M_counts.2.1 79 = .ok (.iconst 1, 1) := by decide +kernel
theorem de_M_counts_80 : decode am_M_counts.2.1 80 = .ok (.iadd, 1) := by decide +kernel
theorem de_M_counts_81 : decode am_M_counts.2.1 81 = .ok (.iastore, 1) := by decide +kernel
theorem de_M_counts_82 : decode am_M_counts.2.1 82 = .ok (.iinc 5 (1), 3) := by decide +kernel
theorem de_M_counts_85 : decode am_M_counts.2.1 85 = .ok (.goto (-26), 3) := by decide +kernel
theorem de_M_counts_88 : decode am_M_counts.2.1 88 = .ok (.iinc 3 (1), 3) := by decide +kernel
theorem de_M_counts_91 : decode am_M_counts.2.1 91 = .ok (.goto (-61), 3) := by decide +kernel
theorem de_M_counts_94 : decode am_M_counts.2.1 94 = .ok (.iload_n 2, 1) := by decide +kernel
theorem de_M_counts_95 : decode am_M_counts.2.1 95 = .ok (.ireturn, 1) := by decide +kernel
theorem de_M_sure_0 : decode am_M_sure.2.1 0 = .ok (.aload_n 0, 1) := by decide +kernel
theorem de_M_sure_1 : decode am_M_sure.2.1 1 = .ok (.invokevirtual 264, 3) := by decide +kernel
theorem de_M_sure_4 : decode am_M_sure.2.1 4 = .ok (.ifCond .ne (10), 3) := by decide +kernel
theorem de_M_sure_7 : decode am_M_sure.2.1 7 = .ok (.aload_n 0, 1) := by decide +kernel
theorem de_M_sure_8 : decode am_M_sure.2.1 8 = .ok (.bipush (-5), 2) := by decide +kernel
theorem de_M_sure_10 : decode am_M_sure.2.1 10 = .ok (.invokevirtual 94, 3) := by decide +kernel
theorem de_M_sure_13 : decode am_M_sure.2.1 13 = .ok (.ireturn, 1) := by decide +kernel
theorem de_M_sure_14 : decode am_M_sure.2.1 14 = .ok (.aload_n 0, 1) := by decide +kernel
theorem de_M_sure_15 : decode am_M_sure.2.1 15 = .ok (.iload_n 2, 1) := by decide +kernel
theorem de_M_sure_16 : decode am_M_sure.2.1 16 = .ok (.invokevirtual 266, 3) := by decide +kernel
theorem de_M_sure_19 : decode am_M_sure.2.1 19 = .ok (.ifCond .eq (11), 3) := by decide +kernel
theorem de_M_sure_22 : decode am_M_sure.2.1 22 = .ok (.aload_n 0, 1) := by decide +kernel
theorem de_M_sure_23 : decode am_M_sure.2.1 23 = .ok (.iload_n 1, 1) := by decide +kernel
theorem de_M_sure_24 : decode am_M_sure.2.1 24 = .ok (.invokevirtual 201, 3) := by decide +kernel
theorem de_M_sure_27 : decode am_M_sure.2.1 27 = .ok (.ifCond .ne (10), 3) := by decide +kernel
theorem de_M_sure_30 : decode am_M_sure.2.1 30 = .ok (.aload_n 0, 1) := by decide +kernel
theorem de_M_sure_31 : decode am_M_sure.2.1 31 = .ok (.bipush (-6), 2) := by decide +kernel
theorem de_M_sure_33 : decode am_M_sure.2.1 33 = .ok (.invokevirtual 94, 3) := by decide +kernel
theorem de_M_sure_36 : decode am_M_sure.2.1 36 = .ok (.ireturn, 1) := by decide +kernel
theorem de_M_sure_37 : decode am_M_sure.2.1 37 = .ok (.aload_n 0, 1) := by decide +kernel
theorem de_M_sure_38 : decode am_M_sure.2.1 38 = .ok (.iload_n 2, 1) := by decide +kernel
theorem de_M_sure_39 : decode am_M_sure.2.1 39 = .ok (.invokevirtual 275, 3) := by decide +kernel
theorem de_M_sure_42 : decode am_M_sure.2.1 42 = .ok (.istore_n 3, 1) := by decide +kernel
theorem de_M_sure_43 : decode am_M_sure.2.1 43 = .ok (.aload_n 0, 1) := by decide +kernel
theorem de_M_sure_44 : decode am_M_sure.2.1 44 = .ok (.getfield 69, 3) := by decide +kernel
theorem de_M_sure_47 : decode am_M_sure.2.1 47 = .ok (.iload_n 1, 1) := by decide +kernel
theorem de_M_sure_48 : decode am_M_sure.2.1 48 = .ok (.iaload, 1) := by decide +kernel
theorem de_M_sure_49 : decode am_M_sure.2.1 49 = .ok (.iload_n 3, 1) := by decide +kernel
theorem de_M_sure_50 : decode am_M_sure.2.1 50 = .ok (.if_icmp .ne (7), 3) := by decide +kernel
theorem de_M_sure_53 : decode am_M_sure.2.1 53 = .ok (.iconst 1, 1) := by decide +kernel
theorem de_M_sure_54 : decode am_M_sure.2.1 54 = .ok (.goto (17), 3) := by decide +kernel
theorem de_M_sure_57 : decode am_M_sure.2.1 57 = .ok (.aload_n 0, 1) := by decide +kernel
theorem de_M_sure_58 : decode am_M_sure.2.1 58 = .ok (.getfield 69, 3) := by decide +kernel
theorem de_M_sure_61 : decode am_M_sure.2.1 61 = .ok (.iload_n 1, 1) := by decide +kernel
theorem de_M_sure_62 : decode am_M_sure.2.1 62 = .ok (.iaload, 1) := by decide +kernel
theorem de_M_sure_63 : decode am_M_sure.2.1 63 = .ok (.ifCond .ne (7), 3) := by decide +kernel
theorem de_M_sure_66 : decode am_M_sure.2.1 66 = .ok (.iconst 0, 1) := by decide +kernel
theorem de_M_sure_67 : decode am_M_sure.2.1 67 = .ok (.goto (4), 3) := by decide +kernel
theorem de_M_sure_70 : decode am_M_sure.2.1 70 = .ok (.iconst 2, 1) := by decide +kernel
theorem de_M_sure_71 : decode am_M_sure.2.1 71 = .ok (.ireturn, 1) := by decide +kernel
theorem de_M_asked_0 : decode am_M_asked.2.1 0 = .ok (.aload_n 0, 1) := by decide +kernel
theorem de_M_asked_1 : decode am_M_asked.2.1 1 = .ok (.iload_n 1, 1) := by decide +kernel
theorem de_M_asked_2 : decode am_M_asked.2.1 2 = .ok (.invokevirtual 275, 3) := by decide +kernel
theorem de_M_asked_5 : decode am_M_asked.2.1 5 = .ok (.istore_n 2, 1) := by decide +kernel
theorem de_M_asked_6 : decode am_M_asked.2.1 6 = .ok (.iconst (-1), 1) := by decide +kernel
theorem de_M_asked_7 : decode am_M_asked.2.1 7 = .ok (.istore_n 3, 1) := by decide +kernel
theorem de_M_asked_8 : decode am_M_asked.2.1 8 = .ok (.iconst 0, 1) := by decide +kernel
theorem de_M_asked_9 : decode am_M_asked.2.1 9 = .ok (.istore 4, 2) := by decide +kernel
theorem de_M_asked_11 : decode am_M_asked.2.1 11 = .ok (.iconst 0, 1) := by decide +kernel
theorem de_M_asked_12 : decode am_M_asked.2.1 12 = .ok (.istore 5, 2) := by decide +kernel
theorem de_M_asked_14 : decode am_M_asked.2.1 14 = .ok (.iload 5, 2) := by decide +kernel
theorem de_M_asked_16 : decode am_M_asked.2.1 16 = .ok (.sipush (252), 3) := by decide +kernel
theorem de_M_asked_19 : decode am_M_asked.2.1 19 = .ok (.if_icmp .ge (92), 3) := by decide +kernel
theorem de_M_asked_22 : decode am_M_asked.2.1 22 = .ok (.aload_n 0, 1) := by decide +kernel
theorem de_M_asked_23 : decode am_M_asked.2.1 23 = .ok (.getfield 69, 3) := by decide +kernel
theorem de_M_asked_26 : decode am_M_asked.2.1 26 = .ok (.iload 5, 2) := by decide +kernel
theorem de_M_asked_28 : decode am_M_asked.2.1 28 = .ok (.iaload, 1) := by decide +kernel
theorem de_M_asked_29 : decode am_M_asked.2.1 29 = .ok (.ifCond .eq (76), 3) := by decide +kernel
theorem de_M_asked_32 : decode am_M_asked.2.1 32 = .ok (.aload_n 0, 1) := by decide +kernel
theorem de_M_asked_33 : decode am_M_asked.2.1 33 = .ok (.getfield 69, 3) := by decide +kernel
theorem de_M_asked_36 : decode am_M_asked.2.1 36 = .ok (.iload 5, 2) := by decide +kernel
theorem de_M_asked_38 : decode am_M_asked.2.1 38 = .ok (.iaload, 1) := by decide +kernel
theorem de_M_asked_39 : decode am_M_asked.2.1 39 = .ok (.iload_n 2, 1) := by decide +kernel
theorem de_M_asked_40 : decode am_M_asked.2.1 40 = .ok (.if_icmp .ne (6), 3) := by decide +kernel
theorem de_M_asked_43 : decode am_M_asked.2.1 43 = .ok (.goto (62), 3) := by decide +kernel
theorem de_M_asked_46 : decode am_M_asked.2.1 46 = .ok (.aload_n 0, 1) := by decide +kernel
theorem de_M_asked_47 : decode am_M_asked.2.1 47 = .ok (.getfield 69, 3) := by decide +kernel
theorem de_M_asked_50 : decode am_M_asked.2.1 50 = .ok (.iload 5, 2) := by decide +kernel
theorem de_M_asked_52 : decode am_M_asked.2.1 52 = .ok (.iaload, 1) := by decide +kernel
theorem de_M_asked_53 : decode am_M_asked.2.1 53 = .ok (.iload_n 2, 1) := by decide +kernel
theorem de_M_asked_54 : decode am_M_asked.2.1 54 = .ok (.aload_n 0, 1) := by decide +kernel
theorem de_M_asked_55 : decode am_M_asked.2.1 55 = .ok (.getfield 69, 3) := by decide +kernel
theorem de_M_asked_58 : decode am_M_asked.2.1 58 = .ok (.iload 5, 2) := by decide +kernel
theorem de_M_asked_60 : decode am_M_asked.2.1 60 = .ok (.iaload, 1) := by decide +kernel
theorem de_M_asked_61 : decode am_M_asked.2.1 61 = .ok (.isub, 1) := by decide +kernel
theorem de_M_asked_62 : decode am_M_asked.2.1 62 = .ok (.if_icmp .le (13), 3) := by decide +kernel
theorem de_M_asked_65 : decode am_M_asked.2.1 65 = .ok (.aload_n 0, 1) := by decide +kernel
theorem de_M_asked_66 : decode am_M_asked.2.1 66 = .ok (.getfield 69, 3) := by decide +kernel
theorem de_M_asked_69 : decode am_M_asked.2.1 69 = .ok (.iload 5, 2) := by decide +kernel
theorem de_M_asked_71 : decode am_M_asked.2.1 71 = .ok (.iaload, 1) := by decide +kernel
theorem de_M_asked_72 : decode am_M_asked.2.1 72 = .ok (.goto (12), 3) := by decide +kernel
theorem de_M_asked_75 : decode am_M_asked.2.1 75 = .ok (.iload_n 2, 1) := by decide +kernel
theorem de_M_asked_76 : decode am_M_asked.2.1 76 = .ok (.aload_n 0, 1) := by decide +kernel
theorem de_M_asked_77 : decode am_M_asked.2.1 77 = .ok (.getfield 69, 3) := by decide +kernel
theorem de_M_asked_80 : decode am_M_asked.2.1 80 = .ok (.iload 5, 2) := by decide +kernel
theorem de_M_asked_82 : decode am_M_asked.2.1 82 = .ok (.iaload, 1) := by decide +kernel
theorem de_M_asked_83 : decode am_M_asked.2.1 83 = .ok (.isub, 1) := by decide +kernel
theorem de_M_asked_84 : decode am_M_asked.2.1 84 = .ok (.istore 6, 2) := by decide +kernel
theorem de_M_asked_86 : decode am_M_asked.2.1 86 = .ok (.iload_n 3, 1) := by decide +kernel
theorem de_M_asked_87 : decode am_M_asked.2.1 87 = .ok (.iconst (-1), 1) := by decide +kernel
theorem de_M_asked_88 : decode am_M_asked.2.1 88 = .ok (.if_icmp .eq (10), 3) := by decide +kernel
theorem de_M_asked_91 : decode am_M_asked.2.1 91 = .ok (.iload 6, 2) := by decide +kernel
theorem de_M_asked_93 : decode am_M_asked.2.1 93 = .ok (.iload 4, 2) := by decide +kernel
theorem de_M_asked_95 : decode am_M_asked.2.1 95 = .ok (.if_icmp .ge (10), 3) := by decide +kernel
theorem de_M_asked_98 : decode am_M_asked.2.1 98 = .ok (.iload 6, 2) := by decide +kernel
theorem de_M_asked_100 : decode am_M_asked.2.1 100 = .ok (.istore 4, 2) := by decide +kernel
theorem de_M_asked_102 : decode am_M_asked.2.1 102 = .ok (.iload 5, 2) := by decide +kernel
theorem de_M_asked_104 : decode am_M_asked.2.1 104 = .ok (.istore_n 3, 1) := by decide +kernel
theorem de_M_asked_105 : decode am_M_asked.2.1 105 = .ok (.iinc 5 (1), 3) := by decide +kernel
theorem de_M_asked_108 : decode am_M_asked.2.1 108 = .ok (.goto (-94), 3) := by decide +kernel
theorem de_M_asked_111 : decode am_M_asked.2.1 111 = .ok (.iload_n 3, 1) := by decide +kernel
theorem de_M_asked_112 : decode am_M_asked.2.1 112 = .ok (.ireturn, 1) := by decide +kernel
theorem de_M_ask_0 : decode am_M_ask.2.1 0 = .ok (.aload_n 0, 1) := by decide +kernel
theorem de_M_ask_1 : decode am_M_ask.2.1 1 = .ok (.iload_n 1, 1) := by decide +kernel
theorem de_M_ask_2 : decode am_M_ask.2.1 2 = .ok (.invokevirtual 266, 3) := by decide +kernel
theorem de_M_ask_5 : decode am_M_ask.2.1 5 = .ok (.ifCond .eq (11), 3) := by decide +kernel
theorem de_M_ask_8 : decode am_M_ask.2.1 8 = .ok (.aload_n 0, 1) := by decide +kernel
theorem de_M_ask_9 : decode am_M_ask.2.1 9 = .ok (.iload_n 1, 1) := by decide +kernel
theorem de_M_ask_10 : decode am_M_ask.2.1 10 = .ok (.invokevirtual 278, 3) := by decide +kernel
theorem de_M_ask_13 : decode am_M_ask.2.1 13 = .ok (.goto (9), 3) := by decide +kernel
theorem de_M_ask_16 : decode am_M_ask.2.1 16 = .ok (.aload_n 0, 1) := by decide +kernel
theorem de_M_ask_17 : decode am_M_ask.2.1 17 = .ok (.bipush (-6), 2) := by decide +kernel
theorem de_M_ask_19 : decode am_M_ask.2.1 19 = .ok (.invokevirtual 222, 3) := by decide +kernel
theorem de_M_ask_22 : decode am_M_ask.2.1 22 = .ok (.ireturn, 1) := by decide +kernel
theorem de_M_left_0 : decode am_M_left.2.1 0 = .ok (.aload_n 0, 1) := by decide +kernel
theorem de_M_left_1 : decode am_M_left.2.1 1 = .ok (.iload_n 1, 1) := by decide +kernel
theorem de_M_left_2 : decode am_M_left.2.1 2 = .ok (.invokevirtual 266, 3) := by decide +kernel
theorem de_M_left_5 : decode am_M_left.2.1 5 = .ok (.ifCond .ne (10), 3) := by decide +kernel
theorem de_M_left_8 : decode am_M_left.2.1 8 = .ok (.aload_n 0, 1) := by decide +kernel
theorem de_M_left_9 : decode am_M_left.2.1 9 = .ok (.bipush (-6), 2) := by decide +kernel
theorem de_M_left_11 : decode am_M_left.2.1 11 = .ok (.invokevirtual 94, 3) := by decide +kernel
theorem de_M_left_14 : decode am_M_left.2.1 14 = .ok (.ireturn, 1) := by decide +kernel
theorem de_M_left_15 : decode am_M_left.2.1 15 = .ok (.aload_n 0, 1) := by decide +kernel
theorem de_M_left_16 : decode am_M_left.2.1 16 = .ok (.iload_n 1, 1) := by decide +kernel
theorem de_M_left_17 : decode am_M_left.2.1 17 = .ok (.invokevirtual 278, 3) := by decide +kernel
theorem de_M_left_20 : decode am_M_left.2.1 20 = .ok (.istore_n 2, 1) := by decide +kernel
theorem de_M_left_21 : decode am_M_left.2.1 21 = .ok (.aload_n 0, 1) := by decide +kernel
theorem de_M_left_22 : decode am_M_left.2.1 22 = .ok (.iload_n 1, 1) := by decide +kernel
theorem de_M_left_23 : decode am_M_left.2.1 23 = .ok (.invokevirtual 269, 3) := by decide +kernel
theorem de_M_left_26 : decode am_M_left.2.1 26 = .ok (.istore_n 3, 1) := by decide +kernel
theorem de_M_left_27 : decode am_M_left.2.1 27 = .ok (.iload_n 2, 1) := by decide +kernel
theorem de_M_left_28 : decode am_M_left.2.1 28 = .ok (.iconst (-1), 1) := by decide +kernel
theorem de_M_left_29 : decode am_M_left.2.1 29 = .ok (.if_icmp .ne (7), 3) := by decide +kernel
theorem de_M_left_32 : decode am_M_left.2.1 32 = .ok (.iconst 0, 1) := by decide +kernel
theorem de_M_left_33 : decode am_M_left.2.1 33 = .ok (.goto (37), 3) := by decide +kernel
theorem de_M_left_36 : decode am_M_left.2.1 36 = .ok (.aload_n 0, 1) := by decide +kernel
theorem de_M_left_37 : decode am_M_left.2.1 37 = .ok (.getfield 69, 3) := by decide +kernel
theorem de_M_left_40 : decode am_M_left.2.1 40 = .ok (.iload_n 2, 1) := by decide +kernel
theorem de_M_left_41 : decode am_M_left.2.1 41 = .ok (.iaload, 1) := by decide +kernel
theorem de_M_left_42 : decode am_M_left.2.1 42 = .ok (.iload_n 3, 1) := by decide +kernel
theorem de_M_left_43 : decode am_M_left.2.1 43 = .ok (.aload_n 0, 1) := by decide +kernel
theorem de_M_left_44 : decode am_M_left.2.1 44 = .ok (.getfield 69, 3) := by decide +kernel
theorem de_M_left_47 : decode am_M_left.2.1 47 = .ok (.iload_n 2, 1) := by decide +kernel
theorem de_M_left_48 : decode am_M_left.2.1 48 = .ok (.iaload, 1) := by decide +kernel
theorem de_M_left_49 : decode am_M_left.2.1 49 = .ok (.isub, 1) := by decide +kernel
theorem de_M_left_50 : decode am_M_left.2.1 50 = .ok (.if_icmp .le (12), 3) := by decide +kernel
theorem de_M_left_53 : decode am_M_left.2.1 53 = .ok (.aload_n 0, 1) := by decide +kernel
theorem de_M_left_54 : decode am_M_left.2.1 54 = .ok (.getfield 69, 3) := by decide +kernel
theorem de_M_left_57 : decode am_M_left.2.1 57 = .ok (.iload_n 2, 1) := by decide +kernel
theorem de_M_left_58 : decode am_M_left.2.1 58 = .ok (.iaload, 1) := by decide +kernel
theorem de_M_left_59 : decode am_M_left.2.1 59 = .ok (.goto (11), 3) := by decide +kernel
theorem de_M_left_62 : decode am_M_left.2.1 62 = .ok (.iload_n 3, 1) := by decide +kernel
theorem de_M_left_63 : decode am_M_left.2.1 63 = .ok (.aload_n 0, 1) := by decide +kernel
theorem de_M_left_64 : decode am_M_left.2.1 64 = .ok (.getfield 69, 3) := by decide +kernel
theorem de_M_left_67 : decode am_M_left.2.1 67 = .ok (.iload_n 2, 1) := by decide +kernel
theorem de_M_left_68 : decode am_M_left.2.1 68 = .ok (.iaload, 1) := by decide +kernel
theorem de_M_left_69 : decode am_M_left.2.1 69 = .ok (.isub, 1) := by decide +kernel
theorem de_M_left_70 : decode am_M_left.2.1 70 = .ok (.ireturn, 1) := by decide +kernel
theorem de_M_faults_0 : decode am_M_faults.2.1 0 = .ok (.aload_n 0, 1) := by decide +kernel
theorem de_M_faults_1 : decode am_M_faults.2.1 1 = .ok (.getfield 258, 3) := by decide +kernel
theorem de_M_faults_4 : decode am_M_faults.2.1 4 = .ok (.iconst 1, 1) := by decide +kernel
theorem de_M_faults_5 : decode am_M_faults.2.1 5 = .ok (.if_icmp .ne (4), 3) := by decide +kernel
theorem de_M_faults_8 : decode am_M_faults.2.1 8 = .ok (.return_, 1) := by decide +kernel
theorem de_M_faults_9 : decode am_M_faults.2.1 9 = .ok (.iconst 1, 1) := by decide +kernel
theorem de_M_faults_10 : decode am_M_faults.2.1 10 = .ok (.istore_n 1, 1) := by decide +kernel
theorem de_M_faults_11 : decode am_M_faults.2.1 11 = .ok (.iload_n 1, 1) := by decide +kernel
theorem de_M_faults_12 : decode am_M_faults.2.1 12 = .ok (.sipush (4096), 3) := by decide +kernel
theorem de_M_faults_15 : decode am_M_faults.2.1 15 = .ok (.if_icmp .ge (113), 3) := by decide +kernel
theorem de_M_faults_18 : decode am_M_faults.2.1 18 = .ok (.iconst 0, 1) := by decide +kernel
theorem de_M_faults_19 : decode am_M_faults.2.1 19 = .ok (.istore_n 2, 1) := by decide +kernel
theorem de_M_faults_20 : decode am_M_faults.2.1 20 = .ok (.iconst 0, 1) := by decide +kernel
theorem de_M_faults_21 : decode am_M_faults.2.1 21 = .ok (.istore_n 3, 1) := by decide +kernel
theorem de_M_faults_22 : decode am_M_faults.2.1 22 = .ok (.iload_n 3, 1) := by decide +kernel
theorem de_M_faults_23 : decode am_M_faults.2.1 23 = .ok (.aload_n 0, 1) := by decide +kernel
theorem de_M_faults_24 : decode am_M_faults.2.1 24 = .ok (.getfield 84, 3) := by decide +kernel
theorem de_M_faults_27 : decode am_M_faults.2.1 27 = .ok (.if_icmp .ge (88), 3) := by decide +kernel
theorem de_M_faults_30 : decode am_M_faults.2.1 30 = .ok (.aload_n 0, 1) := by decide +kernel
theorem de_M_faults_31 : decode am_M_faults.2.1 31 = .ok (.iload_n 3, 1) := by decide +kernel
theorem de_M_faults_32 : decode am_M_faults.2.1 32 = .ok (.invokevirtual 245, 3) := by decide +kernel
theorem de_M_faults_35 : decode am_M_faults.2.1 35 = .ok (.iconst 0, 1) := by decide +kernel
theorem de_M_faults_36 : decode am_M_faults.2.1 36 = .ok (.istore 4, 2) := by decide +kernel
theorem de_M_faults_38 : decode am_M_faults.2.1 38 = .ok (.iload 4, 2) := by decide +kernel
theorem de_M_faults_40 : decode am_M_faults.2.1 40 = .ok (.aload_n 0, 1) := by decide +kernel
theorem de_M_faults_41 : decode am_M_faults.2.1 41 = .ok (.getfield 29, 3) := by decide +kernel
theorem de_M_faults_44 : decode am_M_faults.2.1 44 = .ok (.iload_n 3, 1) := by decide +kernel
theorem de_M_faults_45 : decode am_M_faults.2.1 45 = .ok (.iaload, 1) := by decide +kernel
theorem de_M_faults_46 : decode am_M_faults.2.1 46 = .ok (.if_icmp .ge (51), 3) := by decide +kernel
theorem de_M_faults_49 : decode am_M_faults.2.1 49 = .ok (.aload_n 0, 1) := by decide +kernel
theorem de_M_faults_50 : decode am_M_faults.2.1 50 = .ok (.getfield 26, 3) := by decide +kernel
theorem de_M_faults_53 : decode am_M_faults.2.1 53 = .ok (.bipush (20), 2) := by decide +kernel
theorem de_M_faults_55 : decode am_M_faults.2.1 55 = .ok (.iload_n 3, 1) := by decide +kernel
theorem de_M_faults_56 : decode am_M_faults.2.1 56 = .ok (.imul, 1) := by decide +kernel
theorem de_M_faults_57 : decode am_M_faults.2.1 57 = .ok (.iload 4, 2) := by decide +kernel
theorem de_M_faults_59 : decode am_M_faults.2.1 59 = .ok (.iadd, 1) := by decide +kernel
theorem de_M_faults_60 : decode am_M_faults.2.1 60 = .ok (.iaload, 1) := by decide +kernel
theorem de_M_faults_61 : decode am_M_faults.2.1 61 = .ok (.istore 5, 2) := by decide +kernel
theorem de_M_faults_63 : decode am_M_faults.2.1 63 = .ok (.aload_n 0, 1) := by decide +kernel
theorem de_M_faults_64 : decode am_M_faults.2.1 64 = .ok (.iload_n 1, 1) := by decide +kernel
theorem de_M_faults_65 : decode am_M_faults.2.1 65 = .ok (.iload 5, 2) := by decide +kernel
theorem de_M_faults_67 : decode am_M_faults.2.1 67 = .ok (.aload_n 0, 1) := by decide +kernel
theorem de_M_faults_68 : decode am_M_faults.2.1 68 = .ok (.getfield 239, 3) := by decide +kernel
theorem de_M_faults_71 : decode am_M_faults.2.1 71 = .ok (.aload_n 0, 1) := by decide +kernel
theorem de_M_faults_72 : decode am_M_faults.2.1 72 = .ok (.getfield 242, 3) := by decide +kernel
theorem de_M_faults_75 : decode am_M_faults.2.1 75 = .ok (.invokevirtual 204, 3) := by decide +kernel
theorem de_M_faults_78 : decode am_M_faults.2.1 78 = .ok (.ifCond .ne (6), 3) := by decide +kernel
theorem de_M_faults_81 : decode am_M_faults.2.1 81 = .ok (.iinc 2 (1), 3) := by decide +kernel
theorem de_M_faults_84 : decode am_M_faults.2.1 84 = .ok (.aload_n 0, 1) := by decide +kernel
theorem de_M_faults_85 : decode am_M_faults.2.1 85 = .ok (.iload_n 1, 1) := by decide +kernel
theorem de_M_faults_86 : decode am_M_faults.2.1 86 = .ok (.iload 5, 2) := by decide +kernel
theorem de_M_faults_88 : decode am_M_faults.2.1 88 = .ok (.invokevirtual 249, 3) := by decide +kernel
theorem de_M_faults_91 : decode am_M_faults.2.1 91 = .ok (.iinc 4 (1), 3) := by decide +kernel
theorem de_M_faults_94 : decode am_M_faults.2.1 94 = .ok (.goto (-56), 3) := by decide +kernel
theorem de_M_faults_97 : decode am_M_faults.2.1 97 = .ok (.aload_n 0, 1) := by decide +kernel
theorem de_M_faults_98 : decode am_M_faults.2.1 98 = .ok (.iload_n 3, 1) := by decide +kernel
theorem de_M_faults_99 : decode am_M_faults.2.1 99 = .ok (.iload_n 1, 1) := by decide +kernel
theorem de_M_faults_100 : decode am_M_faults.2.1 100 = .ok (.invokevirtual 252, 3) := by decide +kernel
theorem de_M_faults_103 : decode am_M_faults.2.1 103 = .ok (.ifCond .ne (6), 3) := by decide +kernel
theorem de_M_faults_106 : decode am_M_faults.2.1 106 = .ok (.iinc 2 (1), 3) := by decide +kernel
theorem de_M_faults_109 : decode am_M_faults.2.1 109 = .ok (.iinc 3 (1), 3) := by decide +kernel
theorem de_M_faults_112 : decode am_M_faults.2.1 112 = .ok (.goto (-90), 3) := by decide +kernel
theorem de_M_faults_115 : decode am_M_faults.2.1 115 = .ok (.aload_n 0, 1) := by decide +kernel
theorem de_M_faults_116 : decode am_M_faults.2.1 116 = .ok (.getfield 60, 3) := by decide +kernel
theorem de_M_faults_119 : decode am_M_faults.2.1 119 = .ok (.iload_n 1, 1) := by decide +kernel
theorem de_M_faults_120 : decode am_M_faults.2.1 120 = .ok (.iload_n 2, 1) := by decide +kernel
