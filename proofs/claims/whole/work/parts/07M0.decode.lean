theorem de_M_init_0 : decode am_M_init.2.1 0 = .ok (.aload_n 0, 1) := by decide +kernel
theorem de_M_init_1 : decode am_M_init.2.1 1 = .ok (.invokespecial 1, 3) := by decide +kernel
theorem de_M_init_4 : decode am_M_init.2.1 4 = .ok (.aload_n 0, 1) := by decide +kernel
theorem de_M_init_5 : decode am_M_init.2.1 5 = .ok (.iconst (-1), 1) := by decide +kernel
theorem de_M_init_6 : decode am_M_init.2.1 6 = .ok (.putfield 9, 3) := by decide +kernel
theorem de_M_init_9 : decode am_M_init.2.1 9 = .ok (.aload_n 0, 1) := by decide +kernel
theorem de_M_init_10 : decode am_M_init.2.1 10 = .ok (.bipush (8), 2) := by decide +kernel
theorem de_M_init_12 : decode am_M_init.2.1 12 = .ok (.newarray .int, 2) := by decide +kernel
theorem de_M_init_14 : decode am_M_init.2.1 14 = .ok (.putfield 13, 3) := by decide +kernel
theorem de_M_init_17 : decode am_M_init.2.1 17 = .ok (.aload_n 0, 1) := by decide +kernel
theorem de_M_init_18 : decode am_M_init.2.1 18 = .ok (.bipush (36), 2) := by decide +kernel
theorem de_M_init_20 : decode am_M_init.2.1 20 = .ok (.newarray .int, 2) := by decide +kernel
theorem de_M_init_22 : decode am_M_init.2.1 22 = .ok (.putfield 17, 3) := by decide +kernel
theorem de_M_init_25 : decode am_M_init.2.1 25 = .ok (.aload_n 0, 1) := by decide +kernel
theorem de_M_init_26 : decode am_M_init.2.1 26 = .ok (.bipush (8), 2) := by decide +kernel
theorem de_M_init_28 : decode am_M_init.2.1 28 = .ok (.newarray .int, 2) := by decide +kernel
theorem de_M_init_30 : decode am_M_init.2.1 30 = .ok (.putfield 20, 3) := by decide +kernel
theorem de_M_init_33 : decode am_M_init.2.1 33 = .ok (.aload_n 0, 1) := by decide +kernel
theorem de_M_init_34 : decode am_M_init.2.1 34 = .ok (.bipush (72), 2) := by decide +kernel
theorem de_M_init_36 : decode am_M_init.2.1 36 = .ok (.newarray .int, 2) := by decide +kernel
theorem de_M_init_38 : decode am_M_init.2.1 38 = .ok (.putfield 23, 3) := by decide +kernel
theorem de_M_init_41 : decode am_M_init.2.1 41 = .ok (.aload_n 0, 1) := by decide +kernel
theorem de_M_init_42 : decode am_M_init.2.1 42 = .ok (.bipush (120), 2) := by decide +kernel
theorem de_M_init_44 : decode am_M_init.2.1 44 = .ok (.newarray .int, 2) := by decide +kernel
theorem de_M_init_46 : decode am_M_init.2.1 46 = .ok (.putfield 26, 3) := by decide +kernel
theorem de_M_init_49 : decode am_M_init.2.1 49 = .ok (.aload_n 0, 1) := by decide +kernel
theorem de_M_init_50 : decode am_M_init.2.1 50 = .ok (.bipush (6), 2) := by decide +kernel
theorem de_M_init_52 : decode am_M_init.2.1 52 = .ok (.newarray .int, 2) := by decide +kernel
theorem de_M_init_54 : decode am_M_init.2.1 54 = .ok (.putfield 29, 3) := by decide +kernel
theorem de_M_init_57 : decode am_M_init.2.1 57 = .ok (.aload_n 0, 1) := by decide +kernel
theorem de_M_init_58 : decode am_M_init.2.1 58 = .ok (.bipush (6), 2) := by decide +kernel
theorem de_M_init_60 : decode am_M_init.2.1 60 = .ok (.newarray .int, 2) := by decide +kernel
theorem de_M_init_62 : decode am_M_init.2.1 62 = .ok (.putfield 32, 3) := by decide +kernel
theorem de_M_init_65 : decode am_M_init.2.1 65 = .ok (.aload_n 0, 1) := by decide +kernel
theorem de_M_init_66 : decode am_M_init.2.1 66 = .ok (.bipush (8), 2) := by decide +kernel
theorem de_M_init_68 : decode am_M_init.2.1 68 = .ok (.newarray .int, 2) := by decide +kernel
theorem de_M_init_70 : decode am_M_init.2.1 70 = .ok (.putfield 35, 3) := by decide +kernel
theorem de_M_init_73 : decode am_M_init.2.1 73 = .ok (.aload_n 0, 1) := by decide +kernel
theorem de_M_init_74 : decode am_M_init.2.1 74 = .ok (.bipush (8), 2) := by decide +kernel
theorem de_M_init_76 : decode am_M_init.2.1 76 = .ok (.newarray .int, 2) := by decide +kernel
theorem de_M_init_78 : decode am_M_init.2.1 78 = .ok (.putfield 38, 3) := by decide +kernel
theorem de_M_init_81 : decode am_M_init.2.1 81 = .ok (.aload_n 0, 1) := by decide +kernel
theorem de_M_init_82 : decode am_M_init.2.1 82 = .ok (.bipush (8), 2) := by decide +kernel
theorem de_M_init_84 : decode am_M_init.2.1 84 = .ok (.newarray .int, 2) := by decide +kernel
theorem de_M_init_86 : decode am_M_init.2.1 86 = .ok (.putfield 41, 3) := by decide +kernel
theorem de_M_init_89 : decode am_M_init.2.1 89 = .ok (.aload_n 0, 1) := by decide +kernel
theorem de_M_init_90 : decode am_M_init.2.1 90 = .ok (.bipush (8), 2) := by decide +kernel
theorem de_M_init_92 : decode am_M_init.2.1 92 = .ok (.newarray .int, 2) := by decide +kernel
theorem de_M_init_94 : decode am_M_init.2.1 94 = .ok (.putfield 44, 3) := by decide +kernel
theorem de_M_init_97 : decode am_M_init.2.1 97 = .ok (.aload_n 0, 1) := by decide +kernel
theorem de_M_init_98 : decode am_M_init.2.1 98 = .ok (.sipush (480), 3) := by decide +kernel
theorem de_M_init_101 : decode am_M_init.2.1 101 = .ok (.newarray .long, 2) := by decide +kernel
theorem de_M_init_103 : decode am_M_init.2.1 103 = .ok (.putfield 47, 3) := by decide +kernel
theorem de_M_init_106 : decode am_M_init.2.1 106 = .ok (.aload_n 0, 1) := by decide +kernel
theorem de_M_init_107 : decode am_M_init.2.1 107 = .ok (.bipush (60), 2) := by decide +kernel
theorem de_M_init_109 : decode am_M_init.2.1 109 = .ok (.newarray .long, 2) := by decide +kernel
theorem de_M_init_111 : decode am_M_init.2.1 111 = .ok (.putfield 51, 3) := by decide +kernel
theorem de_M_init_114 : decode am_M_init.2.1 114 = .ok (.aload_n 0, 1) := by decide +kernel
theorem de_M_init_115 : decode am_M_init.2.1 115 = .ok (.sipush (600), 3) := by decide +kernel
theorem de_M_init_118 : decode am_M_init.2.1 118 = .ok (.newarray .int, 2) := by decide +kernel
theorem de_M_init_120 : decode am_M_init.2.1 120 = .ok (.putfield 54, 3) := by decide +kernel
theorem de_M_init_123 : decode am_M_init.2.1 123 = .ok (.aload_n 0, 1) := by decide +kernel
theorem de_M_init_124 : decode am_M_init.2.1 124 = .ok (.sipush (4096), 3) := by decide +kernel
theorem de_M_init_127 : decode am_M_init.2.1 127 = .ok (.newarray .int, 2) := by decide +kernel
theorem de_M_init_129 : decode am_M_init.2.1 129 = .ok (.putfield 57, 3) := by decide +kernel
theorem de_M_init_132 : decode am_M_init.2.1 132 = .ok (.aload_n 0, 1) := by decide +kernel
theorem de_M_init_133 : decode am_M_init.2.1 133 = .ok (.sipush (4096), 3) := by decide +kernel
theorem de_M_init_136 : decode am_M_init.2.1 136 = .ok (.newarray .int, 2) := by decide +kernel
theorem de_M_init_138 : decode am_M_init.2.1 138 = .ok (.putfield 60, 3) := by decide +kernel
theorem de_M_init_141 : decode am_M_init.2.1 141 = .ok (.aload_n 0, 1) := by decide +kernel
theorem de_M_init_142 : decode am_M_init.2.1 142 = .ok (.iconst (-1), 1) := by decide +kernel
theorem de_M_init_143 : decode am_M_init.2.1 143 = .ok (.putfield 63, 3) := by decide +kernel
theorem de_M_init_146 : decode am_M_init.2.1 146 = .ok (.aload_n 0, 1) := by decide +kernel
theorem de_M_init_147 : decode am_M_init.2.1 147 = .ok (.iconst (-1), 1) := by decide +kernel
theorem de_M_init_148 : decode am_M_init.2.1 148 = .ok (.putfield 66, 3) := by decide +kernel
theorem de_M_init_151 : decode am_M_init.2.1 151 = .ok (.aload_n 0, 1) := by decide +kernel
theorem de_M_init_152 : decode am_M_init.2.1 152 = .ok (.sipush (256), 3) := by decide +kernel
theorem de_M_init_155 : decode am_M_init.2.1 155 = .ok (.newarray .int, 2) := by decide +kernel
theorem de_M_init_157 : decode am_M_init.2.1 157 = .ok (.putfield 69, 3) := by decide +kernel
theorem de_M_init_160 : decode am_M_init.2.1 160 = .ok (.aload_n 0, 1) := by decide +kernel
theorem de_M_init_161 : decode am_M_init.2.1 161 = .ok (.bipush (18), 2) := by decide +kernel
theorem de_M_init_163 : decode am_M_init.2.1 163 = .ok (.newarray .int, 2) := by decide +kernel
theorem de_M_init_165 : decode am_M_init.2.1 165 = .ok (.dup, 1) := by decide +kernel
theorem de_M_init_166 : decode am_M_init.2.1 166 = .ok (.iconst 0, 1) := by decide +kernel
theorem de_M_init_167 : decode am_M_init.2.1 167 = .ok (.iconst 0, 1) := by decide +kernel
theorem de_M_init_168 : decode am_M_init.2.1 168 = .ok (.iastore, 1) := by decide +kernel
theorem de_M_init_169 : decode am_M_init.2.1 169 = .ok (.dup, 1) := by decide +kernel
theorem de_M_init_170 : decode am_M_init.2.1 170 = .ok (.iconst 1, 1) := by decide +kernel
theorem de_M_init_171 : decode am_M_init.2.1 171 = .ok (.iconst 1, 1) := by decide +kernel
theorem de_M_init_172 : decode am_M_init.2.1 172 = .ok (.iastore, 1) := by decide +kernel
theorem de_M_init_173 : decode am_M_init.2.1 173 = .ok (.dup, 1) := by decide +kernel
theorem de_M_init_174 : decode am_M_init.2.1 174 = .ok (.iconst 2, 1) := by decide +kernel
theorem de_M_init_175 : decode am_M_init.2.1 175 = .ok (.iconst 2, 1) := by decide +kernel
theorem de_M_init_176 : decode am_M_init.2.1 176 = .ok (.iastore, 1) := by decide +kernel
theorem de_M_init_177 : decode am_M_init.2.1 177 = .ok (.dup, 1) := by decide +kernel
theorem de_M_init_178 : decode am_M_init.2.1 178 = .ok (.iconst 3, 1) := by decide +kernel
theorem de_M_init_179 : decode am_M_init.2.1 179 = .ok (.iconst 0, 1) := by decide +kernel
theorem de_M_init_180 : decode am_M_init.2.1 180 = .ok (.iastore, 1) := by decide +kernel
theorem de_M_init_181 : decode am_M_init.2.1 181 = .ok (.dup, 1) := by decide +kernel
theorem de_M_init_182 : decode am_M_init.2.1 182 = .ok (.iconst 4, 1) := by decide +kernel
theorem de_M_init_183 : decode am_M_init.2.1 183 = .ok (.iconst 2, 1) := by decide +kernel
theorem de_M_init_184 : decode am_M_init.2.1 184 = .ok (.iastore, 1) := by decide +kernel
theorem de_M_init_185 : decode am_M_init.2.1 185 = .ok (.dup, 1) := by decide +kernel
theorem de_M_init_186 : decode am_M_init.2.1 186 = .ok (.iconst 5, 1) := by decide +kernel
theorem de_M_init_187 : decode am_M_init.2.1 187 = .ok (.iconst 1, 1) := by decide +kernel
theorem de_M_init_188 : decode am_M_init.2.1 188 = .ok (.iastore, 1) := by decide +kernel
theorem de_M_init_189 : decode am_M_init.2.1 189 = .ok (.dup, 1) := by decide +kernel
theorem de_M_init_190 : decode am_M_init.2.1 190 = .ok (.bipush (6), 2) := by decide +kernel
theorem de_M_init_192 : decode am_M_init.2.1 192 = .ok (.iconst 1, 1) := by decide +kernel
theorem de_M_init_193 : decode am_M_init.2.1 193 = .ok (.iastore, 1) := by decide +kernel
theorem de_M_init_194 : decode am_M_init.2.1 194 = .ok (.dup, 1) := by decide +kernel
theorem de_M_init_195 : decode am_M_init.2.1 195 = .ok (.bipush (7), 2) := by decide +kernel
theorem de_M_init_197 : decode am_M_init.2.1 197 = .ok (.iconst 0, 1) := by decide +kernel
theorem de_M_init_198 : decode am_M_init.2.1 198 = .ok (.iastore, 1) := by decide +kernel
theorem de_M_init_199 : decode am_M_init.2.1 199 = .ok (.dup, 1) := by decide +kernel
theorem de_M_init_200 : decode am_M_init.2.1 200 = .ok (.bipush (8), 2) := by decide +kernel
theorem de_M_init_202 : decode am_M_init.2.1 202 = .ok (.iconst 2, 1) := by decide +kernel
theorem de_M_init_203 : decode am_M_init.2.1 203 = .ok (.iastore, 1) := by decide +kernel
theorem de_M_init_204 : decode am_M_init.2.1 204 = .ok (.dup, 1) := by decide +kernel
theorem de_M_init_205 : decode am_M_init.2.1 205 = .ok (.bipush (9), 2) := by decide +kernel
theorem de_M_init_207 : decode am_M_init.2.1 207 = .ok (.iconst 1, 1) := by decide +kernel
theorem de_M_init_208 : decode am_M_init.2.1 208 = .ok (.iastore, 1) := by decide +kernel
theorem de_M_init_209 : decode am_M_init.2.1 209 = .ok (.dup, 1) := by decide +kernel
theorem de_M_init_210 : decode am_M_init.2.1 210 = .ok (.bipush (10), 2) := by decide +kernel
theorem de_M_init_212 : decode am_M_init.2.1 212 = .ok (.iconst 2, 1) := by decide +kernel
theorem de_M_init_213 : decode am_M_init.2.1 213 = .ok (.iastore, 1) := by decide +kernel
theorem de_M_init_214 : decode am_M_init.2.1 214 = .ok (.dup, 1) := by decide +kernel
theorem de_M_init_215 : decode am_M_init.2.1 215 = .ok (.bipush (11), 2) := by decide +kernel
theorem de_M_init_217 : decode am_M_init.2.1 217 = .ok (.iconst 0, 1) := by decide +kernel
theorem de_M_init_218 : decode am_M_init.2.1 218 = .ok (.iastore, 1) := by decide +kernel
theorem de_M_init_219 : decode am_M_init.2.1 219 = .ok (.dup, 1) := by decide +kernel
theorem de_M_init_220 : decode am_M_init.2.1 220 = .ok (.bipush (12), 2) := by decide +kernel
theorem de_M_init_222 : decode am_M_init.2.1 222 = .ok (.iconst 2, 1) := by decide +kernel
theorem de_M_init_223 : decode am_M_init.2.1 223 = .ok (.iastore, 1) := by decide +kernel
theorem de_M_init_224 : decode am_M_init.2.1 224 = .ok (.dup, 1) := by decide +kernel
theorem de_M_init_225 : decode am_M_init.2.1 225 = .ok (.bipush (13), 2) := by decide +kernel
theorem de_M_init_227 : decode am_M_init.2.1 227 = .ok (.iconst 0, 1) := by decide +kernel
theorem de_M_init_228 : decode am_M_init.2.1 228 = .ok (.iastore, 1) := by decide +kernel
theorem de_M_init_229 : decode am_M_init.2.1 229 = .ok (.dup, 1) := by decide +kernel
theorem de_M_init_230 : decode am_M_init.2.1 230 = .ok (.bipush (14), 2) := by decide +kernel
theorem de_M_init_232 : decode am_M_init.2.1 232 = .ok (.iconst 1, 1) := by decide +kernel
theorem de_M_init_233 : decode am_M_init.2.1 233 = .ok (.iastore, 1) := by decide +kernel
theorem de_M_init_234 : decode am_M_init.2.1 234 = .ok (.dup, 1) := by decide +kernel
theorem de_M_init_235 : decode am_M_init.2.1 235 = .ok (.bipush (15), 2) := by decide +kernel
theorem de_M_init_237 : decode am_M_init.2.1 237 = .ok (.iconst 2, 1) := by decide +kernel
theorem de_M_init_238 : decode am_M_init.2.1 238 = .ok (.iastore, 1) := by decide +kernel
theorem de_M_init_239 : decode am_M_init.2.1 239 = .ok (.dup, 1) := by decide +kernel
theorem de_M_init_240 : decode am_M_init.2.1 240 = .ok (.bipush (16), 2) := by decide +kernel
theorem de_M_init_242 : decode am_M_init.2.1 242 = .ok (.iconst 1, 1) := by decide +kernel
theorem de_M_init_243 : decode am_M_init.2.1 243 = .ok (.iastore, 1) := by decide +kernel
theorem de_M_init_244 : decode am_M_init.2.1 244 = .ok (.dup, 1) := by decide +kernel
theorem de_M_init_245 : decode am_M_init.2.1 245 = .ok (.bipush (17), 2) := by decide +kernel
theorem de_M_init_247 : decode am_M_init.2.1 247 = .ok (.iconst 0, 1) := by decide +kernel
theorem de_M_init_248 : decode am_M_init.2.1 248 = .ok (.iastore, 1) := by decide +kernel
theorem de_M_init_249 : decode am_M_init.2.1 249 = .ok (.putfield 72, 3) := by decide +kernel
theorem de_M_init_252 : decode am_M_init.2.1 252 = .ok (.aload_n 0, 1) := by decide +kernel
theorem de_M_init_253 : decode am_M_init.2.1 253 = .ok (.bipush (20), 2) := by decide +kernel
theorem de_M_init_255 : decode am_M_init.2.1 255 = .ok (.newarray .int, 2) := by decide +kernel
theorem de_M_init_257 : decode am_M_init.2.1 257 = .ok (.putfield 75, 3) := by decide +kernel
theorem de_M_init_260 : decode am_M_init.2.1 260 = .ok (.aload_n 0, 1) := by decide +kernel
theorem de_M_init_261 : decode am_M_init.2.1 261 = .ok (.iconst (-1), 1) := by decide +kernel
theorem de_M_init_262 : decode am_M_init.2.1 262 = .ok (.putfield 78, 3) := by decide +kernel
theorem de_M_init_265 : decode am_M_init.2.1 265 = .ok (.aload_n 0, 1) := by decide +kernel
theorem de_M_init_266 : decode am_M_init.2.1 266 = .ok (.sipush (250), 3) := by decide +kernel
theorem de_M_init_269 : decode am_M_init.2.1 269 = .ok (.newarray .int, 2) := by decide +kernel
theorem de_M_init_271 : decode am_M_init.2.1 271 = .ok (.putfield 81, 3) := by decide +kernel
theorem de_M_init_274 : decode am_M_init.2.1 274 = .ok (.return_, 1) := by decide +kernel
theorem de_M_no_0 : decode am_M_no.2.1 0 = .ok (.aload_n 0, 1) := by decide +kernel
theorem de_M_no_1 : decode am_M_no.2.1 1 = .ok (.getfield 13, 3) := by decide +kernel
theorem de_M_no_4 : decode am_M_no.2.1 4 = .ok (.iload_n 1, 1) := by decide +kernel
theorem de_M_no_5 : decode am_M_no.2.1 5 = .ok (.ineg, 1) := by decide +kernel
theorem de_M_no_6 : decode am_M_no.2.1 6 = .ok (.dup2, 1) := by decide +kernel
theorem de_M_no_7 : decode am_M_no.2.1 7 = .ok (.iaload, 1) := by decide +kernel
theorem de_M_no_8 : decode am_M_no.2.1 8 = .ok (.iconst 1, 1) := by decide +kernel
theorem de_M_no_9 : decode am_M_no.2.1 9 = .ok (.iadd, 1) := by decide +kernel
theorem de_M_no_10 : decode am_M_no.2.1 10 = .ok (.iastore, 1) := by decide +kernel
theorem de_M_no_11 : decode am_M_no.2.1 11 = .ok (.iload_n 1, 1) := by decide +kernel
theorem de_M_no_12 : decode am_M_no.2.1 12 = .ok (.ireturn, 1) := by decide +kernel
theorem de_M_noTen_0 : decode am_M_noTen.2.1 0 = .ok (.aload_n 0, 1) := by decide +kernel
theorem de_M_noTen_1 : decode am_M_noTen.2.1 1 = .ok (.getfield 13, 3) := by decide +kernel
theorem de_M_noTen_4 : decode am_M_noTen.2.1 4 = .ok (.iload_n 1, 1) := by decide +kernel
theorem de_M_noTen_5 : decode am_M_noTen.2.1 5 = .ok (.ineg, 1) := by decide +kernel
theorem de_M_noTen_6 : decode am_M_noTen.2.1 6 = .ok (.dup2, 1) := by decide +kernel
theorem de_M_noTen_7 : decode am_M_noTen.2.1 7 = .ok (.iaload, 1) := by decide +kernel
theorem de_M_noTen_8 : decode am_M_noTen.2.1 8 = .ok (.iconst 1, 1) := by decide +kernel
theorem de_M_noTen_9 : decode am_M_noTen.2.1 9 = .ok (.iadd, 1) := by decide +kernel
theorem de_M_noTen_10 : decode am_M_noTen.2.1 10 = .ok (.iastore, 1) := by decide +kernel
theorem de_M_noTen_11 : decode am_M_noTen.2.1 11 = .ok (.iload_n 1, 1) := by decide +kernel
theorem de_M_noTen_12 : decode am_M_noTen.2.1 12 = .ok (.bipush (10), 2) := by decide +kernel
theorem de_M_noTen_14 : decode am_M_noTen.2.1 14 = .ok (.isub, 1) := by decide +kernel
theorem de_M_noTen_15 : decode am_M_noTen.2.1 15 = .ok (.ireturn, 1) := by decide +kernel
theorem de_M_isShelf_0 : decode am_M_isShelf.2.1 0 = .ok (.iload_n 1, 1) := by decide +kernel
theorem de_M_isShelf_1 : decode am_M_isShelf.2.1 1 = .ok (.ifCond .lt (13), 3) := by decide +kernel
theorem de_M_isShelf_4 : decode am_M_isShelf.2.1 4 = .ok (.iload_n 1, 1) := by decide +kernel
theorem de_M_isShelf_5 : decode am_M_isShelf.2.1 5 = .ok (.bipush (8), 2) := by decide +kernel
theorem de_M_isShelf_7 : decode am_M_isShelf.2.1 7 = .ok (.if_icmp .ge (7), 3) := by decide +kernel
theorem de_M_isShelf_10 : decode am_M_isShelf.2.1 10 = .ok (.iconst 1, 1) := by decide +kernel
theorem de_M_isShelf_11 : decode am_M_isShelf.2.1 11 = .ok (.goto (4), 3) := by decide +kernel
theorem de_M_isShelf_14 : decode am_M_isShelf.2.1 14 = .ok (.iconst 0, 1) := by decide +kernel
theorem de_M_isShelf_15 : decode am_M_isShelf.2.1 15 = .ok (.ireturn, 1) := by decide +kernel
theorem de_M_isPoint_0 : decode am_M_isPoint.2.1 0 = .ok (.iload_n 1, 1) := by decide +kernel
theorem de_M_isPoint_1 : decode am_M_isPoint.2.1 1 = .ok (.ifCond .lt (13), 3) := by decide +kernel
theorem de_M_isPoint_4 : decode am_M_isPoint.2.1 4 = .ok (.iload_n 1, 1) := by decide +kernel
theorem de_M_isPoint_5 : decode am_M_isPoint.2.1 5 = .ok (.bipush (12), 2) := by decide +kernel
theorem de_M_isPoint_7 : decode am_M_isPoint.2.1 7 = .ok (.if_icmp .ge (7), 3) := by decide +kernel
theorem de_M_isPoint_10 : decode am_M_isPoint.2.1 10 = .ok (.iconst 1, 1) := by decide +kernel
theorem de_M_isPoint_11 : decode am_M_isPoint.2.1 11 = .ok (.goto (4), 3) := by decide +kernel
theorem de_M_isPoint_14 : decode am_M_isPoint.2.1 14 = .ok (.iconst 0, 1) := by decide +kernel
theorem de_M_isPoint_15 : decode am_M_isPoint.2.1 15 = .ok (.ireturn, 1) := by decide +kernel
theorem de_M_isCode_0 : decode am_M_isCode.2.1 0 = .ok (.iload_n 1, 1) := by decide +kernel
theorem de_M_isCode_1 : decode am_M_isCode.2.1 1 = .ok (.iconst 1, 1) := by decide +kernel
theorem de_M_isCode_2 : decode am_M_isCode.2.1 2 = .ok (.if_icmp .lt (14), 3) := by decide +kernel
theorem de_M_isCode_5 : decode am_M_isCode.2.1 5 = .ok (.iload_n 1, 1) := by decide +kernel
theorem de_M_isCode_6 : decode am_M_isCode.2.1 6 = .ok (.sipush (4096), 3) := by decide +kernel
theorem de_M_isCode_9 : decode am_M_isCode.2.1 9 = .ok (.if_icmp .ge (7), 3) := by decide +kernel
theorem de_M_isCode_12 : decode am_M_isCode.2.1 12 = .ok (.iconst 1, 1) := by decide +kernel
theorem de_M_isCode_13 : decode am_M_isCode.2.1 13 = .ok (.goto (4), 3) := by decide +kernel
theorem de_M_isCode_16 : decode am_M_isCode.2.1 16 = .ok (.iconst 0, 1) := by decide +kernel
theorem de_M_isCode_17 : decode am_M_isCode.2.1 17 = .ok (.ireturn, 1) := by decide +kernel
theorem de_M_isGame_0 : decode am_M_isGame.2.1 0 = .ok (.iload_n 1, 1) := by decide +kernel
theorem de_M_isGame_1 : decode am_M_isGame.2.1 1 = .ok (.ifCond .lt (15), 3) := by decide +kernel
theorem de_M_isGame_4 : decode am_M_isGame.2.1 4 = .ok (.iload_n 1, 1) := by decide +kernel
theorem de_M_isGame_5 : decode am_M_isGame.2.1 5 = .ok (.aload_n 0, 1) := by decide +kernel
theorem de_M_isGame_6 : decode am_M_isGame.2.1 6 = .ok (.getfield 84, 3) := by decide +kernel
theorem de_M_isGame_9 : decode am_M_isGame.2.1 9 = .ok (.if_icmp .ge (7), 3) := by decide +kernel
theorem de_M_isGame_12 : decode am_M_isGame.2.1 12 = .ok (.iconst 1, 1) := by decide +kernel
theorem de_M_isGame_13 : decode am_M_isGame.2.1 13 = .ok (.goto (4), 3) := by decide +kernel
theorem de_M_isGame_16 : decode am_M_isGame.2.1 16 = .ok (.iconst 0, 1) := by decide +kernel
theorem de_M_isGame_17 : decode am_M_isGame.2.1 17 = .ok (.ireturn, 1) := by decide +kernel
theorem de_M_isRule_0 : decode am_M_isRule.2.1 0 = .ok (.iload_n 1, 1) := by decide +kernel
theorem de_M_isRule_1 : decode am_M_isRule.2.1 1 = .ok (.ifCond .lt (15), 3) := by decide +kernel
theorem de_M_isRule_4 : decode am_M_isRule.2.1 4 = .ok (.iload_n 1, 1) := by decide +kernel
theorem de_M_isRule_5 : decode am_M_isRule.2.1 5 = .ok (.aload_n 0, 1) := by decide +kernel
theorem de_M_isRule_6 : decode am_M_isRule.2.1 6 = .ok (.getfield 87, 3) := by decide +kernel
theorem de_M_isRule_9 : decode am_M_isRule.2.1 9 = .ok (.if_icmp .ge (7), 3) := by decide +kernel
theorem de_M_isRule_12 : decode am_M_isRule.2.1 12 = .ok (.iconst 1, 1) := by decide +kernel
theorem de_M_isRule_13 : decode am_M_isRule.2.1 13 = .ok (.goto (4), 3) := by decide +kernel
theorem de_M_isRule_16 : decode am_M_isRule.2.1 16 = .ok (.iconst 0, 1) := by decide +kernel
theorem de_M_isRule_17 : decode am_M_isRule.2.1 17 = .ok (.ireturn, 1) := by decide +kernel
theorem de_M_many_0 : decode am_M_many.2.1 0 = .ok (.iconst 0, 1) := by decide +kernel
theorem de_M_many_1 : decode am_M_many.2.1 1 = .ok (.istore_n 2, 1) := by decide +kernel
theorem de_M_many_2 : decode am_M_many.2.1 2 = .ok (.iload_n 1, 1) := by decide +kernel
theorem de_M_many_3 : decode am_M_many.2.1 3 = .ok (.istore_n 3, 1) := by decide +kernel
theorem de_M_many_4 : decode am_M_many.2.1 4 = .ok (.iload_n 3, 1) := by decide +kernel
theorem de_M_many_5 : decode am_M_many.2.1 5 = .ok (.ifCond .eq (15), 3) := by decide +kernel
theorem de_M_many_8 : decode am_M_many.2.1 8 = .ok (.iinc 2 (1), 3) := by decide +kernel
theorem de_M_many_11 : decode am_M_many.2.1 11 = .ok (.iload_n 3, 1) := by decide +kernel
theorem de_M_many_12 : decode am_M_many.2.1 12 = .ok (.iload_n 3, 1) := by decide +kernel
theorem de_M_many_13 : decode am_M_many.2.1 13 = .ok (.iconst 1, 1) := by decide +kernel
theorem de_M_many_14 : decode am_M_many.2.1 14 = .ok (.isub, 1) := by decide +kernel
theorem de_M_many_15 : decode am_M_many.2.1 15 = .ok (.iand, 1) := by decide +kernel
theorem de_M_many_16 : decode am_M_many.2.1 16 = .ok (.istore_n 3, 1) := by decide +kernel
theorem de_M_many_17 : decode am_M_many.2.1 17 = .ok (.goto (-13), 3) := by decide +kernel
theorem de_M_many_20 : decode am_M_many.2.1 20 = .ok (.iload_n 2, 1) := by decide +kernel
theorem de_M_many_21 : decode am_M_many.2.1 21 = .ok (.ireturn, 1) := by decide +kernel
theorem de_M_row_0 : decode am_M_row.2.1 0 = .ok (.aload_n 0, 1) := by decide +kernel
theorem de_M_row_1 : decode am_M_row.2.1 1 = .ok (.iload_n 1, 1) := by decide +kernel
theorem de_M_row_2 : decode am_M_row.2.1 2 = .ok (.invokevirtual 90, 3) := by decide +kernel
theorem de_M_row_5 : decode am_M_row.2.1 5 = .ok (.ifCond .ne (9), 3) := by decide +kernel
theorem de_M_row_8 : decode am_M_row.2.1 8 = .ok (.aload_n 0, 1) := by decide +kernel
theorem de_M_row_9 : decode am_M_row.2.1 9 = .ok (.iconst (-1), 1) := by decide +kernel
theorem de_M_row_10 : decode am_M_row.2.1 10 = .ok (.invokevirtual 94, 3) := by decide +kernel
theorem de_M_row_13 : decode am_M_row.2.1 13 = .ok (.ireturn, 1) := by decide +kernel
theorem de_M_row_14 : decode am_M_row.2.1 14 = .ok (.iload_n 3, 1) := by decide +kernel
theorem de_M_row_15 : decode am_M_row.2.1 15 = .ok (.ifCond .ge (10), 3) := by decide +kernel
theorem de_M_row_18 : decode am_M_row.2.1 18 = .ok (.aload_n 0, 1) := by decide +kernel
theorem de_M_row_19 : decode am_M_row.2.1 19 = .ok (.bipush (-4), 2) := by decide +kernel
theorem de_M_row_21 : decode am_M_row.2.1 21 = .ok (.invokevirtual 94, 3) := by decide +kernel
theorem de_M_row_24 : decode am_M_row.2.1 24 = .ok (.ireturn, 1) := by decide +kernel
theorem de_M_row_25 : decode am_M_row.2.1 25 = .ok (.iload_n 2, 1) := by decide +kernel
theorem de_M_row_26 : decode am_M_row.2.1 26 = .ok (.ifCond .lt (8), 3) := by decide +kernel
theorem de_M_row_29 : decode am_M_row.2.1 29 = .ok (.iload_n 2, 1) := by decide +kernel
theorem de_M_row_30 : decode am_M_row.2.1 30 = .ok (.iconst 3, 1) := by decide +kernel
theorem de_M_row_31 : decode am_M_row.2.1 31 = .ok (.if_icmp .le (10), 3) := by decide +kernel
theorem de_M_row_34 : decode am_M_row.2.1 34 = .ok (.aload_n 0, 1) := by decide +kernel
theorem de_M_row_35 : decode am_M_row.2.1 35 = .ok (.bipush (-6), 2) := by decide +kernel
theorem de_M_row_37 : decode am_M_row.2.1 37 = .ok (.invokevirtual 94, 3) := by decide +kernel
theorem de_M_row_40 : decode am_M_row.2.1 40 = .ok (.ireturn, 1) := by decide +kernel
theorem de_M_row_41 : decode am_M_row.2.1 41 = .ok (.iload_n 3, 1) := by decide +kernel
theorem de_M_row_42 : decode am_M_row.2.1 42 = .ok (.bipush (60), 2) := by decide +kernel
theorem de_M_row_44 : decode am_M_row.2.1 44 = .ok (.if_icmp .le (10), 3) := by decide +kernel
theorem de_M_row_47 : decode am_M_row.2.1 47 = .ok (.aload_n 0, 1) := by decide +kernel
theorem de_M_row_48 : decode am_M_row.2.1 48 = .ok (.bipush (-7), 2) := by decide +kernel
theorem de_M_row_50 : decode am_M_row.2.1 50 = .ok (.invokevirtual 94, 3) := by decide +kernel
theorem de_M_row_53 : decode am_M_row.2.1 53 = .ok (.ireturn, 1) := by decide +kernel
theorem de_M_row_54 : decode am_M_row.2.1 54 = .ok (.aload_n 0, 1) := by decide +kernel
theorem de_M_row_55 : decode am_M_row.2.1 55 = .ok (.getfield 35, 3) := by decide +kernel
theorem de_M_row_58 : decode am_M_row.2.1 58 = .ok (.iload_n 1, 1) := by decide +kernel
theorem de_M_row_59 : decode am_M_row.2.1 59 = .ok (.iconst 1, 1) := by decide +kernel
theorem de_M_row_60 : decode am_M_row.2.1 60 = .ok (.iastore, 1) := by decide +kernel
theorem de_M_row_61 : decode am_M_row.2.1 61 = .ok (.aload_n 0, 1) := by decide +kernel
theorem de_M_row_62 : decode am_M_row.2.1 62 = .ok (.getfield 38, 3) := by decide +kernel
theorem de_M_row_65 : decode am_M_row.2.1 65 = .ok (.iload_n 1, 1) := by decide +kernel
theorem de_M_row_66 : decode am_M_row.2.1 66 = .ok (.iload_n 2, 1) := by decide +kernel
theorem de_M_row_67 : decode am_M_row.2.1 67 = .ok (.iastore, 1) := by decide +kernel
theorem de_M_row_68 : decode am_M_row.2.1 68 = .ok (.aload_n 0, 1) := by decide +kernel
theorem de_M_row_69 : decode am_M_row.2.1 69 = .ok (.getfield 41, 3) := by decide +kernel
theorem de_M_row_72 : decode am_M_row.2.1 72 = .ok (.iload_n 1, 1) := by decide +kernel
theorem de_M_row_73 : decode am_M_row.2.1 73 = .ok (.iload_n 3, 1) := by decide +kernel
theorem de_M_row_74 : decode am_M_row.2.1 74 = .ok (.iastore, 1) := by decide +kernel
theorem de_M_row_75 : decode am_M_row.2.1 75 = .ok (.iconst 0, 1) := by decide +kernel
theorem de_M_row_76 : decode am_M_row.2.1 76 = .ok (.istore 4, 2) := by decide +kernel
theorem de_M_row_78 : decode am_M_row.2.1 78 = .ok (.iload 4, 2) := by decide +kernel
theorem de_M_row_80 : decode am_M_row.2.1 80 = .ok (.bipush (60), 2) := by decide +kernel
theorem de_M_row_82 : decode am_M_row.2.1 82 = .ok (.if_icmp .ge (22), 3) := by decide +kernel
theorem de_M_row_85 : decode am_M_row.2.1 85 = .ok (.aload_n 0, 1) := by decide +kernel
theorem de_M_row_86 : decode am_M_row.2.1 86 = .ok (.getfield 47, 3) := by decide +kernel
theorem de_M_row_89 : decode am_M_row.2.1 89 = .ok (.bipush (60), 2) := by decide +kernel
theorem de_M_row_91 : decode am_M_row.2.1 91 = .ok (.iload_n 1, 1) := by decide +kernel
theorem de_M_row_92 : decode am_M_row.2.1 92 = .ok (.imul, 1) := by decide +kernel
theorem de_M_row_93 : decode am_M_row.2.1 93 = .ok (.iload 4, 2) := by decide +kernel
theorem de_M_row_95 : decode am_M_row.2.1 95 = .ok (.iadd, 1) := by decide +kernel
theorem de_M_row_96 : decode am_M_row.2.1 96 = .ok (.lconst 0, 1) := by decide +kernel
theorem de_M_row_97 : decode am_M_row.2.1 97 = .ok (.lastore, 1) := by decide +kernel
theorem de_M_row_98 : decode am_M_row.2.1 98 = .ok (.iinc 4 (1), 3) := by decide +kernel
theorem de_M_row_101 : decode am_M_row.2.1 101 = .ok (.goto (-23), 3) := by decide +kernel
theorem de_M_row_104 : decode am_M_row.2.1 104 = .ok (.iconst 1, 1) := by decide +kernel
theorem de_M_row_105 : decode am_M_row.2.1 105 = .ok (.ireturn, 1) := by decide +kernel
theorem de_M_set_0 : decode am_M_set.2.1 0 = .ok (.aload_n 0, 1) := by decide +kernel
theorem de_M_set_1 : decode am_M_set.2.1 1 = .ok (.iload_n 1, 1) := by decide +kernel
theorem de_M_set_2 : decode am_M_set.2.1 2 = .ok (.invokevirtual 90, 3) := by decide +kernel
theorem de_M_set_5 : decode am_M_set.2.1 5 = .ok (.ifCond .ne (9), 3) := by decide +kernel
theorem de_M_set_8 : decode am_M_set.2.1 8 = .ok (.aload_n 0, 1) := by decide +kernel
theorem de_M_set_9 : decode am_M_set.2.1 9 = .ok (.iconst (-1), 1) := by decide +kernel
theorem de_M_set_10 : decode am_M_set.2.1 10 = .ok (.invokevirtual 94, 3) := by decide +kernel
theorem de_M_set_13 : decode am_M_set.2.1 13 = .ok (.ireturn, 1) := by decide +kernel
theorem de_M_set_14 : decode am_M_set.2.1 14 = .ok (.aload_n 0, 1) := by decide +kernel
theorem de_M_set_15 : decode am_M_set.2.1 15 = .ok (.getfield 35, 3) := by decide +kernel
theorem de_M_set_18 : decode am_M_set.2.1 18 = .ok (.iload_n 1, 1) := by decide +kernel
theorem de_M_set_19 : decode am_M_set.2.1 19 = .ok (.iaload, 1) := by decide +kernel
theorem de_M_set_20 : decode am_M_set.2.1 20 = .ok (.iconst 2, 1) := by decide +kernel
theorem de_M_set_21 : decode am_M_set.2.1 21 = .ok (.if_icmp .ne (10), 3) := by decide +kernel
theorem de_M_set_24 : decode am_M_set.2.1 24 = .ok (.aload_n 0, 1) := by decide +kernel
theorem de_M_set_25 : decode am_M_set.2.1 25 = .ok (.bipush (-2), 2) := by decide +kernel
theorem de_M_set_27 : decode am_M_set.2.1 27 = .ok (.invokevirtual 94, 3) := by decide +kernel
theorem de_M_set_30 : decode am_M_set.2.1 30 = .ok (.ireturn, 1) := by decide +kernel
theorem de_M_set_31 : decode am_M_set.2.1 31 = .ok (.aload_n 0, 1) := by decide +kernel
theorem de_M_set_32 : decode am_M_set.2.1 32 = .ok (.getfield 35, 3) := by decide +kernel
theorem de_M_set_35 : decode am_M_set.2.1 35 = .ok (.iload_n 1, 1) := by decide +kernel
theorem de_M_set_36 : decode am_M_set.2.1 36 = .ok (.iaload, 1) := by decide +kernel
theorem de_M_set_37 : decode am_M_set.2.1 37 = .ok (.ifCond .ne (10), 3) := by decide +kernel
theorem de_M_set_40 : decode am_M_set.2.1 40 = .ok (.aload_n 0, 1) := by decide +kernel
theorem de_M_set_41 : decode am_M_set.2.1 41 = .ok (.bipush (-3), 2) := by decide +kernel
theorem de_M_set_43 : decode am_M_set.2.1 43 = .ok (.invokevirtual 94, 3) := by decide +kernel
theorem de_M_set_46 : decode am_M_set.2.1 46 = .ok (.ireturn, 1) := by decide +kernel
theorem de_M_set_47 : decode am_M_set.2.1 47 = .ok (.iload_n 2, 1) := by decide +kernel
theorem de_M_set_48 : decode am_M_set.2.1 48 = .ok (.ifCond .lt (13), 3) := by decide +kernel
theorem de_M_set_51 : decode am_M_set.2.1 51 = .ok (.iload_n 2, 1) := by decide +kernel
theorem de_M_set_52 : decode am_M_set.2.1 52 = .ok (.aload_n 0, 1) := by decide +kernel
theorem de_M_set_53 : decode am_M_set.2.1 53 = .ok (.getfield 41, 3) := by decide +kernel
theorem de_M_set_56 : decode am_M_set.2.1 56 = .ok (.iload_n 1, 1) := by decide +kernel
theorem de_M_set_57 : decode am_M_set.2.1 57 = .ok (.iaload, 1) := by decide +kernel
theorem de_M_set_58 : decode am_M_set.2.1 58 = .ok (.if_icmp .lt (10), 3) := by decide +kernel
theorem de_M_set_61 : decode am_M_set.2.1 61 = .ok (.aload_n 0, 1) := by decide +kernel
theorem de_M_set_62 : decode am_M_set.2.1 62 = .ok (.bipush (-5), 2) := by decide +kernel
theorem de_M_set_64 : decode am_M_set.2.1 64 = .ok (.invokevirtual 94, 3) := by decide +kernel
theorem de_M_set_67 : decode am_M_set.2.1 67 = .ok (.ireturn, 1) := by decide +kernel
theorem de_M_set_68 : decode am_M_set.2.1 68 = .ok (.aload_n 0, 1) := by decide +kernel
theorem de_M_set_69 : decode am_M_set.2.1 69 = .ok (.getfield 47, 3) := by decide +kernel
theorem de_M_set_72 : decode am_M_set.2.1 72 = .ok (.bipush (60), 2) := by decide +kernel
theorem de_M_set_74 : decode am_M_set.2.1 74 = .ok (.iload_n 1, 1) := by decide +kernel
theorem de_M_set_75 : decode am_M_set.2.1 75 = .ok (.imul, 1) := by decide +kernel
theorem de_M_set_76 : decode am_M_set.2.1 76 = .ok (.iload_n 2, 1) := by decide +kernel
theorem de_M_set_77 : decode am_M_set.2.1 77 = .ok (.iadd, 1) := by decide +kernel
theorem de_M_set_78 : decode am_M_set.2.1 78 = .ok (.aload_n 0, 1) := by decide +kernel
theorem de_M_set_79 : decode am_M_set.2.1 79 = .ok (.getfield 38, 3) := by decide +kernel
theorem de_M_set_82 : decode am_M_set.2.1 82 = .ok (.iload_n 1, 1) := by decide +kernel
theorem de_M_set_83 : decode am_M_set.2.1 83 = .ok (.iaload, 1) := by decide +kernel
theorem de_M_set_84 : decode am_M_set.2.1 84 = .ok (.ifCond .ne (10), 3) := by decide +kernel
theorem de_M_set_87 : decode am_M_set.2.1 87 = .ok (.lload_n 3, 1) := by decide +kernel
theorem de_M_set_88 : decode am_M_set.2.1 88 = .ok (.l2i, 1) := by decide +kernel
theorem de_M_set_89 : decode am_M_set.2.1 89 = .ok (.i2b, 1) := by decide +kernel
theorem de_M_set_90 : decode am_M_set.2.1 90 = .ok (.i2l, 1) := by decide +kernel
theorem de_M_set_91 : decode am_M_set.2.1 91 = .ok (.goto (37), 3) := by decide +kernel
theorem de_M_set_94 : decode am_M_set.2.1 94 = .ok (.aload_n 0, 1) := by decide +kernel
theorem de_M_set_95 : decode am_M_set.2.1 95 = .ok (.getfield 38, 3) := by decide +kernel
theorem de_M_set_98 : decode am_M_set.2.1 98 = .ok (.iload_n 1, 1) := by decide +kernel
theorem de_M_set_99 : decode am_M_set.2.1 99 = .ok (.iaload, 1) := by decide +kernel
theorem de_M_set_100 : decode am_M_set.2.1 100 = .ok (.iconst 1, 1) := by decide +kernel
theorem de_M_set_101 : decode am_M_set.2.1 101 = .ok (.if_icmp .ne (10), 3) := by decide +kernel
theorem de_M_set_104 : decode am_M_set.2.1 104 = .ok (.lload_n 3, 1) := by decide +kernel
theorem de_M_set_105 : decode am_M_set.2.1 105 = .ok (.l2i, 1) := by decide +kernel
theorem de_M_set_106 : decode am_M_set.2.1 106 = .ok (.i2s, 1) := by decide +kernel
theorem de_M_set_107 : decode am_M_set.2.1 107 = .ok (.i2l, 1) := by decide +kernel
theorem de_M_set_108 : decode am_M_set.2.1 108 = .ok (.goto (20), 3) := by decide +kernel
theorem de_M_set_111 : decode am_M_set.2.1 111 = .ok (.aload_n 0, 1) := by decide +kernel
theorem de_M_set_112 : decode am_M_set.2.1 112 = .ok (.getfield 38, 3) := by decide +kernel
theorem de_M_set_115 : decode am_M_set.2.1 115 = .ok (.iload_n 1, 1) := by decide +kernel
theorem de_M_set_116 : decode am_M_set.2.1 116 = .ok (.iaload, 1) := by decide +kernel
theorem de_M_set_117 : decode am_M_set.2.1 117 = .ok (.iconst 2, 1) := by decide +kernel
theorem de_M_set_118 : decode am_M_set.2.1 118 = .ok (.if_icmp .ne (9), 3) := by decide +kernel
theorem de_M_set_121 : decode am_M_set.2.1 121 = .ok (.lload_n 3, 1) := by decide +kernel
theorem de_M_set_122 : decode am_M_set.2.1 122 = .ok (.l2i, 1) := by decide +kernel
theorem de_M_set_123 : decode am_M_set.2.1 123 = .ok (.i2l, 1) := by decide +kernel
theorem de_M_set_124 : decode am_M_set.2.1 124 = .ok (.goto (4), 3) := by decide +kernel
theorem de_M_set_127 : decode am_M_set.2.1 127 = .ok (.lload_n 3, 1) := by decide +kernel
theorem de_M_set_128 : decode am_M_set.2.1 128 = .ok (.lastore, 1) := by decide +kernel
theorem de_M_set_129 : decode am_M_set.2.1 129 = .ok (.iconst 1, 1) := by decide +kernel
theorem de_M_set_130 : decode am_M_set.2.1 130 = .ok (.ireturn, 1) := by decide +kernel
theorem de_M_copy_0 : decode am_M_copy.2.1 0 = .ok (.aload_n 0, 1) := by decide +kernel
theorem de_M_copy_1 : decode am_M_copy.2.1 1 = .ok (.iload_n 1, 1) := by decide +kernel
theorem de_M_copy_2 : decode am_M_copy.2.1 2 = .ok (.invokevirtual 90, 3) := by decide +kernel
theorem de_M_copy_5 : decode am_M_copy.2.1 5 = .ok (.ifCond .eq (11), 3) := by decide +kernel
theorem de_M_copy_8 : decode am_M_copy.2.1 8 = .ok (.aload_n 0, 1) := by decide +kernel
theorem de_M_copy_9 : decode am_M_copy.2.1 9 = .ok (.iload_n 2, 1) := by decide +kernel
theorem de_M_copy_10 : decode am_M_copy.2.1 10 = .ok (.invokevirtual 90, 3) := by decide +kernel
theorem de_M_copy_13 : decode am_M_copy.2.1 13 = .ok (.ifCond .ne (9), 3) := by decide +kernel
theorem de_M_copy_16 : decode am_M_copy.2.1 16 = .ok (.aload_n 0, 1) := by decide +kernel
theorem de_M_copy_17 : decode am_M_copy.2.1 17 = .ok (.iconst (-1), 1) := by decide +kernel
theorem de_M_copy_18 : decode am_M_copy.2.1 18 = .ok (.invokevirtual 94, 3) := by decide +kernel
theorem de_M_copy_21 : decode am_M_copy.2.1 21 = .ok (.ireturn, 1) := by decide +kernel
theorem de_M_copy_22 : decode am_M_copy.2.1 22 = .ok (.aload_n 0, 1) := by decide +kernel
theorem de_M_copy_23 : decode am_M_copy.2.1 23 = .ok (.getfield 35, 3) := by decide +kernel
theorem de_M_copy_26 : decode am_M_copy.2.1 26 = .ok (.iload_n 1, 1) := by decide +kernel
theorem de_M_copy_27 : decode am_M_copy.2.1 27 = .ok (.iaload, 1) := by decide +kernel
theorem de_M_copy_28 : decode am_M_copy.2.1 28 = .ok (.iconst 2, 1) := by decide +kernel
theorem de_M_copy_29 : decode am_M_copy.2.1 29 = .ok (.if_icmp .eq (48), 3) := by decide +kernel
theorem de_M_copy_32 : decode am_M_copy.2.1 32 = .ok (.aload_n 0, 1) := by decide +kernel
theorem de_M_copy_33 : decode am_M_copy.2.1 33 = .ok (.getfield 35, 3) := by decide +kernel
theorem de_M_copy_36 : decode am_M_copy.2.1 36 = .ok (.iload_n 2, 1) := by decide +kernel
theorem de_M_copy_37 : decode am_M_copy.2.1 37 = .ok (.iaload, 1) := by decide +kernel
theorem de_M_copy_38 : decode am_M_copy.2.1 38 = .ok (.iconst 2, 1) := by decide +kernel
theorem de_M_copy_39 : decode am_M_copy.2.1 39 = .ok (.if_icmp .eq (38), 3) := by decide +kernel
theorem de_M_copy_42 : decode am_M_copy.2.1 42 = .ok (.aload_n 0, 1) := by decide +kernel
theorem de_M_copy_43 : decode am_M_copy.2.1 43 = .ok (.getfield 35, 3) := by decide +kernel
theorem de_M_copy_46 : decode am_M_copy.2.1 46 = .ok (.iload_n 1, 1) := by decide +kernel
theorem de_M_copy_47 : decode am_M_copy.2.1 47 = .ok (.iaload, 1) := by decide +kernel
theorem de_M_copy_48 : decode am_M_copy.2.1 48 = .ok (.iconst 1, 1) := by decide +kernel
theorem de_M_copy_49 : decode am_M_copy.2.1 49 = .ok (.if_icmp .ne (35), 3) := by decide +kernel
theorem de_M_copy_52 : decode am_M_copy.2.1 52 = .ok (.aload_n 0, 1) := by decide +kernel
theorem de_M_copy_53 : decode am_M_copy.2.1 53 = .ok (.getfield 35, 3) := by decide +kernel
theorem de_M_copy_56 : decode am_M_copy.2.1 56 = .ok (.iload_n 2, 1) := by decide +kernel
theorem de_M_copy_57 : decode am_M_copy.2.1 57 = .ok (.iaload, 1) := by decide +kernel
theorem de_M_copy_58 : decode am_M_copy.2.1 58 = .ok (.iconst 1, 1) := by decide +kernel
theorem de_M_copy_59 : decode am_M_copy.2.1 59 = .ok (.if_icmp .ne (25), 3) := by decide +kernel
theorem de_M_copy_62 : decode am_M_copy.2.1 62 = .ok (.aload_n 0, 1) := by decide +kernel
theorem de_M_copy_63 : decode am_M_copy.2.1 63 = .ok (.getfield 38, 3) := by decide +kernel
theorem de_M_copy_66 : decode am_M_copy.2.1 66 = .ok (.iload_n 1, 1) := by decide +kernel
theorem de_M_copy_67 : decode am_M_copy.2.1 67 = .ok (.iaload, 1) := by decide +kernel
theorem de_M_copy_68 : decode am_M_copy.2.1 68 = .ok (.aload_n 0, 1) := by decide +kernel
theorem de_M_copy_69 : decode am_M_copy.2.1 69 = .ok (.getfield 38, 3) := by decide +kernel
theorem de_M_copy_72 : decode am_M_copy.2.1 72 = .ok (.iload_n 2, 1) := by decide +kernel
theorem de_M_copy_73 : decode am_M_copy.2.1 73 = .ok (.iaload, 1) := by decide +kernel
theorem de_M_copy_74 : decode am_M_copy.2.1 74 = .ok (.if_icmp .eq (10), 3) := by decide +kernel
theorem de_M_copy_77 : decode am_M_copy.2.1 77 = .ok (.aload_n 0, 1) := by decide +kernel
theorem de_M_copy_78 : decode am_M_copy.2.1 78 = .ok (.bipush (-2), 2) := by decide +kernel
theorem de_M_copy_80 : decode am_M_copy.2.1 80 = .ok (.invokevirtual 94, 3) := by decide +kernel
theorem de_M_copy_83 : decode am_M_copy.2.1 83 = .ok (.ireturn, 1) := by decide +kernel
theorem de_M_copy_84 : decode am_M_copy.2.1 84 = .ok (.aload_n 0, 1) := by decide +kernel
theorem de_M_copy_85 : decode am_M_copy.2.1 85 = .ok (.getfield 35, 3) := by decide +kernel
theorem de_M_copy_88 : decode am_M_copy.2.1 88 = .ok (.iload_n 1, 1) := by decide +kernel
theorem de_M_copy_89 : decode am_M_copy.2.1 89 = .ok (.iaload, 1) := by decide +kernel
theorem de_M_copy_90 : decode am_M_copy.2.1 90 = .ok (.ifCond .eq (12), 3) := by decide +kernel
theorem de_M_copy_93 : decode am_M_copy.2.1 93 = .ok (.aload_n 0, 1) := by decide +kernel
theorem de_M_copy_94 : decode am_M_copy.2.1 94 = .ok (.getfield 35, 3) := by decide +kernel
theorem de_M_copy_97 : decode am_M_copy.2.1 97 = .ok (.iload_n 2, 1) := by decide +kernel
theorem de_M_copy_98 : decode am_M_copy.2.1 98 = .ok (.iaload, 1) := by decide +kernel
theorem de_M_copy_99 : decode am_M_copy.2.1 99 = .ok (.ifCond .ne (10), 3) := by decide +kernel
theorem de_M_copy_102 : decode am_M_copy.2.1 102 = .ok (.aload_n 0, 1) := by decide +kernel
theorem de_M_copy_103 : decode am_M_copy.2.1 103 = .ok (.bipush (-3), 2) := by decide +kernel
theorem de_M_copy_105 : decode am_M_copy.2.1 105 = .ok (.invokevirtual 94, 3) := by decide +kernel
theorem de_M_copy_108 : decode am_M_copy.2.1 108 = .ok (.ireturn, 1) := by decide +kernel
theorem de_M_copy_109 : decode am_M_copy.2.1 109 = .ok (.iload 5, 2) := by decide +kernel
theorem de_M_copy_111 : decode am_M_copy.2.1 111 = .ok (.ifCond .ge (10), 3) := by decide +kernel
theorem de_M_copy_114 : decode am_M_copy.2.1 114 = .ok (.aload_n 0, 1) := by decide +kernel
theorem de_M_copy_115 : decode am_M_copy.2.1 115 = .ok (.bipush (-4), 2) := by decide +kernel
theorem de_M_copy_117 : decode am_M_copy.2.1 117 = .ok (.invokevirtual 94, 3) := by decide +kernel
theorem de_M_copy_120 : decode am_M_copy.2.1 120 = .ok (.ireturn, 1) := by decide +kernel
theorem de_M_copy_121 : decode am_M_copy.2.1 121 = .ok (.iload_n 3, 1) := by decide +kernel
theorem de_M_copy_122 : decode am_M_copy.2.1 122 = .ok (.ifCond .lt (35), 3) := by decide +kernel
theorem de_M_copy_125 : decode am_M_copy.2.1 125 = .ok (.iload 4, 2) := by decide +kernel
theorem de_M_copy_127 : decode am_M_copy.2.1 127 = .ok (.ifCond .lt (30), 3) := by decide +kernel
theorem de_M_copy_130 : decode am_M_copy.2.1 130 = .ok (.iload_n 3, 1) := by decide +kernel
theorem de_M_copy_131 : decode am_M_copy.2.1 131 = .ok (.aload_n 0, 1) := by decide +kernel
theorem de_M_copy_132 : decode am_M_copy.2.1 132 = .ok (.getfield 41, 3) := by decide +kernel
theorem de_M_copy_135 : decode am_M_copy.2.1 135 = .ok (.iload_n 1, 1) := by decide +kernel
theorem de_M_copy_136 : decode am_M_copy.2.1 136 = .ok (.iaload, 1) := by decide +kernel
theorem de_M_copy_137 : decode am_M_copy.2.1 137 = .ok (.iload 5, 2) := by decide +kernel
theorem de_M_copy_139 : decode am_M_copy.2.1 139 = .ok (.isub, 1) := by decide +kernel
theorem de_M_copy_140 : decode am_M_copy.2.1 140 = .ok (.if_icmp .gt (17), 3) := by decide +kernel
theorem de_M_copy_143 : decode am_M_copy.2.1 143 = .ok (.iload 4, 2) := by decide +kernel
theorem de_M_copy_145 : decode am_M_copy.2.1 145 = .ok (.aload_n 0, 1) := by decide +kernel
theorem de_M_copy_146 : decode am_M_copy.2.1 146 = .ok (.getfield 41, 3) := by decide +kernel
theorem de_M_copy_149 : decode am_M_copy.2.1 149 = .ok (.iload_n 2, 1) := by decide +kernel
theorem de_M_copy_150 : decode am_M_copy.2.1 150 = .ok (.iaload, 1) := by decide +kernel
theorem de_M_copy_151 : decode am_M_copy.2.1 151 = .ok (.iload 5, 2) := by decide +kernel
theorem de_M_copy_153 : decode am_M_copy.2.1 153 = .ok (.isub, 1) := by decide +kernel
theorem de_M_copy_154 : decode am_M_copy.2.1 154 = .ok (.if_icmp .le (10), 3) := by decide +kernel
theorem de_M_copy_157 : decode am_M_copy.2.1 157 = .ok (.aload_n 0, 1) := by decide +kernel
theorem de_M_copy_158 : decode am_M_copy.2.1 158 = .ok (.bipush (-5), 2) := by decide +kernel
theorem de_M_copy_160 : decode am_M_copy.2.1 160 = .ok (.invokevirtual 94, 3) := by decide +kernel
theorem de_M_copy_163 : decode am_M_copy.2.1 163 = .ok (.ireturn, 1) := by decide +kernel
theorem de_M_copy_164 : decode am_M_copy.2.1 164 = .ok (.iconst 0, 1) := by decide +kernel
theorem de_M_copy_165 : decode am_M_copy.2.1 165 = .ok (.istore 6, 2) := by decide +kernel
theorem de_M_copy_167 : decode am_M_copy.2.1 167 = .ok (.iload 6, 2) := by decide +kernel
theorem de_M_copy_169 : decode am_M_copy.2.1 169 = .ok (.iload 5, 2) := by decide +kernel
theorem de_M_copy_171 : decode am_M_copy.2.1 171 = .ok (.if_icmp .ge (30), 3) := by decide +kernel
theorem de_M_copy_174 : decode am_M_copy.2.1 174 = .ok (.aload_n 0, 1) := by decide +kernel
theorem de_M_copy_175 : decode am_M_copy.2.1 175 = .ok (.getfield 51, 3) := by decide +kernel
theorem de_M_copy_178 : decode am_M_copy.2.1 178 = .ok (.iload 6, 2) := by decide +kernel
theorem de_M_copy_180 : decode am_M_copy.2.1 180 = .ok (.aload_n 0, 1) := by decide +kernel
theorem de_M_copy_181 : decode am_M_copy.2.1 181 = .ok (.getfield 47, 3) := by decide +kernel
theorem de_M_copy_184 : decode am_M_copy.2.1 184 = .ok (.bipush (60), 2) := by decide +kernel
theorem de_M_copy_186 : decode am_M_copy.2.1 186 = .ok (.iload_n 1, 1) := by decide +kernel
theorem de_M_copy_187 : decode am_M_copy.2.1 187 = .ok (.imul, 1) := by decide +kernel
theorem de_M_copy_188 : decode am_M_copy.2.1 188 = .ok (.iload_n 3, 1) := by decide +kernel
theorem de_M_copy_189 : decode am_M_copy.2.1 189 = .ok (.iadd, 1) := by decide +kernel
theorem de_M_copy_190 : decode am_M_copy.2.1 190 = .ok (.iload 6, 2) := by decide +kernel
theorem de_M_copy_192 : decode am_M_copy.2.1 192 = .ok (.iadd, 1) := by decide +kernel
theorem de_M_copy_193 : decode am_M_copy.2.1 193 = .ok (.laload, 1) := by decide +kernel
theorem de_M_copy_194 : decode am_M_copy.2.1 194 = .ok (.lastore, 1) := by decide +kernel
theorem de_M_copy_195 : decode am_M_copy.2.1 195 = .ok (.iinc 6 (1), 3) := by decide +kernel
theorem de_M_copy_198 : decode am_M_copy.2.1 198 = .ok (.goto (-31), 3) := by decide +kernel
theorem de_M_copy_201 : decode am_M_copy.2.1 201 = .ok (.iconst 0, 1) := by decide +kernel
theorem de_M_copy_202 : decode am_M_copy.2.1 202 = .ok (.istore 6, 2) := by decide +kernel
theorem de_M_copy_204 : decode am_M_copy.2.1 204 = .ok (.iload 6, 2) := by decide +kernel
theorem de_M_copy_206 : decode am_M_copy.2.1 206 = .ok (.iload 5, 2) := by decide +kernel
theorem de_M_copy_208 : decode am_M_copy.2.1 208 = .ok (.if_icmp .ge (31), 3) := by decide +kernel
theorem de_M_copy_211 : decode am_M_copy.2.1 211 = .ok (.aload_n 0, 1) := by decide +kernel
theorem de_M_copy_212 : decode am_M_copy.2.1 212 = .ok (.getfield 47, 3) := by decide +kernel
theorem de_M_copy_215 : decode am_M_copy.2.1 215 = .ok (.bipush (60), 2) := by decide +kernel
theorem de_M_copy_217 : decode am_M_copy.2.1 217 = .ok (.iload_n 2, 1) := by decide +kernel
theorem de_M_copy_218 : decode am_M_copy.2.1 218 = .ok (.imul, 1) := by decide +kernel
theorem de_M_copy_219 : decode am_M_copy.2.1 219 = .ok (.iload 4, 2) := by decide +kernel
theorem de_M_copy_221 : decode am_M_copy.2.1 221 = .ok (.iadd, 1) := by decide +kernel
theorem de_M_copy_222 : decode am_M_copy.2.1 222 = .ok (.iload 6, 2) := by decide +kernel
theorem de_M_copy_224 : decode am_M_copy.2.1 224 = .ok (.iadd, 1) := by decide +kernel
theorem de_M_copy_225 : decode am_M_copy.2.1 225 = .ok (.aload_n 0, 1) := by decide +kernel
theorem de_M_copy_226 : decode am_M_copy.2.1 226 = .ok (.getfield 51, 3) := by decide +kernel
theorem de_M_copy_229 : decode am_M_copy.2.1 229 = .ok (.iload 6, 2) := by decide +kernel
theorem de_M_copy_231 : decode am_M_copy.2.1 231 = .ok (.laload, 1) := by decide +kernel
theorem de_M_copy_232 : decode am_M_copy.2.1 232 = .ok (.lastore, 1) := by decide +kernel
theorem de_M_copy_233 : decode am_M_copy.2.1 233 = .ok (.iinc 6 (1), 3) := by decide +kernel
theorem de_M_copy_236 : decode am_M_copy.2.1 236 = .ok (.goto (-32), 3) := by decide +kernel
theorem de_M_copy_239 : decode am_M_copy.2.1 239 = .ok (.iconst 1, 1) := by decide +kernel
theorem de_M_copy_240 : decode am_M_copy.2.1 240 = .ok (.ireturn, 1) := by decide +kernel
theorem de_M_element_0 : decode am_M_element.2.1 0 = .ok (.aload_n 0, 1) := by decide +kernel
theorem de_M_element_1 : decode am_M_element.2.1 1 = .ok (.iload_n 1, 1) := by decide +kernel
theorem de_M_element_2 : decode am_M_element.2.1 2 = .ok (.invokevirtual 90, 3) := by decide +kernel
theorem de_M_element_5 : decode am_M_element.2.1 5 = .ok (.ifCond .eq (41), 3) := by decide +kernel
theorem de_M_element_8 : decode am_M_element.2.1 8 = .ok (.aload_n 0, 1) := by decide +kernel
theorem de_M_element_9 : decode am_M_element.2.1 9 = .ok (.getfield 35, 3) := by decide +kernel
theorem de_M_element_12 : decode am_M_element.2.1 12 = .ok (.iload_n 1, 1) := by decide +kernel
theorem de_M_element_13 : decode am_M_element.2.1 13 = .ok (.iaload, 1) := by decide +kernel
theorem de_M_element_14 : decode am_M_element.2.1 14 = .ok (.iconst 1, 1) := by decide +kernel
theorem de_M_element_15 : decode am_M_element.2.1 15 = .ok (.if_icmp .ne (31), 3) := by decide +kernel
theorem de_M_element_18 : decode am_M_element.2.1 18 = .ok (.iload_n 2, 1) := by decide +kernel
theorem de_M_element_19 : decode am_M_element.2.1 19 = .ok (.ifCond .lt (27), 3) := by decide +kernel
theorem de_M_element_22 : decode am_M_element.2.1 22 = .ok (.iload_n 2, 1) := by decide +kernel
theorem de_M_element_23 : decode am_M_element.2.1 23 = .ok (.aload_n 0, 1) := by decide +kernel
theorem de_M_element_24 : decode am_M_element.2.1 24 = .ok (.getfield 41, 3) := by decide +kernel
theorem de_M_element_27 : decode am_M_element.2.1 27 = .ok (.iload_n 1, 1) := by decide +kernel
theorem de_M_element_28 : decode am_M_element.2.1 28 = .ok (.iaload, 1) := by decide +kernel
theorem de_M_element_29 : decode am_M_element.2.1 29 = .ok (.if_icmp .ge (17), 3) := by decide +kernel
theorem de_M_element_32 : decode am_M_element.2.1 32 = .ok (.aload_n 0, 1) := by decide +kernel
theorem de_M_element_33 : decode am_M_element.2.1 33 = .ok (.getfield 47, 3) := by decide +kernel
theorem de_M_element_36 : decode am_M_element.2.1 36 = .ok (.bipush (60), 2) := by decide +kernel
theorem de_M_element_38 : decode am_M_element.2.1 38 = .ok (.iload_n 1, 1) := by decide +kernel
theorem de_M_element_39 : decode am_M_element.2.1 39 = .ok (.imul, 1) := by decide +kernel
theorem de_M_element_40 : decode am_M_element.2.1 40 = .ok (.iload_n 2, 1) := by decide +kernel
theorem de_M_element_41 : decode am_M_element.2.1 41 = .ok (.iadd, 1) := by decide +kernel
theorem de_M_element_42 : decode am_M_element.2.1 42 = .ok (.laload, 1) := by decide +kernel
theorem de_M_element_43 : decode am_M_element.2.1 43 = .ok (.goto (4), 3) := by decide +kernel
theorem de_M_element_46 : decode am_M_element.2.1 46 = .ok (.lconst 0, 1) := by decide +kernel
theorem de_M_element_47 : decode am_M_element.2.1 47 = .ok (.lreturn, 1) := by decide +kernel
theorem de_M_show_0 : decode am_M_show.2.1 0 = .ok (.aload_n 0, 1) := by decide +kernel
theorem de_M_show_1 : decode am_M_show.2.1 1 = .ok (.iload_n 1, 1) := by decide +kernel
theorem de_M_show_2 : decode am_M_show.2.1 2 = .ok (.invokevirtual 90, 3) := by decide +kernel
theorem de_M_show_5 : decode am_M_show.2.1 5 = .ok (.ifCond .eq (16), 3) := by decide +kernel
theorem de_M_show_8 : decode am_M_show.2.1 8 = .ok (.iload_n 2, 1) := by decide +kernel
theorem de_M_show_9 : decode am_M_show.2.1 9 = .ok (.iconst (-1), 1) := by decide +kernel
theorem de_M_show_10 : decode am_M_show.2.1 10 = .ok (.if_icmp .eq (17), 3) := by decide +kernel
theorem de_M_show_13 : decode am_M_show.2.1 13 = .ok (.aload_n 0, 1) := by decide +kernel
theorem de_M_show_14 : decode am_M_show.2.1 14 = .ok (.iload_n 2, 1) := by decide +kernel
theorem de_M_show_15 : decode am_M_show.2.1 15 = .ok (.invokevirtual 98, 3) := by decide +kernel
theorem de_M_show_18 : decode am_M_show.2.1 18 = .ok (.ifCond .ne (9), 3) := by decide +kernel
theorem de_M_show_21 : decode am_M_show.2.1 21 = .ok (.aload_n 0, 1) := by decide +kernel
theorem de_M_show_22 : decode am_M_show.2.1 22 = .ok (.iconst (-1), 1) := by decide +kernel
theorem de_M_show_23 : decode am_M_show.2.1 23 = .ok (.invokevirtual 94, 3) := by decide +kernel
theorem de_M_show_26 : decode am_M_show.2.1 26 = .ok (.ireturn, 1) := by decide +kernel
theorem de_M_show_27 : decode am_M_show.2.1 27 = .ok (.aload_n 0, 1) := by decide +kernel
theorem de_M_show_28 : decode am_M_show.2.1 28 = .ok (.getfield 35, 3) := by decide +kernel
theorem de_M_show_31 : decode am_M_show.2.1 31 = .ok (.iload_n 1, 1) := by decide +kernel
theorem de_M_show_32 : decode am_M_show.2.1 32 = .ok (.iload_n 2, 1) := by decide +kernel
theorem de_M_show_33 : decode am_M_show.2.1 33 = .ok (.iconst (-1), 1) := by decide +kernel
theorem de_M_show_34 : decode am_M_show.2.1 34 = .ok (.if_icmp .ne (7), 3) := by decide +kernel
theorem de_M_show_37 : decode am_M_show.2.1 37 = .ok (.iconst 0, 1) := by decide +kernel
theorem de_M_show_38 : decode am_M_show.2.1 38 = .ok (.goto (4), 3) := by decide +kernel
theorem de_M_show_41 : decode am_M_show.2.1 41 = .ok (.iconst 2, 1) := by decide +kernel
theorem de_M_show_42 : decode am_M_show.2.1 42 = .ok (.iastore, 1) := by decide +kernel
theorem de_M_show_43 : decode am_M_show.2.1 43 = .ok (.aload_n 0, 1) := by decide +kernel
theorem de_M_show_44 : decode am_M_show.2.1 44 = .ok (.getfield 44, 3) := by decide +kernel
theorem de_M_show_47 : decode am_M_show.2.1 47 = .ok (.iload_n 1, 1) := by decide +kernel
theorem de_M_show_48 : decode am_M_show.2.1 48 = .ok (.iload_n 2, 1) := by decide +kernel
theorem de_M_show_49 : decode am_M_show.2.1 49 = .ok (.iastore, 1) := by decide +kernel
theorem de_M_show_50 : decode am_M_show.2.1 50 = .ok (.iload_n 2, 1) := by decide +kernel
theorem de_M_show_51 : decode am_M_show.2.1 51 = .ok (.iconst (-1), 1) := by decide +kernel
theorem de_M_show_52 : decode am_M_show.2.1 52 = .ok (.if_icmp .ne (7), 3) := by decide +kernel
theorem de_M_show_55 : decode am_M_show.2.1 55 = .ok (.iconst 0, 1) := by decide +kernel
theorem de_M_show_56 : decode am_M_show.2.1 56 = .ok (.goto (4), 3) := by decide +kernel
theorem de_M_show_59 : decode am_M_show.2.1 59 = .ok (.iconst 1, 1) := by decide +kernel
theorem de_M_show_60 : decode am_M_show.2.1 60 = .ok (.ireturn, 1) := by decide +kernel
theorem de_M_holds_0 : decode am_M_holds.2.1 0 = .ok (.aload_n 0, 1) := by decide +kernel
theorem de_M_holds_1 : decode am_M_holds.2.1 1 = .ok (.iload_n 1, 1) := by decide +kernel
theorem de_M_holds_2 : decode am_M_holds.2.1 2 = .ok (.invokevirtual 90, 3) := by decide +kernel
theorem de_M_holds_5 : decode am_M_holds.2.1 5 = .ok (.ifCond .eq (12), 3) := by decide +kernel
theorem de_M_holds_8 : decode am_M_holds.2.1 8 = .ok (.aload_n 0, 1) := by decide +kernel
theorem de_M_holds_9 : decode am_M_holds.2.1 9 = .ok (.getfield 35, 3) := by decide +kernel
theorem de_M_holds_12 : decode am_M_holds.2.1 12 = .ok (.iload_n 1, 1) := by decide +kernel
theorem de_M_holds_13 : decode am_M_holds.2.1 13 = .ok (.iaload, 1) := by decide +kernel
theorem de_M_holds_14 : decode am_M_holds.2.1 14 = .ok (.ifCond .ne (5), 3) := by decide +kernel
theorem de_M_holds_17 : decode am_M_holds.2.1 17 = .ok (.iconst (-1), 1) := by decide +kernel
theorem de_M_holds_18 : decode am_M_holds.2.1 18 = .ok (.ireturn, 1) := by decide +kernel
theorem de_M_holds_19 : decode am_M_holds.2.1 19 = .ok (.aload_n 0, 1) := by decide +kernel
theorem de_M_holds_20 : decode am_M_holds.2.1 20 = .ok (.getfield 35, 3) := by decide +kernel
theorem de_M_holds_23 : decode am_M_holds.2.1 23 = .ok (.iload_n 1, 1) := by decide +kernel
theorem de_M_holds_24 : decode am_M_holds.2.1 24 = .ok (.iaload, 1) := by decide +kernel
theorem de_M_holds_25 : decode am_M_holds.2.1 25 = .ok (.iconst 1, 1) := by decide +kernel
theorem de_M_holds_26 : decode am_M_holds.2.1 26 = .ok (.if_icmp .ne (15), 3) := by decide +kernel
theorem de_M_holds_29 : decode am_M_holds.2.1 29 = .ok (.bipush (100), 2) := by decide +kernel
theorem de_M_holds_31 : decode am_M_holds.2.1 31 = .ok (.aload_n 0, 1) := by decide +kernel
theorem de_M_holds_32 : decode am_M_holds.2.1 32 = .ok (.getfield 38, 3) := by decide +kernel
theorem de_M_holds_35 : decode am_M_holds.2.1 35 = .ok (.iload_n 1, 1) := by decide +kernel
theorem de_M_holds_36 : decode am_M_holds.2.1 36 = .ok (.iaload, 1) := by decide +kernel
theorem de_M_holds_37 : decode am_M_holds.2.1 37 = .ok (.iadd, 1) := by decide +kernel
theorem de_M_holds_38 : decode am_M_holds.2.1 38 = .ok (.goto (9), 3) := by decide +kernel
theorem de_M_holds_41 : decode am_M_holds.2.1 41 = .ok (.aload_n 0, 1) := by decide +kernel
theorem de_M_holds_42 : decode am_M_holds.2.1 42 = .ok (.getfield 44, 3) := by decide +kernel
theorem de_M_holds_45 : decode am_M_holds.2.1 45 = .ok (.iload_n 1, 1) := by decide +kernel
theorem de_M_holds_46 : decode am_M_holds.2.1 46 = .ok (.iaload, 1) := by decide +kernel
theorem de_M_holds_47 : decode am_M_holds.2.1 47 = .ok (.ireturn, 1) := by decide +kernel
theorem de_M_wants_0 : decode am_M_wants.2.1 0 = .ok (.aload_n 0, 1) := by decide +kernel
theorem de_M_wants_1 : decode am_M_wants.2.1 1 = .ok (.iload_n 1, 1) := by decide +kernel
theorem de_M_wants_2 : decode am_M_wants.2.1 2 = .ok (.invokevirtual 90, 3) := by decide +kernel
theorem de_M_wants_5 : decode am_M_wants.2.1 5 = .ok (.ifCond .ne (7), 3) := by decide +kernel
theorem de_M_wants_8 : decode am_M_wants.2.1 8 = .ok (.iconst (-1), 1) := by decide +kernel
theorem de_M_wants_9 : decode am_M_wants.2.1 9 = .ok (.goto (33), 3) := by decide +kernel
theorem de_M_wants_12 : decode am_M_wants.2.1 12 = .ok (.aload_n 0, 1) := by decide +kernel
theorem de_M_wants_13 : decode am_M_wants.2.1 13 = .ok (.getfield 35, 3) := by decide +kernel
theorem de_M_wants_16 : decode am_M_wants.2.1 16 = .ok (.iload_n 1, 1) := by decide +kernel
theorem de_M_wants_17 : decode am_M_wants.2.1 17 = .ok (.iaload, 1) := by decide +kernel
theorem de_M_wants_18 : decode am_M_wants.2.1 18 = .ok (.iconst 2, 1) := by decide +kernel
theorem de_M_wants_19 : decode am_M_wants.2.1 19 = .ok (.if_icmp .ne (8), 3) := by decide +kernel
theorem de_M_wants_22 : decode am_M_wants.2.1 22 = .ok (.bipush (-2), 2) := by decide +kernel
theorem de_M_wants_24 : decode am_M_wants.2.1 24 = .ok (.goto (18), 3) := by decide +kernel
theorem de_M_wants_27 : decode am_M_wants.2.1 27 = .ok (.aload_n 0, 1) := by decide +kernel
theorem de_M_wants_28 : decode am_M_wants.2.1 28 = .ok (.getfield 35, 3) := by decide +kernel
theorem de_M_wants_31 : decode am_M_wants.2.1 31 = .ok (.iload_n 1, 1) := by decide +kernel
theorem de_M_wants_32 : decode am_M_wants.2.1 32 = .ok (.iaload, 1) := by decide +kernel
theorem de_M_wants_33 : decode am_M_wants.2.1 33 = .ok (.ifCond .ne (8), 3) := by decide +kernel
theorem de_M_wants_36 : decode am_M_wants.2.1 36 = .ok (.bipush (-3), 2) := by decide +kernel
theorem de_M_wants_38 : decode am_M_wants.2.1 38 = .ok (.goto (4), 3) := by decide +kernel
theorem de_M_wants_41 : decode am_M_wants.2.1 41 = .ok (.iconst 0, 1) := by decide +kernel
theorem de_M_wants_42 : decode am_M_wants.2.1 42 = .ok (.ireturn, 1) := by decide +kernel
theorem de_M_intAt_0 : decode am_M_intAt.2.1 0 = .ok (.aload_n 0, 1) := by decide +kernel
theorem de_M_intAt_1 : decode am_M_intAt.2.1 1 = .ok (.getfield 47, 3) := by decide +kernel
theorem de_M_intAt_4 : decode am_M_intAt.2.1 4 = .ok (.bipush (60), 2) := by decide +kernel
theorem de_M_intAt_6 : decode am_M_intAt.2.1 6 = .ok (.iload_n 1, 1) := by decide +kernel
theorem de_M_intAt_7 : decode am_M_intAt.2.1 7 = .ok (.imul, 1) := by decide +kernel
theorem de_M_intAt_8 : decode am_M_intAt.2.1 8 = .ok (.iload_n 2, 1) := by decide +kernel
theorem de_M_intAt_9 : decode am_M_intAt.2.1 9 = .ok (.iadd, 1) := by decide +kernel
theorem de_M_intAt_10 : decode am_M_intAt.2.1 10 = .ok (.laload, 1) := by decide +kernel
theorem de_M_intAt_11 : decode am_M_intAt.2.1 11 = .ok (.l2i, 1) := by decide +kernel
theorem de_M_intAt_12 : decode am_M_intAt.2.1 12 = .ok (.ireturn, 1) := by decide +kernel
theorem de_M_endOf_0 : decode am_M_endOf.2.1 0 = .ok (.iload_n 1, 1) := by decide +kernel
theorem de_M_endOf_1 : decode am_M_endOf.2.1 1 = .ok (.bipush (10), 2) := by decide +kernel
theorem de_M_endOf_3 : decode am_M_endOf.2.1 3 = .ok (.ishr, 1) := by decide +kernel
theorem de_M_endOf_4 : decode am_M_endOf.2.1 4 = .ok (.iconst 3, 1) := by decide +kernel
theorem de_M_endOf_5 : decode am_M_endOf.2.1 5 = .ok (.iand, 1) := by decide +kernel
theorem de_M_endOf_6 : decode am_M_endOf.2.1 6 = .ok (.ireturn, 1) := by decide +kernel
theorem de_M_partsOf_0 : decode am_M_partsOf.2.1 0 = .ok (.aload_n 0, 1) := by decide +kernel
theorem de_M_partsOf_1 : decode am_M_partsOf.2.1 1 = .ok (.iload_n 1, 1) := by decide +kernel
theorem de_M_partsOf_2 : decode am_M_partsOf.2.1 2 = .ok (.sipush (1023), 3) := by decide +kernel
theorem de_M_partsOf_5 : decode am_M_partsOf.2.1 5 = .ok (.iand, 1) := by decide +kernel
theorem de_M_partsOf_6 : decode am_M_partsOf.2.1 6 = .ok (.invokevirtual 101, 3) := by decide +kernel
theorem de_M_partsOf_9 : decode am_M_partsOf.2.1 9 = .ok (.aload_n 0, 1) := by decide +kernel
theorem de_M_partsOf_10 : decode am_M_partsOf.2.1 10 = .ok (.iload_n 1, 1) := by decide +kernel
theorem de_M_partsOf_11 : decode am_M_partsOf.2.1 11 = .ok (.invokevirtual 104, 3) := by decide +kernel
theorem de_M_partsOf_14 : decode am_M_partsOf.2.1 14 = .ok (.ifCond .le (7), 3) := by decide +kernel
theorem de_M_partsOf_17 : decode am_M_partsOf.2.1 17 = .ok (.iconst 1, 1) := by decide +kernel
theorem de_M_partsOf_18 : decode am_M_partsOf.2.1 18 = .ok (.goto (4), 3) := by decide +kernel
theorem de_M_partsOf_21 : decode am_M_partsOf.2.1 21 = .ok (.iconst 0, 1) := by decide +kernel
theorem de_M_partsOf_22 : decode am_M_partsOf.2.1 22 = .ok (.iadd, 1) := by decide +kernel
theorem de_M_partsOf_23 : decode am_M_partsOf.2.1 23 = .ok (.ireturn, 1) := by decide +kernel
theorem de_M_kindOf_0 : decode am_M_kindOf.2.1 0 = .ok (.aload_n 0, 1) := by decide +kernel
theorem de_M_kindOf_1 : decode am_M_kindOf.2.1 1 = .ok (.iload_n 1, 1) := by decide +kernel
theorem de_M_kindOf_2 : decode am_M_kindOf.2.1 2 = .ok (.invokevirtual 107, 3) := by decide +kernel
theorem de_M_kindOf_5 : decode am_M_kindOf.2.1 5 = .ok (.iconst 1, 1) := by decide +kernel
theorem de_M_kindOf_6 : decode am_M_kindOf.2.1 6 = .ok (.if_icmp .le (6), 3) := by decide +kernel
theorem de_M_kindOf_9 : decode am_M_kindOf.2.1 9 = .ok (.bipush (7), 2) := by decide +kernel
theorem de_M_kindOf_11 : decode am_M_kindOf.2.1 11 = .ok (.ireturn, 1) := by decide +kernel
theorem de_M_kindOf_12 : decode am_M_kindOf.2.1 12 = .ok (.iload_n 1, 1) := by decide +kernel
theorem de_M_kindOf_13 : decode am_M_kindOf.2.1 13 = .ok (.bipush (7), 2) := by decide +kernel
theorem de_M_kindOf_15 : decode am_M_kindOf.2.1 15 = .ok (.iand, 1) := by decide +kernel
theorem de_M_kindOf_16 : decode am_M_kindOf.2.1 16 = .ok (.ifCond .eq (5), 3) := by decide +kernel
theorem de_M_kindOf_19 : decode am_M_kindOf.2.1 19 = .ok (.iconst 1, 1) := by decide +kernel
theorem de_M_kindOf_20 : decode am_M_kindOf.2.1 20 = .ok (.ireturn, 1) := by decide +kernel
theorem de_M_kindOf_21 : decode am_M_kindOf.2.1 21 = .ok (.iload_n 1, 1) := by decide +kernel
theorem de_M_kindOf_22 : decode am_M_kindOf.2.1 22 = .ok (.bipush (56), 2) := by decide +kernel
theorem de_M_kindOf_24 : decode am_M_kindOf.2.1 24 = .ok (.iand, 1) := by decide +kernel
theorem de_M_kindOf_25 : decode am_M_kindOf.2.1 25 = .ok (.ifCond .eq (5), 3) := by decide +kernel
theorem de_M_kindOf_28 : decode am_M_kindOf.2.1 28 = .ok (.iconst 2, 1) := by decide +kernel
theorem de_M_kindOf_29 : decode am_M_kindOf.2.1 29 = .ok (.ireturn, 1) := by decide +kernel
theorem de_M_kindOf_30 : decode am_M_kindOf.2.1 30 = .ok (.iload_n 1, 1) := by decide +kernel
theorem de_M_kindOf_31 : decode am_M_kindOf.2.1 31 = .ok (.bipush (64), 2) := by decide +kernel
theorem de_M_kindOf_33 : decode am_M_kindOf.2.1 33 = .ok (.iand, 1) := by decide +kernel
theorem de_M_kindOf_34 : decode am_M_kindOf.2.1 34 = .ok (.ifCond .eq (5), 3) := by decide +kernel
theorem de_M_kindOf_37 : decode am_M_kindOf.2.1 37 = .ok (.iconst 3, 1) := by decide +kernel
theorem de_M_kindOf_38 : decode am_M_kindOf.2.1 38 = .ok (.ireturn, 1) := by decide +kernel
theorem de_M_kindOf_39 : decode am_M_kindOf.2.1 39 = .ok (.iload_n 1, 1) := by decide +kernel
theorem de_M_kindOf_40 : decode am_M_kindOf.2.1 40 = .ok (.sipush (128), 3) := by decide +kernel
theorem de_M_kindOf_43 : decode am_M_kindOf.2.1 43 = .ok (.iand, 1) := by decide +kernel
theorem de_M_kindOf_44 : decode am_M_kindOf.2.1 44 = .ok (.ifCond .eq (5), 3) := by decide +kernel
theorem de_M_kindOf_47 : decode am_M_kindOf.2.1 47 = .ok (.iconst 4, 1) := by decide +kernel
theorem de_M_kindOf_48 : decode am_M_kindOf.2.1 48 = .ok (.ireturn, 1) := by decide +kernel
theorem de_M_kindOf_49 : decode am_M_kindOf.2.1 49 = .ok (.iload_n 1, 1) := by decide +kernel
theorem de_M_kindOf_50 : decode am_M_kindOf.2.1 50 = .ok (.sipush (256), 3) := by decide +kernel
theorem de_M_kindOf_53 : decode am_M_kindOf.2.1 53 = .ok (.iand, 1) := by decide +kernel
theorem de_M_kindOf_54 : decode am_M_kindOf.2.1 54 = .ok (.ifCond .eq (7), 3) := by decide +kernel
theorem de_M_kindOf_57 : decode am_M_kindOf.2.1 57 = .ok (.iconst 5, 1) := by decide +kernel
theorem de_M_kindOf_58 : decode am_M_kindOf.2.1 58 = .ok (.goto (5), 3) := by decide +kernel
theorem de_M_kindOf_61 : decode am_M_kindOf.2.1 61 = .ok (.bipush (6), 2) := by decide +kernel
theorem de_M_kindOf_63 : decode am_M_kindOf.2.1 63 = .ok (.ireturn, 1) := by decide +kernel
theorem de_M_priceOf_0 : decode am_M_priceOf.2.1 0 = .ok (.iconst 2, 1) := by decide +kernel
theorem de_M_priceOf_1 : decode am_M_priceOf.2.1 1 = .ok (.aload_n 0, 1) := by decide +kernel
theorem de_M_priceOf_2 : decode am_M_priceOf.2.1 2 = .ok (.iload_n 1, 1) := by decide +kernel
theorem de_M_priceOf_3 : decode am_M_priceOf.2.1 3 = .ok (.bipush (7), 2) := by decide +kernel
theorem de_M_priceOf_5 : decode am_M_priceOf.2.1 5 = .ok (.iand, 1) := by decide +kernel
theorem de_M_priceOf_6 : decode am_M_priceOf.2.1 6 = .ok (.invokevirtual 101, 3) := by decide +kernel
theorem de_M_priceOf_9 : decode am_M_priceOf.2.1 9 = .ok (.imul, 1) := by decide +kernel
theorem de_M_priceOf_10 : decode am_M_priceOf.2.1 10 = .ok (.iconst 3, 1) := by decide +kernel
theorem de_M_priceOf_11 : decode am_M_priceOf.2.1 11 = .ok (.aload_n 0, 1) := by decide +kernel
theorem de_M_priceOf_12 : decode am_M_priceOf.2.1 12 = .ok (.iload_n 1, 1) := by decide +kernel
theorem de_M_priceOf_13 : decode am_M_priceOf.2.1 13 = .ok (.iconst 3, 1) := by decide +kernel
theorem de_M_priceOf_14 : decode am_M_priceOf.2.1 14 = .ok (.ishr, 1) := by decide +kernel
theorem de_M_priceOf_15 : decode am_M_priceOf.2.1 15 = .ok (.bipush (7), 2) := by decide +kernel
theorem de_M_priceOf_17 : decode am_M_priceOf.2.1 17 = .ok (.iand, 1) := by decide +kernel
theorem de_M_priceOf_18 : decode am_M_priceOf.2.1 18 = .ok (.invokevirtual 101, 3) := by decide +kernel
theorem de_M_priceOf_21 : decode am_M_priceOf.2.1 21 = .ok (.imul, 1) := by decide +kernel
theorem de_M_priceOf_22 : decode am_M_priceOf.2.1 22 = .ok (.iadd, 1) := by decide +kernel
theorem de_M_priceOf_23 : decode am_M_priceOf.2.1 23 = .ok (.iconst 2, 1) := by decide +kernel
theorem de_M_priceOf_24 : decode am_M_priceOf.2.1 24 = .ok (.iload_n 1, 1) := by decide +kernel
theorem de_M_priceOf_25 : decode am_M_priceOf.2.1 25 = .ok (.bipush (6), 2) := by decide +kernel
theorem de_M_priceOf_27 : decode am_M_priceOf.2.1 27 = .ok (.ishr, 1) := by decide +kernel
theorem de_M_priceOf_28 : decode am_M_priceOf.2.1 28 = .ok (.iconst 1, 1) := by decide +kernel
theorem de_M_priceOf_29 : decode am_M_priceOf.2.1 29 = .ok (.iand, 1) := by decide +kernel
theorem de_M_priceOf_30 : decode am_M_priceOf.2.1 30 = .ok (.imul, 1) := by decide +kernel
theorem de_M_priceOf_31 : decode am_M_priceOf.2.1 31 = .ok (.iadd, 1) := by decide +kernel
theorem de_M_priceOf_32 : decode am_M_priceOf.2.1 32 = .ok (.iload_n 1, 1) := by decide +kernel
theorem de_M_priceOf_33 : decode am_M_priceOf.2.1 33 = .ok (.bipush (7), 2) := by decide +kernel
theorem de_M_priceOf_35 : decode am_M_priceOf.2.1 35 = .ok (.ishr, 1) := by decide +kernel
theorem de_M_priceOf_36 : decode am_M_priceOf.2.1 36 = .ok (.iconst 1, 1) := by decide +kernel
theorem de_M_priceOf_37 : decode am_M_priceOf.2.1 37 = .ok (.iand, 1) := by decide +kernel
theorem de_M_priceOf_38 : decode am_M_priceOf.2.1 38 = .ok (.iadd, 1) := by decide +kernel
theorem de_M_priceOf_39 : decode am_M_priceOf.2.1 39 = .ok (.iload_n 1, 1) := by decide +kernel
theorem de_M_priceOf_40 : decode am_M_priceOf.2.1 40 = .ok (.bipush (8), 2) := by decide +kernel
theorem de_M_priceOf_42 : decode am_M_priceOf.2.1 42 = .ok (.ishr, 1) := by decide +kernel
theorem de_M_priceOf_43 : decode am_M_priceOf.2.1 43 = .ok (.iconst 1, 1) := by decide +kernel
theorem de_M_priceOf_44 : decode am_M_priceOf.2.1 44 = .ok (.iand, 1) := by decide +kernel
theorem de_M_priceOf_45 : decode am_M_priceOf.2.1 45 = .ok (.iadd, 1) := by decide +kernel
theorem de_M_priceOf_46 : decode am_M_priceOf.2.1 46 = .ok (.iload_n 1, 1) := by decide +kernel
theorem de_M_priceOf_47 : decode am_M_priceOf.2.1 47 = .ok (.bipush (9), 2) := by decide +kernel
theorem de_M_priceOf_49 : decode am_M_priceOf.2.1 49 = .ok (.ishr, 1) := by decide +kernel
theorem de_M_priceOf_50 : decode am_M_priceOf.2.1 50 = .ok (.iconst 1, 1) := by decide +kernel
theorem de_M_priceOf_51 : decode am_M_priceOf.2.1 51 = .ok (.iand, 1) := by decide +kernel
theorem de_M_priceOf_52 : decode am_M_priceOf.2.1 52 = .ok (.iadd, 1) := by decide +kernel
theorem de_M_priceOf_53 : decode am_M_priceOf.2.1 53 = .ok (.aload_n 0, 1) := by decide +kernel
theorem de_M_priceOf_54 : decode am_M_priceOf.2.1 54 = .ok (.iload_n 1, 1) := by decide +kernel
theorem de_M_priceOf_55 : decode am_M_priceOf.2.1 55 = .ok (.invokevirtual 104, 3) := by decide +kernel
theorem de_M_priceOf_58 : decode am_M_priceOf.2.1 58 = .ok (.ifCond .le (7), 3) := by decide +kernel
theorem de_M_priceOf_61 : decode am_M_priceOf.2.1 61 = .ok (.iconst 2, 1) := by decide +kernel
theorem de_M_priceOf_62 : decode am_M_priceOf.2.1 62 = .ok (.goto (4), 3) := by decide +kernel
theorem de_M_priceOf_65 : decode am_M_priceOf.2.1 65 = .ok (.iconst 0, 1) := by decide +kernel
theorem de_M_priceOf_66 : decode am_M_priceOf.2.1 66 = .ok (.iadd, 1) := by decide +kernel
theorem de_M_priceOf_67 : decode am_M_priceOf.2.1 67 = .ok (.ireturn, 1) := by decide +kernel
theorem de_M_lowest_0 : decode am_M_lowest.2.1 0 = .ok (.iconst 0, 1) := by decide +kernel
theorem de_M_lowest_1 : decode am_M_lowest.2.1 1 = .ok (.istore_n 2, 1) := by decide +kernel
theorem de_M_lowest_2 : decode am_M_lowest.2.1 2 = .ok (.iload_n 1, 1) := by decide +kernel
theorem de_M_lowest_3 : decode am_M_lowest.2.1 3 = .ok (.iload_n 2, 1) := by decide +kernel
theorem de_M_lowest_4 : decode am_M_lowest.2.1 4 = .ok (.ishr, 1) := by decide +kernel
theorem de_M_lowest_5 : decode am_M_lowest.2.1 5 = .ok (.iconst 1, 1) := by decide +kernel
theorem de_M_lowest_6 : decode am_M_lowest.2.1 6 = .ok (.iand, 1) := by decide +kernel
theorem de_M_lowest_7 : decode am_M_lowest.2.1 7 = .ok (.ifCond .ne (9), 3) := by decide +kernel
theorem de_M_lowest_10 : decode am_M_lowest.2.1 10 = .ok (.iinc 2 (1), 3) := by decide +kernel
theorem de_M_lowest_13 : decode am_M_lowest.2.1 13 = .ok (.goto (-11), 3) := by decide +kernel
theorem de_M_lowest_16 : decode am_M_lowest.2.1 16 = .ok (.iload_n 2, 1) := by decide +kernel
theorem de_M_lowest_17 : decode am_M_lowest.2.1 17 = .ok (.ireturn, 1) := by decide +kernel
theorem de_M_says_0 : decode am_M_says.2.1 0 = .ok (.aload_n 0, 1) := by decide +kernel
theorem de_M_says_1 : decode am_M_says.2.1 1 = .ok (.iload_n 1, 1) := by decide +kernel
theorem de_M_says_2 : decode am_M_says.2.1 2 = .ok (.invokevirtual 90, 3) := by decide +kernel
theorem de_M_says_5 : decode am_M_says.2.1 5 = .ok (.ifCond .eq (13), 3) := by decide +kernel
theorem de_M_says_8 : decode am_M_says.2.1 8 = .ok (.iload_n 2, 1) := by decide +kernel
theorem de_M_says_9 : decode am_M_says.2.1 9 = .ok (.ifCond .lt (9), 3) := by decide +kernel
theorem de_M_says_12 : decode am_M_says.2.1 12 = .ok (.iload_n 2, 1) := by decide +kernel
theorem de_M_says_13 : decode am_M_says.2.1 13 = .ok (.bipush (7), 2) := by decide +kernel
theorem de_M_says_15 : decode am_M_says.2.1 15 = .ok (.if_icmp .le (9), 3) := by decide +kernel
theorem de_M_says_18 : decode am_M_says.2.1 18 = .ok (.aload_n 0, 1) := by decide +kernel
theorem de_M_says_19 : decode am_M_says.2.1 19 = .ok (.iconst (-1), 1) := by decide +kernel
theorem de_M_says_20 : decode am_M_says.2.1 20 = .ok (.invokevirtual 94, 3) := by decide +kernel
theorem de_M_says_23 : decode am_M_says.2.1 23 = .ok (.ireturn, 1) := by decide +kernel
theorem de_M_says_24 : decode am_M_says.2.1 24 = .ok (.aload_n 0, 1) := by decide +kernel
theorem de_M_says_25 : decode am_M_says.2.1 25 = .ok (.getfield 35, 3) := by decide +kernel
theorem de_M_says_28 : decode am_M_says.2.1 28 = .ok (.iload_n 1, 1) := by decide +kernel
theorem de_M_says_29 : decode am_M_says.2.1 29 = .ok (.iaload, 1) := by decide +kernel
theorem de_M_says_30 : decode am_M_says.2.1 30 = .ok (.iconst 1, 1) := by decide +kernel
theorem de_M_says_31 : decode am_M_says.2.1 31 = .ok (.if_icmp .ne (10), 3) := by decide +kernel
theorem de_M_says_34 : decode am_M_says.2.1 34 = .ok (.aload_n 0, 1) := by decide +kernel
theorem de_M_says_35 : decode am_M_says.2.1 35 = .ok (.bipush (-2), 2) := by decide +kernel
theorem de_M_says_37 : decode am_M_says.2.1 37 = .ok (.invokevirtual 94, 3) := by decide +kernel
theorem de_M_says_40 : decode am_M_says.2.1 40 = .ok (.ireturn, 1) := by decide +kernel
theorem de_M_says_41 : decode am_M_says.2.1 41 = .ok (.aload_n 0, 1) := by decide +kernel
theorem de_M_says_42 : decode am_M_says.2.1 42 = .ok (.getfield 35, 3) := by decide +kernel
theorem de_M_says_45 : decode am_M_says.2.1 45 = .ok (.iload_n 1, 1) := by decide +kernel
theorem de_M_says_46 : decode am_M_says.2.1 46 = .ok (.iaload, 1) := by decide +kernel
theorem de_M_says_47 : decode am_M_says.2.1 47 = .ok (.ifCond .ne (10), 3) := by decide +kernel
theorem de_M_says_50 : decode am_M_says.2.1 50 = .ok (.aload_n 0, 1) := by decide +kernel
theorem de_M_says_51 : decode am_M_says.2.1 51 = .ok (.bipush (-3), 2) := by decide +kernel
theorem de_M_says_53 : decode am_M_says.2.1 53 = .ok (.invokevirtual 94, 3) := by decide +kernel
theorem de_M_says_56 : decode am_M_says.2.1 56 = .ok (.ireturn, 1) := by decide +kernel
theorem de_M_says_57 : decode am_M_says.2.1 57 = .ok (.aload_n 0, 1) := by decide +kernel
theorem de_M_says_58 : decode am_M_says.2.1 58 = .ok (.getfield 20, 3) := by decide +kernel
theorem de_M_says_61 : decode am_M_says.2.1 61 = .ok (.aload_n 0, 1) := by decide +kernel
theorem de_M_says_62 : decode am_M_says.2.1 62 = .ok (.getfield 44, 3) := by decide +kernel
theorem de_M_says_65 : decode am_M_says.2.1 65 = .ok (.iload_n 1, 1) := by decide +kernel
theorem de_M_says_66 : decode am_M_says.2.1 66 = .ok (.iaload, 1) := by decide +kernel
theorem de_M_says_67 : decode am_M_says.2.1 67 = .ok (.iaload, 1) := by decide +kernel
theorem de_M_says_68 : decode am_M_says.2.1 68 = .ok (.istore_n 3, 1) := by decide +kernel
theorem de_M_says_69 : decode am_M_says.2.1 69 = .ok (.aload_n 0, 1) := by decide +kernel
theorem de_M_says_70 : decode am_M_says.2.1 70 = .ok (.iload_n 3, 1) := by decide +kernel
theorem de_M_says_71 : decode am_M_says.2.1 71 = .ok (.invokevirtual 110, 3) := by decide +kernel
theorem de_M_says_74 : decode am_M_says.2.1 74 = .ok (.istore 4, 2) := by decide +kernel
theorem de_M_says_76 : decode am_M_says.2.1 76 = .ok (.iload_n 2, 1) := by decide +kernel
theorem de_M_says_77 : decode am_M_says.2.1 77 = .ok (.ifCond .eq (27), 3) := by decide +kernel
theorem de_M_says_80 : decode am_M_says.2.1 80 = .ok (.iload_n 2, 1) := by decide +kernel
theorem de_M_says_81 : decode am_M_says.2.1 81 = .ok (.iload 4, 2) := by decide +kernel
theorem de_M_says_83 : decode am_M_says.2.1 83 = .ok (.if_icmp .eq (21), 3) := by decide +kernel
theorem de_M_says_86 : decode am_M_says.2.1 86 = .ok (.iload_n 2, 1) := by decide +kernel
theorem de_M_says_87 : decode am_M_says.2.1 87 = .ok (.iconst 1, 1) := by decide +kernel
theorem de_M_says_88 : decode am_M_says.2.1 88 = .ok (.if_icmp .ne (9), 3) := by decide +kernel
theorem de_M_says_91 : decode am_M_says.2.1 91 = .ok (.iload 4, 2) := by decide +kernel
theorem de_M_says_93 : decode am_M_says.2.1 93 = .ok (.iconst 2, 1) := by decide +kernel
theorem de_M_says_94 : decode am_M_says.2.1 94 = .ok (.if_icmp .eq (10), 3) := by decide +kernel
theorem de_M_says_97 : decode am_M_says.2.1 97 = .ok (.aload_n 0, 1) := by decide +kernel
theorem de_M_says_98 : decode am_M_says.2.1 98 = .ok (.bipush (-2), 2) := by decide +kernel
theorem de_M_says_100 : decode am_M_says.2.1 100 = .ok (.invokevirtual 94, 3) := by decide +kernel
theorem de_M_says_103 : decode am_M_says.2.1 103 = .ok (.ireturn, 1) := by decide +kernel
theorem de_M_says_104 : decode am_M_says.2.1 104 = .ok (.iload_n 2, 1) := by decide +kernel
theorem de_M_says_105 : decode am_M_says.2.1 105 = .ok (.ifCond .ne (5), 3) := by decide +kernel
theorem de_M_says_108 : decode am_M_says.2.1 108 = .ok (.iload_n 3, 1) := by decide +kernel
theorem de_M_says_109 : decode am_M_says.2.1 109 = .ok (.ireturn, 1) := by decide +kernel
theorem de_M_says_110 : decode am_M_says.2.1 110 = .ok (.iload_n 2, 1) := by decide +kernel
theorem de_M_says_111 : decode am_M_says.2.1 111 = .ok (.iconst 3, 1) := by decide +kernel
theorem de_M_says_112 : decode am_M_says.2.1 112 = .ok (.if_icmp .ge (19), 3) := by decide +kernel
theorem de_M_says_115 : decode am_M_says.2.1 115 = .ok (.aload_n 0, 1) := by decide +kernel
theorem de_M_says_116 : decode am_M_says.2.1 116 = .ok (.iload_n 3, 1) := by decide +kernel
theorem de_M_says_117 : decode am_M_says.2.1 117 = .ok (.bipush (7), 2) := by decide +kernel
theorem de_M_says_119 : decode am_M_says.2.1 119 = .ok (.iand, 1) := by decide +kernel
theorem de_M_says_120 : decode am_M_says.2.1 120 = .ok (.iload_n 3, 1) := by decide +kernel
theorem de_M_says_121 : decode am_M_says.2.1 121 = .ok (.iconst 3, 1) := by decide +kernel
theorem de_M_says_122 : decode am_M_says.2.1 122 = .ok (.ishr, 1) := by decide +kernel
theorem de_M_says_123 : decode am_M_says.2.1 123 = .ok (.bipush (7), 2) := by decide +kernel
theorem de_M_says_125 : decode am_M_says.2.1 125 = .ok (.iand, 1) := by decide +kernel
theorem de_M_says_126 : decode am_M_says.2.1 126 = .ok (.ior, 1) := by decide +kernel
theorem de_M_says_127 : decode am_M_says.2.1 127 = .ok (.invokevirtual 113, 3) := by decide +kernel
theorem de_M_says_130 : decode am_M_says.2.1 130 = .ok (.ireturn, 1) := by decide +kernel
theorem de_M_says_131 : decode am_M_says.2.1 131 = .ok (.iload_n 2, 1) := by decide +kernel
theorem de_M_says_132 : decode am_M_says.2.1 132 = .ok (.bipush (6), 2) := by decide +kernel
theorem de_M_says_134 : decode am_M_says.2.1 134 = .ok (.if_icmp .ge (9), 3) := by decide +kernel
theorem de_M_says_137 : decode am_M_says.2.1 137 = .ok (.aload_n 0, 1) := by decide +kernel
theorem de_M_says_138 : decode am_M_says.2.1 138 = .ok (.iload_n 3, 1) := by decide +kernel
theorem de_M_says_139 : decode am_M_says.2.1 139 = .ok (.invokevirtual 116, 3) := by decide +kernel
theorem de_M_says_142 : decode am_M_says.2.1 142 = .ok (.ireturn, 1) := by decide +kernel
theorem de_M_says_143 : decode am_M_says.2.1 143 = .ok (.iload_n 2, 1) := by decide +kernel
theorem de_M_says_144 : decode am_M_says.2.1 144 = .ok (.bipush (6), 2) := by decide +kernel
theorem de_M_says_146 : decode am_M_says.2.1 146 = .ok (.if_icmp .ne (11), 3) := by decide +kernel
theorem de_M_says_149 : decode am_M_says.2.1 149 = .ok (.aload_n 0, 1) := by decide +kernel
theorem de_M_says_150 : decode am_M_says.2.1 150 = .ok (.iload_n 3, 1) := by decide +kernel
theorem de_M_says_151 : decode am_M_says.2.1 151 = .ok (.invokevirtual 104, 3) := by decide +kernel
theorem de_M_says_154 : decode am_M_says.2.1 154 = .ok (.goto (8), 3) := by decide +kernel
theorem de_M_says_157 : decode am_M_says.2.1 157 = .ok (.aload_n 0, 1) := by decide +kernel
theorem de_M_says_158 : decode am_M_says.2.1 158 = .ok (.iload_n 3, 1) := by decide +kernel
theorem de_M_says_159 : decode am_M_says.2.1 159 = .ok (.invokevirtual 107, 3) := by decide +kernel
theorem de_M_says_162 : decode am_M_says.2.1 162 = .ok (.ireturn, 1) := by decide +kernel
theorem de_M_tie_0 : decode am_M_tie.2.1 0 = .ok (.aload_n 0, 1) := by decide +kernel
theorem de_M_tie_1 : decode am_M_tie.2.1 1 = .ok (.iload_n 1, 1) := by decide +kernel
theorem de_M_tie_2 : decode am_M_tie.2.1 2 = .ok (.invokevirtual 119, 3) := by decide +kernel
theorem de_M_tie_5 : decode am_M_tie.2.1 5 = .ok (.ifCond .eq (20), 3) := by decide +kernel
theorem de_M_tie_8 : decode am_M_tie.2.1 8 = .ok (.aload_n 0, 1) := by decide +kernel
theorem de_M_tie_9 : decode am_M_tie.2.1 9 = .ok (.iload_n 2, 1) := by decide +kernel
theorem de_M_tie_10 : decode am_M_tie.2.1 10 = .ok (.invokevirtual 119, 3) := by decide +kernel
theorem de_M_tie_13 : decode am_M_tie.2.1 13 = .ok (.ifCond .eq (12), 3) := by decide +kernel
theorem de_M_tie_16 : decode am_M_tie.2.1 16 = .ok (.iload_n 3, 1) := by decide +kernel
theorem de_M_tie_17 : decode am_M_tie.2.1 17 = .ok (.ifCond .lt (8), 3) := by decide +kernel
theorem de_M_tie_20 : decode am_M_tie.2.1 20 = .ok (.iload_n 3, 1) := by decide +kernel
theorem de_M_tie_21 : decode am_M_tie.2.1 21 = .ok (.iconst 2, 1) := by decide +kernel
theorem de_M_tie_22 : decode am_M_tie.2.1 22 = .ok (.if_icmp .le (9), 3) := by decide +kernel
theorem de_M_tie_25 : decode am_M_tie.2.1 25 = .ok (.aload_n 0, 1) := by decide +kernel
theorem de_M_tie_26 : decode am_M_tie.2.1 26 = .ok (.iconst (-1), 1) := by decide +kernel
theorem de_M_tie_27 : decode am_M_tie.2.1 27 = .ok (.invokevirtual 94, 3) := by decide +kernel
theorem de_M_tie_30 : decode am_M_tie.2.1 30 = .ok (.ireturn, 1) := by decide +kernel
theorem de_M_tie_31 : decode am_M_tie.2.1 31 = .ok (.iload_n 1, 1) := by decide +kernel
theorem de_M_tie_32 : decode am_M_tie.2.1 32 = .ok (.iload_n 2, 1) := by decide +kernel
theorem de_M_tie_33 : decode am_M_tie.2.1 33 = .ok (.if_icmp .ne (10), 3) := by decide +kernel
theorem de_M_tie_36 : decode am_M_tie.2.1 36 = .ok (.aload_n 0, 1) := by decide +kernel
theorem de_M_tie_37 : decode am_M_tie.2.1 37 = .ok (.bipush (-6), 2) := by decide +kernel
theorem de_M_tie_39 : decode am_M_tie.2.1 39 = .ok (.invokevirtual 94, 3) := by decide +kernel
theorem de_M_tie_42 : decode am_M_tie.2.1 42 = .ok (.ireturn, 1) := by decide +kernel
theorem de_M_tie_43 : decode am_M_tie.2.1 43 = .ok (.aload_n 0, 1) := by decide +kernel
theorem de_M_tie_44 : decode am_M_tie.2.1 44 = .ok (.getfield 17, 3) := by decide +kernel
theorem de_M_tie_47 : decode am_M_tie.2.1 47 = .ok (.bipush (12), 2) := by decide +kernel
theorem de_M_tie_49 : decode am_M_tie.2.1 49 = .ok (.iload_n 3, 1) := by decide +kernel
theorem de_M_tie_50 : decode am_M_tie.2.1 50 = .ok (.imul, 1) := by decide +kernel
theorem de_M_tie_51 : decode am_M_tie.2.1 51 = .ok (.iload_n 1, 1) := by decide +kernel
theorem de_M_tie_52 : decode am_M_tie.2.1 52 = .ok (.iadd, 1) := by decide +kernel
theorem de_M_tie_53 : decode am_M_tie.2.1 53 = .ok (.iaload, 1) := by decide +kernel
theorem de_M_tie_54 : decode am_M_tie.2.1 54 = .ok (.iload_n 2, 1) := by decide +kernel
theorem de_M_tie_55 : decode am_M_tie.2.1 55 = .ok (.ishr, 1) := by decide +kernel
theorem de_M_tie_56 : decode am_M_tie.2.1 56 = .ok (.iconst 1, 1) := by decide +kernel
theorem de_M_tie_57 : decode am_M_tie.2.1 57 = .ok (.iand, 1) := by decide +kernel
theorem de_M_tie_58 : decode am_M_tie.2.1 58 = .ok (.iconst 1, 1) := by decide +kernel
theorem de_M_tie_59 : decode am_M_tie.2.1 59 = .ok (.if_icmp .ne (7), 3) := by decide +kernel
theorem de_M_tie_62 : decode am_M_tie.2.1 62 = .ok (.iconst 1, 1) := by decide +kernel
theorem de_M_tie_63 : decode am_M_tie.2.1 63 = .ok (.goto (4), 3) := by decide +kernel
theorem de_M_tie_66 : decode am_M_tie.2.1 66 = .ok (.iconst 0, 1) := by decide +kernel
theorem de_M_tie_67 : decode am_M_tie.2.1 67 = .ok (.istore 5, 2) := by decide +kernel
theorem de_M_tie_69 : decode am_M_tie.2.1 69 = .ok (.iload 5, 2) := by decide +kernel
theorem de_M_tie_71 : decode am_M_tie.2.1 71 = .ok (.iload 4, 2) := by decide +kernel
theorem de_M_tie_73 : decode am_M_tie.2.1 73 = .ok (.if_icmp .ne (5), 3) := by decide +kernel
theorem de_M_tie_76 : decode am_M_tie.2.1 76 = .ok (.iconst 0, 1) := by decide +kernel
theorem de_M_tie_77 : decode am_M_tie.2.1 77 = .ok (.ireturn, 1) := by decide +kernel
theorem de_M_tie_78 : decode am_M_tie.2.1 78 = .ok (.aload_n 0, 1) := by decide +kernel
theorem de_M_tie_79 : decode am_M_tie.2.1 79 = .ok (.getfield 17, 3) := by decide +kernel
theorem de_M_tie_82 : decode am_M_tie.2.1 82 = .ok (.bipush (12), 2) := by decide +kernel
theorem de_M_tie_84 : decode am_M_tie.2.1 84 = .ok (.iload_n 3, 1) := by decide +kernel
theorem de_M_tie_85 : decode am_M_tie.2.1 85 = .ok (.imul, 1) := by decide +kernel
theorem de_M_tie_86 : decode am_M_tie.2.1 86 = .ok (.iload_n 1, 1) := by decide +kernel
theorem de_M_tie_87 : decode am_M_tie.2.1 87 = .ok (.iadd, 1) := by decide +kernel
theorem de_M_tie_88 : decode am_M_tie.2.1 88 = .ok (.dup2, 1) := by decide +kernel
theorem de_M_tie_89 : decode am_M_tie.2.1 89 = .ok (.iaload, 1) := by decide +kernel
theorem de_M_tie_90 : decode am_M_tie.2.1 90 = .ok (.iconst 1, 1) := by decide +kernel
theorem de_M_tie_91 : decode am_M_tie.2.1 91 = .ok (.iload_n 2, 1) := by decide +kernel
theorem de_M_tie_92 : decode am_M_tie.2.1 92 = .ok (.ishl, 1) := by decide +kernel
theorem de_M_tie_93 : decode am_M_tie.2.1 93 = .ok (.ixor, 1) := by decide +kernel
theorem de_M_tie_94 : decode am_M_tie.2.1 94 = .ok (.iastore, 1) := by decide +kernel
theorem de_M_tie_95 : decode am_M_tie.2.1 95 = .ok (.aload_n 0, 1) := by decide +kernel
theorem de_M_tie_96 : decode am_M_tie.2.1 96 = .ok (.getfield 17, 3) := by decide +kernel
theorem de_M_tie_99 : decode am_M_tie.2.1 99 = .ok (.bipush (12), 2) := by decide +kernel
theorem de_M_tie_101 : decode am_M_tie.2.1 101 = .ok (.iload_n 3, 1) := by decide +kernel
theorem de_M_tie_102 : decode am_M_tie.2.1 102 = .ok (.imul, 1) := by decide +kernel
theorem de_M_tie_103 : decode am_M_tie.2.1 103 = .ok (.iload_n 2, 1) := by decide +kernel
theorem de_M_tie_104 : decode am_M_tie.2.1 104 = .ok (.iadd, 1) := by decide +kernel
theorem de_M_tie_105 : decode am_M_tie.2.1 105 = .ok (.dup2, 1) := by decide +kernel
theorem de_M_tie_106 : decode am_M_tie.2.1 106 = .ok (.iaload, 1) := by decide +kernel
theorem de_M_tie_107 : decode am_M_tie.2.1 107 = .ok (.iconst 1, 1) := by decide +kernel
theorem de_M_tie_108 : decode am_M_tie.2.1 108 = .ok (.iload_n 1, 1) := by decide +kernel
theorem de_M_tie_109 : decode am_M_tie.2.1 109 = .ok (.ishl, 1) := by decide +kernel
theorem de_M_tie_110 : decode am_M_tie.2.1 110 = .ok (.ixor, 1) := by decide +kernel
theorem de_M_tie_111 : decode am_M_tie.2.1 111 = .ok (.iastore, 1) := by decide +kernel
theorem de_M_tie_112 : decode am_M_tie.2.1 112 = .ok (.aload_n 0, 1) := by decide +kernel
theorem de_M_tie_113 : decode am_M_tie.2.1 113 = .ok (.invokevirtual 122, 3) := by decide +kernel
theorem de_M_tie_116 : decode am_M_tie.2.1 116 = .ok (.iconst 1, 1) := by decide +kernel
theorem de_M_tie_117 : decode am_M_tie.2.1 117 = .ok (.ireturn, 1) := by decide +kernel
theorem de_M_tied_0 : decode am_M_tied.2.1 0 = .ok (.aload_n 0, 1) := by decide +kernel
theorem de_M_tied_1 : decode am_M_tied.2.1 1 = .ok (.iload_n 1, 1) := by decide +kernel
theorem de_M_tied_2 : decode am_M_tied.2.1 2 = .ok (.invokevirtual 119, 3) := by decide +kernel
theorem de_M_tied_5 : decode am_M_tied.2.1 5 = .ok (.ifCond .eq (26), 3) := by decide +kernel
theorem de_M_tied_8 : decode am_M_tied.2.1 8 = .ok (.iload_n 2, 1) := by decide +kernel
theorem de_M_tied_9 : decode am_M_tied.2.1 9 = .ok (.ifCond .lt (22), 3) := by decide +kernel
theorem de_M_tied_12 : decode am_M_tied.2.1 12 = .ok (.iload_n 2, 1) := by decide +kernel
theorem de_M_tied_13 : decode am_M_tied.2.1 13 = .ok (.iconst 3, 1) := by decide +kernel
theorem de_M_tied_14 : decode am_M_tied.2.1 14 = .ok (.if_icmp .ge (17), 3) := by decide +kernel
theorem de_M_tied_17 : decode am_M_tied.2.1 17 = .ok (.aload_n 0, 1) := by decide +kernel
theorem de_M_tied_18 : decode am_M_tied.2.1 18 = .ok (.getfield 17, 3) := by decide +kernel
theorem de_M_tied_21 : decode am_M_tied.2.1 21 = .ok (.bipush (12), 2) := by decide +kernel
theorem de_M_tied_23 : decode am_M_tied.2.1 23 = .ok (.iload_n 2, 1) := by decide +kernel
theorem de_M_tied_24 : decode am_M_tied.2.1 24 = .ok (.imul, 1) := by decide +kernel
theorem de_M_tied_25 : decode am_M_tied.2.1 25 = .ok (.iload_n 1, 1) := by decide +kernel
theorem de_M_tied_26 : decode am_M_tied.2.1 26 = .ok (.iadd, 1) := by decide +kernel
theorem de_M_tied_27 : decode am_M_tied.2.1 27 = .ok (.iaload, 1) := by decide +kernel
theorem de_M_tied_28 : decode am_M_tied.2.1 28 = .ok (.goto (8), 3) := by decide +kernel
theorem de_M_tied_31 : decode am_M_tied.2.1 31 = .ok (.aload_n 0, 1) := by decide +kernel
theorem de_M_tied_32 : decode am_M_tied.2.1 32 = .ok (.iconst (-1), 1) := by decide +kernel
theorem de_M_tied_33 : decode am_M_tied.2.1 33 = .ok (.invokevirtual 94, 3) := by decide +kernel
theorem de_M_tied_36 : decode am_M_tied.2.1 36 = .ok (.ireturn, 1) := by decide +kernel
theorem de_M_letter_0 : decode am_M_letter.2.1 0 = .ok (.aload_n 0, 1) := by decide +kernel
theorem de_M_letter_1 : decode am_M_letter.2.1 1 = .ok (.getfield 125, 3) := by decide +kernel
theorem de_M_letter_4 : decode am_M_letter.2.1 4 = .ok (.aload_n 0, 1) := by decide +kernel
theorem de_M_letter_5 : decode am_M_letter.2.1 5 = .ok (.getfield 128, 3) := by decide +kernel
theorem de_M_letter_8 : decode am_M_letter.2.1 8 = .ok (.if_icmp .ge (20), 3) := by decide +kernel
theorem de_M_letter_11 : decode am_M_letter.2.1 11 = .ok (.aload_n 0, 1) := by decide +kernel
theorem de_M_letter_12 : decode am_M_letter.2.1 12 = .ok (.iconst 0, 1) := by decide +kernel
theorem de_M_letter_13 : decode am_M_letter.2.1 13 = .ok (.aload_n 0, 1) := by decide +kernel
theorem de_M_letter_14 : decode am_M_letter.2.1 14 = .ok (.getfield 131, 3) := by decide +kernel
theorem de_M_letter_17 : decode am_M_letter.2.1 17 = .ok (.aload_n 0, 1) := by decide +kernel
theorem de_M_letter_18 : decode am_M_letter.2.1 18 = .ok (.getfield 125, 3) := by decide +kernel
theorem de_M_letter_21 : decode am_M_letter.2.1 21 = .ok (.iadd, 1) := by decide +kernel
theorem de_M_letter_22 : decode am_M_letter.2.1 22 = .ok (.invokevirtual 134, 3) := by decide +kernel
theorem de_M_letter_25 : decode am_M_letter.2.1 25 = .ok (.goto (4), 3) := by decide +kernel
theorem de_M_letter_28 : decode am_M_letter.2.1 28 = .ok (.iconst (-1), 1) := by decide +kernel
theorem de_M_letter_29 : decode am_M_letter.2.1 29 = .ok (.ireturn, 1) := by decide +kernel
theorem de_M_wrong_0 : decode am_M_wrong.2.1 0 = .ok (.aload_n 0, 1) := by decide +kernel
theorem de_M_wrong_1 : decode am_M_wrong.2.1 1 = .ok (.iload_n 1, 1) := by decide +kernel
theorem de_M_wrong_2 : decode am_M_wrong.2.1 2 = .ok (.putfield 138, 3) := by decide +kernel
theorem de_M_wrong_5 : decode am_M_wrong.2.1 5 = .ok (.iconst 0, 1) := by decide +kernel
theorem de_M_wrong_6 : decode am_M_wrong.2.1 6 = .ok (.ireturn, 1) := by decide +kernel
theorem de_M_takes_0 : decode am_M_takes.2.1 0 = .ok (.aload_n 0, 1) := by decide +kernel
theorem de_M_takes_1 : decode am_M_takes.2.1 1 = .ok (.getfield 125, 3) := by decide +kernel
theorem de_M_takes_4 : decode am_M_takes.2.1 4 = .ok (.aload_n 0, 1) := by decide +kernel
theorem de_M_takes_5 : decode am_M_takes.2.1 5 = .ok (.getfield 128, 3) := by decide +kernel
theorem de_M_takes_8 : decode am_M_takes.2.1 8 = .ok (.if_icmp .ge (11), 3) := by decide +kernel
theorem de_M_takes_11 : decode am_M_takes.2.1 11 = .ok (.aload_n 0, 1) := by decide +kernel
theorem de_M_takes_12 : decode am_M_takes.2.1 12 = .ok (.invokevirtual 141, 3) := by decide +kernel
theorem de_M_takes_15 : decode am_M_takes.2.1 15 = .ok (.iload_n 1, 1) := by decide +kernel
theorem de_M_takes_16 : decode am_M_takes.2.1 16 = .ok (.if_icmp .eq (12), 3) := by decide +kernel
theorem de_M_takes_19 : decode am_M_takes.2.1 19 = .ok (.aload_n 0, 1) := by decide +kernel
theorem de_M_takes_20 : decode am_M_takes.2.1 20 = .ok (.aload_n 0, 1) := by decide +kernel
theorem de_M_takes_21 : decode am_M_takes.2.1 21 = .ok (.getfield 125, 3) := by decide +kernel
theorem de_M_takes_24 : decode am_M_takes.2.1 24 = .ok (.invokevirtual 145, 3) := by decide +kernel
theorem de_M_takes_27 : decode am_M_takes.2.1 27 = .ok (.ireturn, 1) := by decide +kernel
theorem de_M_takes_28 : decode am_M_takes.2.1 28 = .ok (.aload_n 0, 1) := by decide +kernel
theorem de_M_takes_29 : decode am_M_takes.2.1 29 = .ok (.dup, 1) := by decide +kernel
theorem de_M_takes_30 : decode am_M_takes.2.1 30 = .ok (.getfield 125, 3) := by decide +kernel
theorem de_M_takes_33 : decode am_M_takes.2.1 33 = .ok (.iconst 1, 1) := by decide +kernel
theorem de_M_takes_34 : decode am_M_takes.2.1 34 = .ok (.iadd, 1) := by decide +kernel
theorem de_M_takes_35 : decode am_M_takes.2.1 35 = .ok (.putfield 125, 3) := by decide +kernel
theorem de_M_takes_38 : decode am_M_takes.2.1 38 = .ok (.iconst 1, 1) := by decide +kernel
theorem de_M_takes_39 : decode am_M_takes.2.1 39 = .ok (.ireturn, 1) := by decide +kernel
theorem de_M_adds_0 : decode am_M_adds.2.1 0 = .ok (.aload_n 0, 1) := by decide +kernel
theorem de_M_adds_1 : decode am_M_adds.2.1 1 = .ok (.getfield 148, 3) := by decide +kernel
theorem de_M_adds_4 : decode am_M_adds.2.1 4 = .ok (.iload_n 2, 1) := by decide +kernel
theorem de_M_adds_5 : decode am_M_adds.2.1 5 = .ok (.iand, 1) := by decide +kernel
theorem de_M_adds_6 : decode am_M_adds.2.1 6 = .ok (.ifCond .eq (14), 3) := by decide +kernel
theorem de_M_adds_9 : decode am_M_adds.2.1 9 = .ok (.aload_n 0, 1) := by decide +kernel
theorem de_M_adds_10 : decode am_M_adds.2.1 10 = .ok (.aload_n 0, 1) := by decide +kernel
theorem de_M_adds_11 : decode am_M_adds.2.1 11 = .ok (.getfield 125, 3) := by decide +kernel
theorem de_M_adds_14 : decode am_M_adds.2.1 14 = .ok (.iconst 1, 1) := by decide +kernel
theorem de_M_adds_15 : decode am_M_adds.2.1 15 = .ok (.isub, 1) := by decide +kernel
theorem de_M_adds_16 : decode am_M_adds.2.1 16 = .ok (.invokevirtual 145, 3) := by decide +kernel
theorem de_M_adds_19 : decode am_M_adds.2.1 19 = .ok (.ireturn, 1) := by decide +kernel
theorem de_M_adds_20 : decode am_M_adds.2.1 20 = .ok (.aload_n 0, 1) := by decide +kernel
theorem de_M_adds_21 : decode am_M_adds.2.1 21 = .ok (.dup, 1) := by decide +kernel
theorem de_M_adds_22 : decode am_M_adds.2.1 22 = .ok (.getfield 148, 3) := by decide +kernel
theorem de_M_adds_25 : decode am_M_adds.2.1 25 = .ok (.iload_n 1, 1) := by decide +kernel
theorem de_M_adds_26 : decode am_M_adds.2.1 26 = .ok (.ior, 1) := by decide +kernel
theorem de_M_adds_27 : decode am_M_adds.2.1 27 = .ok (.putfield 148, 3) := by decide +kernel
theorem de_M_adds_30 : decode am_M_adds.2.1 30 = .ok (.iconst 1, 1) := by decide +kernel
theorem de_M_adds_31 : decode am_M_adds.2.1 31 = .ok (.ireturn, 1) := by decide +kernel
theorem de_M_part0_0 : decode am_M_part0.2.1 0 = .ok (.aload_n 0, 1) := by decide +kernel
theorem de_M_part0_1 : decode am_M_part0.2.1 1 = .ok (.getfield 125, 3) := by decide +kernel
theorem de_M_part0_4 : decode am_M_part0.2.1 4 = .ok (.aload_n 0, 1) := by decide +kernel
theorem de_M_part0_5 : decode am_M_part0.2.1 5 = .ok (.getfield 128, 3) := by decide +kernel
theorem de_M_part0_8 : decode am_M_part0.2.1 8 = .ok (.if_icmp .ge (10), 3) := by decide +kernel
theorem de_M_part0_11 : decode am_M_part0.2.1 11 = .ok (.aload_n 0, 1) := by decide +kernel
theorem de_M_part0_12 : decode am_M_part0.2.1 12 = .ok (.invokevirtual 141, 3) := by decide +kernel
theorem de_M_part0_15 : decode am_M_part0.2.1 15 = .ok (.goto (4), 3) := by decide +kernel
theorem de_M_part0_18 : decode am_M_part0.2.1 18 = .ok (.iconst (-1), 1) := by decide +kernel
theorem de_M_part0_19 : decode am_M_part0.2.1 19 = .ok (.istore_n 1, 1) := by decide +kernel
theorem de_M_part0_20 : decode am_M_part0.2.1 20 = .ok (.aload_n 0, 1) := by decide +kernel
theorem de_M_part0_21 : decode am_M_part0.2.1 21 = .ok (.getfield 125, 3) := by decide +kernel
theorem de_M_part0_24 : decode am_M_part0.2.1 24 = .ok (.aload_n 0, 1) := by decide +kernel
theorem de_M_part0_25 : decode am_M_part0.2.1 25 = .ok (.getfield 128, 3) := by decide +kernel
theorem de_M_part0_28 : decode am_M_part0.2.1 28 = .ok (.if_icmp .ge (190), 3) := by decide +kernel
theorem de_M_part0_31 : decode am_M_part0.2.1 31 = .ok (.iload_n 1, 1) := by decide +kernel
theorem de_M_part0_32 : decode am_M_part0.2.1 32 = .ok (.bipush (115), 2) := by decide +kernel
theorem de_M_part0_34 : decode am_M_part0.2.1 34 = .ok (.if_icmp .eq (9), 3) := by decide +kernel
theorem de_M_part0_37 : decode am_M_part0.2.1 37 = .ok (.iload_n 1, 1) := by decide +kernel
theorem de_M_part0_38 : decode am_M_part0.2.1 38 = .ok (.bipush (106), 2) := by decide +kernel
theorem de_M_part0_40 : decode am_M_part0.2.1 40 = .ok (.if_icmp .ne (178), 3) := by decide +kernel
theorem de_M_part0_43 : decode am_M_part0.2.1 43 = .ok (.aload_n 0, 1) := by decide +kernel
theorem de_M_part0_44 : decode am_M_part0.2.1 44 = .ok (.dup, 1) := by decide +kernel
theorem de_M_part0_45 : decode am_M_part0.2.1 45 = .ok (.getfield 125, 3) := by decide +kernel
theorem de_M_part0_48 : decode am_M_part0.2.1 48 = .ok (.iconst 1, 1) := by decide +kernel
theorem de_M_part0_49 : decode am_M_part0.2.1 49 = .ok (.iadd, 1) := by decide +kernel
theorem de_M_part0_50 : decode am_M_part0.2.1 50 = .ok (.putfield 125, 3) := by decide +kernel
theorem de_M_part0_53 : decode am_M_part0.2.1 53 = .ok (.iload_n 1, 1) := by decide +kernel
theorem de_M_part0_54 : decode am_M_part0.2.1 54 = .ok (.bipush (115), 2) := by decide +kernel
theorem de_M_part0_56 : decode am_M_part0.2.1 56 = .ok (.if_icmp .ne (41), 3) := by decide +kernel
theorem de_M_part0_59 : decode am_M_part0.2.1 59 = .ok (.aload_n 0, 1) := by decide +kernel
theorem de_M_part0_60 : decode am_M_part0.2.1 60 = .ok (.bipush (116), 2) := by decide +kernel
theorem de_M_part0_62 : decode am_M_part0.2.1 62 = .ok (.invokevirtual 151, 3) := by decide +kernel
theorem de_M_part0_65 : decode am_M_part0.2.1 65 = .ok (.ifCond .eq (30), 3) := by decide +kernel
theorem de_M_part0_68 : decode am_M_part0.2.1 68 = .ok (.aload_n 0, 1) := by decide +kernel
theorem de_M_part0_69 : decode am_M_part0.2.1 69 = .ok (.bipush (101), 2) := by decide +kernel
theorem de_M_part0_71 : decode am_M_part0.2.1 71 = .ok (.invokevirtual 151, 3) := by decide +kernel
theorem de_M_part0_74 : decode am_M_part0.2.1 74 = .ok (.ifCond .eq (21), 3) := by decide +kernel
theorem de_M_part0_77 : decode am_M_part0.2.1 77 = .ok (.aload_n 0, 1) := by decide +kernel
theorem de_M_part0_78 : decode am_M_part0.2.1 78 = .ok (.bipush (112), 2) := by decide +kernel
theorem de_M_part0_80 : decode am_M_part0.2.1 80 = .ok (.invokevirtual 151, 3) := by decide +kernel
theorem de_M_part0_83 : decode am_M_part0.2.1 83 = .ok (.ifCond .eq (12), 3) := by decide +kernel
theorem de_M_part0_86 : decode am_M_part0.2.1 86 = .ok (.aload_n 0, 1) := by decide +kernel
theorem de_M_part0_87 : decode am_M_part0.2.1 87 = .ok (.bipush (32), 2) := by decide +kernel
theorem de_M_part0_89 : decode am_M_part0.2.1 89 = .ok (.invokevirtual 151, 3) := by decide +kernel
theorem de_M_part0_92 : decode am_M_part0.2.1 92 = .ok (.ifCond .ne (5), 3) := by decide +kernel
theorem de_M_part0_95 : decode am_M_part0.2.1 95 = .ok (.iconst 0, 1) := by decide +kernel
theorem de_M_part0_96 : decode am_M_part0.2.1 96 = .ok (.ireturn, 1) := by decide +kernel
theorem de_M_part0_97 : decode am_M_part0.2.1 97 = .ok (.iload_n 1, 1) := by decide +kernel
theorem de_M_part0_98 : decode am_M_part0.2.1 98 = .ok (.bipush (106), 2) := by decide +kernel
theorem de_M_part0_100 : decode am_M_part0.2.1 100 = .ok (.if_icmp .ne (41), 3) := by decide +kernel
theorem de_M_part0_103 : decode am_M_part0.2.1 103 = .ok (.aload_n 0, 1) := by decide +kernel
theorem de_M_part0_104 : decode am_M_part0.2.1 104 = .ok (.bipush (117), 2) := by decide +kernel
theorem de_M_part0_106 : decode am_M_part0.2.1 106 = .ok (.invokevirtual 151, 3) := by decide +kernel
theorem de_M_part0_109 : decode am_M_part0.2.1 109 = .ok (.ifCond .eq (30), 3) := by decide +kernel
theorem de_M_part0_112 : decode am_M_part0.2.1 112 = .ok (.aload_n 0, 1) := by decide +kernel
theorem de_M_part0_113 : decode am_M_part0.2.1 113 = .ok (.bipush (109), 2) := by decide +kernel
theorem de_M_part0_115 : decode am_M_part0.2.1 115 = .ok (.invokevirtual 151, 3) := by decide +kernel
theorem de_M_part0_118 : decode am_M_part0.2.1 118 = .ok (.ifCond .eq (21), 3) := by decide +kernel
theorem de_M_part0_121 : decode am_M_part0.2.1 121 = .ok (.aload_n 0, 1) := by decide +kernel
theorem de_M_part0_122 : decode am_M_part0.2.1 122 = .ok (.bipush (112), 2) := by decide +kernel
theorem de_M_part0_124 : decode am_M_part0.2.1 124 = .ok (.invokevirtual 151, 3) := by decide +kernel
theorem de_M_part0_127 : decode am_M_part0.2.1 127 = .ok (.ifCond .eq (12), 3) := by decide +kernel
theorem de_M_part0_130 : decode am_M_part0.2.1 130 = .ok (.aload_n 0, 1) := by decide +kernel
theorem de_M_part0_131 : decode am_M_part0.2.1 131 = .ok (.bipush (32), 2) := by decide +kernel
theorem de_M_part0_133 : decode am_M_part0.2.1 133 = .ok (.invokevirtual 151, 3) := by decide +kernel
theorem de_M_part0_136 : decode am_M_part0.2.1 136 = .ok (.ifCond .ne (5), 3) := by decide +kernel
theorem de_M_part0_139 : decode am_M_part0.2.1 139 = .ok (.iconst 0, 1) := by decide +kernel
theorem de_M_part0_140 : decode am_M_part0.2.1 140 = .ok (.ireturn, 1) := by decide +kernel
theorem de_M_part0_141 : decode am_M_part0.2.1 141 = .ok (.aload_n 0, 1) := by decide +kernel
theorem de_M_part0_142 : decode am_M_part0.2.1 142 = .ok (.getfield 125, 3) := by decide +kernel
theorem de_M_part0_145 : decode am_M_part0.2.1 145 = .ok (.aload_n 0, 1) := by decide +kernel
theorem de_M_part0_146 : decode am_M_part0.2.1 146 = .ok (.getfield 128, 3) := by decide +kernel
theorem de_M_part0_149 : decode am_M_part0.2.1 149 = .ok (.if_icmp .ge (21), 3) := by decide +kernel
theorem de_M_part0_152 : decode am_M_part0.2.1 152 = .ok (.aload_n 0, 1) := by decide +kernel
theorem de_M_part0_153 : decode am_M_part0.2.1 153 = .ok (.invokevirtual 141, 3) := by decide +kernel
theorem de_M_part0_156 : decode am_M_part0.2.1 156 = .ok (.bipush (48), 2) := by decide +kernel
theorem de_M_part0_158 : decode am_M_part0.2.1 158 = .ok (.if_icmp .lt (12), 3) := by decide +kernel
theorem de_M_part0_161 : decode am_M_part0.2.1 161 = .ok (.aload_n 0, 1) := by decide +kernel
theorem de_M_part0_162 : decode am_M_part0.2.1 162 = .ok (.invokevirtual 141, 3) := by decide +kernel
theorem de_M_part0_165 : decode am_M_part0.2.1 165 = .ok (.bipush (50), 2) := by decide +kernel
theorem de_M_part0_167 : decode am_M_part0.2.1 167 = .ok (.if_icmp .le (12), 3) := by decide +kernel
theorem de_M_part0_170 : decode am_M_part0.2.1 170 = .ok (.aload_n 0, 1) := by decide +kernel
theorem de_M_part0_171 : decode am_M_part0.2.1 171 = .ok (.aload_n 0, 1) := by decide +kernel
theorem de_M_part0_172 : decode am_M_part0.2.1 172 = .ok (.getfield 125, 3) := by decide +kernel
theorem de_M_part0_175 : decode am_M_part0.2.1 175 = .ok (.invokevirtual 145, 3) := by decide +kernel
theorem de_M_part0_178 : decode am_M_part0.2.1 178 = .ok (.ireturn, 1) := by decide +kernel
theorem de_M_part0_179 : decode am_M_part0.2.1 179 = .ok (.iconst 1, 1) := by decide +kernel
theorem de_M_part0_180 : decode am_M_part0.2.1 180 = .ok (.aload_n 0, 1) := by decide +kernel
theorem de_M_part0_181 : decode am_M_part0.2.1 181 = .ok (.invokevirtual 141, 3) := by decide +kernel
theorem de_M_part0_184 : decode am_M_part0.2.1 184 = .ok (.bipush (48), 2) := by decide +kernel
theorem de_M_part0_186 : decode am_M_part0.2.1 186 = .ok (.isub, 1) := by decide +kernel
theorem de_M_part0_187 : decode am_M_part0.2.1 187 = .ok (.iload_n 1, 1) := by decide +kernel
theorem de_M_part0_188 : decode am_M_part0.2.1 188 = .ok (.bipush (115), 2) := by decide +kernel
theorem de_M_part0_190 : decode am_M_part0.2.1 190 = .ok (.if_icmp .ne (7), 3) := by decide +kernel
theorem de_M_part0_193 : decode am_M_part0.2.1 193 = .ok (.iconst 0, 1) := by decide +kernel
theorem de_M_part0_194 : decode am_M_part0.2.1 194 = .ok (.goto (4), 3) := by decide +kernel
theorem de_M_part0_197 : decode am_M_part0.2.1 197 = .ok (.iconst 3, 1) := by decide +kernel
theorem de_M_part0_198 : decode am_M_part0.2.1 198 = .ok (.iadd, 1) := by decide +kernel
theorem de_M_part0_199 : decode am_M_part0.2.1 199 = .ok (.ishl, 1) := by decide +kernel
theorem de_M_part0_200 : decode am_M_part0.2.1 200 = .ok (.istore_n 2, 1) := by decide +kernel
theorem de_M_part0_201 : decode am_M_part0.2.1 201 = .ok (.aload_n 0, 1) := by decide +kernel
theorem de_M_part0_202 : decode am_M_part0.2.1 202 = .ok (.dup, 1) := by decide +kernel
theorem de_M_part0_203 : decode am_M_part0.2.1 203 = .ok (.getfield 125, 3) := by decide +kernel
theorem de_M_part0_206 : decode am_M_part0.2.1 206 = .ok (.iconst 1, 1) := by decide +kernel
theorem de_M_part0_207 : decode am_M_part0.2.1 207 = .ok (.iadd, 1) := by decide +kernel
theorem de_M_part0_208 : decode am_M_part0.2.1 208 = .ok (.putfield 125, 3) := by decide +kernel
theorem de_M_part0_211 : decode am_M_part0.2.1 211 = .ok (.aload_n 0, 1) := by decide +kernel
theorem de_M_part0_212 : decode am_M_part0.2.1 212 = .ok (.iload_n 2, 1) := by decide +kernel
theorem de_M_part0_213 : decode am_M_part0.2.1 213 = .ok (.iload_n 2, 1) := by decide +kernel
theorem de_M_part0_214 : decode am_M_part0.2.1 214 = .ok (.invokevirtual 154, 3) := by decide +kernel
theorem de_M_part0_217 : decode am_M_part0.2.1 217 = .ok (.ireturn, 1) := by decide +kernel
theorem de_M_part0_218 : decode am_M_part0.2.1 218 = .ok (.aload_n 0, 1) := by decide +kernel
theorem de_M_part0_219 : decode am_M_part0.2.1 219 = .ok (.getfield 125, 3) := by decide +kernel
theorem de_M_part0_222 : decode am_M_part0.2.1 222 = .ok (.aload_n 0, 1) := by decide +kernel
theorem de_M_part0_223 : decode am_M_part0.2.1 223 = .ok (.getfield 128, 3) := by decide +kernel
theorem de_M_part0_226 : decode am_M_part0.2.1 226 = .ok (.if_icmp .ge (54), 3) := by decide +kernel
theorem de_M_part0_229 : decode am_M_part0.2.1 229 = .ok (.iload_n 1, 1) := by decide +kernel
theorem de_M_part0_230 : decode am_M_part0.2.1 230 = .ok (.bipush (112), 2) := by decide +kernel
theorem de_M_part0_232 : decode am_M_part0.2.1 232 = .ok (.if_icmp .ne (48), 3) := by decide +kernel
theorem de_M_part0_235 : decode am_M_part0.2.1 235 = .ok (.aload_n 0, 1) := by decide +kernel
theorem de_M_part0_236 : decode am_M_part0.2.1 236 = .ok (.dup, 1) := by decide +kernel
theorem de_M_part0_237 : decode am_M_part0.2.1 237 = .ok (.getfield 125, 3) := by decide +kernel
theorem de_M_part0_240 : decode am_M_part0.2.1 240 = .ok (.iconst 1, 1) := by decide +kernel
theorem de_M_part0_241 : decode am_M_part0.2.1 241 = .ok (.iadd, 1) := by decide +kernel
theorem de_M_part0_242 : decode am_M_part0.2.1 242 = .ok (.putfield 125, 3) := by decide +kernel
theorem de_M_part0_245 : decode am_M_part0.2.1 245 = .ok (.aload_n 0, 1) := by decide +kernel
theorem de_M_part0_246 : decode am_M_part0.2.1 246 = .ok (.bipush (117), 2) := by decide +kernel
theorem de_M_part0_248 : decode am_M_part0.2.1 248 = .ok (.invokevirtual 151, 3) := by decide +kernel
theorem de_M_part0_251 : decode am_M_part0.2.1 251 = .ok (.ifCond .eq (27), 3) := by decide +kernel
theorem de_M_part0_254 : decode am_M_part0.2.1 254 = .ok (.aload_n 0, 1) := by decide +kernel
theorem de_M_part0_255 : decode am_M_part0.2.1 255 = .ok (.bipush (116), 2) := by decide +kernel
theorem de_M_part0_257 : decode am_M_part0.2.1 257 = .ok (.invokevirtual 151, 3) := by decide +kernel
theorem de_M_part0_260 : decode am_M_part0.2.1 260 = .ok (.ifCond .eq (18), 3) := by decide +kernel
theorem de_M_part0_263 : decode am_M_part0.2.1 263 = .ok (.aload_n 0, 1) := by decide +kernel
theorem de_M_part0_264 : decode am_M_part0.2.1 264 = .ok (.bipush (64), 2) := by decide +kernel
theorem de_M_part0_266 : decode am_M_part0.2.1 266 = .ok (.bipush (64), 2) := by decide +kernel
theorem de_M_part0_268 : decode am_M_part0.2.1 268 = .ok (.invokevirtual 154, 3) := by decide +kernel
theorem de_M_part0_271 : decode am_M_part0.2.1 271 = .ok (.ifCond .eq (7), 3) := by decide +kernel
theorem de_M_part0_274 : decode am_M_part0.2.1 274 = .ok (.iconst 1, 1) := by decide +kernel
theorem de_M_part0_275 : decode am_M_part0.2.1 275 = .ok (.goto (4), 3) := by decide +kernel
theorem de_M_part0_278 : decode am_M_part0.2.1 278 = .ok (.iconst 0, 1) := by decide +kernel
theorem de_M_part0_279 : decode am_M_part0.2.1 279 = .ok (.ireturn, 1) := by decide +kernel
theorem de_M_part0_280 : decode am_M_part0.2.1 280 = .ok (.aload_n 0, 1) := by decide +kernel
theorem de_M_part0_281 : decode am_M_part0.2.1 281 = .ok (.getfield 125, 3) := by decide +kernel
theorem de_M_part0_284 : decode am_M_part0.2.1 284 = .ok (.aload_n 0, 1) := by decide +kernel
theorem de_M_part0_285 : decode am_M_part0.2.1 285 = .ok (.getfield 128, 3) := by decide +kernel
theorem de_M_part0_288 : decode am_M_part0.2.1 288 = .ok (.if_icmp .ge (65), 3) := by decide +kernel
theorem de_M_part0_291 : decode am_M_part0.2.1 291 = .ok (.iload_n 1, 1) := by decide +kernel
theorem de_M_part0_292 : decode am_M_part0.2.1 292 = .ok (.bipush (116), 2) := by decide +kernel
theorem de_M_part0_294 : decode am_M_part0.2.1 294 = .ok (.if_icmp .ne (59), 3) := by decide +kernel
theorem de_M_part0_297 : decode am_M_part0.2.1 297 = .ok (.aload_n 0, 1) := by decide +kernel
theorem de_M_part0_298 : decode am_M_part0.2.1 298 = .ok (.dup, 1) := by decide +kernel
