theorem dX7_image_0 : decode cX7_image 0 = .ok (.iload_n 1, 1) := by decide +kernel
theorem dX7_image_1 : decode cX7_image 1 = .ok (.iconst 0, 1) := by decide +kernel
theorem dX7_image_2 : decode cX7_image 2 = .ok (.iconst 1, 1) := by decide +kernel
theorem dX7_image_3 : decode cX7_image 3 = .ok (.invokestatic 99, 3) := by decide +kernel
theorem dX7_image_6 : decode cX7_image 6 = .ok (.ifCond .ne 6, 3) := by decide +kernel
theorem dX7_image_9 : decode cX7_image 9 = .ok (.bipush (-2), 2) := by decide +kernel
theorem dX7_image_11 : decode cX7_image 11 = .ok (.ireturn, 1) := by decide +kernel
theorem dX7_image_12 : decode cX7_image 12 = .ok (.bipush 100, 2) := by decide +kernel
theorem dX7_image_14 : decode cX7_image 14 = .ok (.iload_n 1, 1) := by decide +kernel
theorem dX7_image_15 : decode cX7_image 15 = .ok (.imul, 1) := by decide +kernel
theorem dX7_image_16 : decode cX7_image 16 = .ok (.istore_n 2, 1) := by decide +kernel
theorem dX7_image_17 : decode cX7_image 17 = .ok (.iconst 0, 1) := by decide +kernel
theorem dX7_image_18 : decode cX7_image 18 = .ok (.istore_n 3, 1) := by decide +kernel
theorem dX7_image_19 : decode cX7_image 19 = .ok (.iload_n 3, 1) := by decide +kernel
theorem dX7_image_20 : decode cX7_image 20 = .ok (.bipush 24, 2) := by decide +kernel
theorem dX7_image_22 : decode cX7_image 22 = .ok (.if_icmp .ge 23, 3) := by decide +kernel
theorem dX7_image_25 : decode cX7_image 25 = .ok (.aload_n 0, 1) := by decide +kernel
theorem dX7_image_26 : decode cX7_image 26 = .ok (.getfield 52, 3) := by decide +kernel
theorem dX7_image_29 : decode cX7_image 29 = .ok (.iload_n 2, 1) := by decide +kernel
theorem dX7_image_30 : decode cX7_image 30 = .ok (.iload_n 3, 1) := by decide +kernel
theorem dX7_image_31 : decode cX7_image 31 = .ok (.iadd, 1) := by decide +kernel
theorem dX7_image_32 : decode cX7_image 32 = .ok (.aload_n 0, 1) := by decide +kernel
theorem dX7_image_33 : decode cX7_image 33 = .ok (.getfield 13, 3) := by decide +kernel
theorem dX7_image_36 : decode cX7_image 36 = .ok (.iload_n 3, 1) := by decide +kernel
theorem dX7_image_37 : decode cX7_image 37 = .ok (.iaload, 1) := by decide +kernel
theorem dX7_image_38 : decode cX7_image 38 = .ok (.iastore, 1) := by decide +kernel
theorem dX7_image_39 : decode cX7_image 39 = .ok (.iinc 3 1, 3) := by decide +kernel
theorem dX7_image_42 : decode cX7_image 42 = .ok (.goto (-23), 3) := by decide +kernel
theorem dX7_image_45 : decode cX7_image 45 = .ok (.iconst 0, 1) := by decide +kernel
theorem dX7_image_46 : decode cX7_image 46 = .ok (.istore_n 3, 1) := by decide +kernel
theorem dX7_image_47 : decode cX7_image 47 = .ok (.iload_n 3, 1) := by decide +kernel
theorem dX7_image_48 : decode cX7_image 48 = .ok (.bipush 6, 2) := by decide +kernel
theorem dX7_image_50 : decode cX7_image 50 = .ok (.if_icmp .ge 60, 3) := by decide +kernel
theorem dX7_image_53 : decode cX7_image 53 = .ok (.aload_n 0, 1) := by decide +kernel
theorem dX7_image_54 : decode cX7_image 54 = .ok (.getfield 52, 3) := by decide +kernel
theorem dX7_image_57 : decode cX7_image 57 = .ok (.iload_n 2, 1) := by decide +kernel
theorem dX7_image_58 : decode cX7_image 58 = .ok (.bipush 24, 2) := by decide +kernel
theorem dX7_image_60 : decode cX7_image 60 = .ok (.iadd, 1) := by decide +kernel
theorem dX7_image_61 : decode cX7_image 61 = .ok (.iload_n 3, 1) := by decide +kernel
theorem dX7_image_62 : decode cX7_image 62 = .ok (.iadd, 1) := by decide +kernel
theorem dX7_image_63 : decode cX7_image 63 = .ok (.aload_n 0, 1) := by decide +kernel
theorem dX7_image_64 : decode cX7_image 64 = .ok (.getfield 17, 3) := by decide +kernel
theorem dX7_image_67 : decode cX7_image 67 = .ok (.iload_n 3, 1) := by decide +kernel
theorem dX7_image_68 : decode cX7_image 68 = .ok (.iaload, 1) := by decide +kernel
theorem dX7_image_69 : decode cX7_image 69 = .ok (.iastore, 1) := by decide +kernel
theorem dX7_image_70 : decode cX7_image 70 = .ok (.aload_n 0, 1) := by decide +kernel
theorem dX7_image_71 : decode cX7_image 71 = .ok (.getfield 52, 3) := by decide +kernel
theorem dX7_image_74 : decode cX7_image 74 = .ok (.iload_n 2, 1) := by decide +kernel
theorem dX7_image_75 : decode cX7_image 75 = .ok (.bipush 30, 2) := by decide +kernel
theorem dX7_image_77 : decode cX7_image 77 = .ok (.iadd, 1) := by decide +kernel
theorem dX7_image_78 : decode cX7_image 78 = .ok (.iload_n 3, 1) := by decide +kernel
theorem dX7_image_79 : decode cX7_image 79 = .ok (.iadd, 1) := by decide +kernel
theorem dX7_image_80 : decode cX7_image 80 = .ok (.aload_n 0, 1) := by decide +kernel
theorem dX7_image_81 : decode cX7_image 81 = .ok (.getfield 30, 3) := by decide +kernel
theorem dX7_image_84 : decode cX7_image 84 = .ok (.iload_n 3, 1) := by decide +kernel
theorem dX7_image_85 : decode cX7_image 85 = .ok (.iaload, 1) := by decide +kernel
theorem dX7_image_86 : decode cX7_image 86 = .ok (.iastore, 1) := by decide +kernel
theorem dX7_image_87 : decode cX7_image 87 = .ok (.aload_n 0, 1) := by decide +kernel
theorem dX7_image_88 : decode cX7_image 88 = .ok (.getfield 55, 3) := by decide +kernel
theorem dX7_image_91 : decode cX7_image 91 = .ok (.bipush 7, 2) := by decide +kernel
theorem dX7_image_93 : decode cX7_image 93 = .ok (.iload_n 1, 1) := by decide +kernel
theorem dX7_image_94 : decode cX7_image 94 = .ok (.imul, 1) := by decide +kernel
theorem dX7_image_95 : decode cX7_image 95 = .ok (.iload_n 3, 1) := by decide +kernel
theorem dX7_image_96 : decode cX7_image 96 = .ok (.iadd, 1) := by decide +kernel
theorem dX7_image_97 : decode cX7_image 97 = .ok (.aload_n 0, 1) := by decide +kernel
theorem dX7_image_98 : decode cX7_image 98 = .ok (.getfield 26, 3) := by decide +kernel
theorem dX7_image_101 : decode cX7_image 101 = .ok (.iload_n 3, 1) := by decide +kernel
theorem dX7_image_102 : decode cX7_image 102 = .ok (.laload, 1) := by decide +kernel
theorem dX7_image_103 : decode cX7_image 103 = .ok (.lastore, 1) := by decide +kernel
theorem dX7_image_104 : decode cX7_image 104 = .ok (.iinc 3 1, 3) := by decide +kernel
theorem dX7_image_107 : decode cX7_image 107 = .ok (.goto (-60), 3) := by decide +kernel
theorem dX7_image_110 : decode cX7_image 110 = .ok (.iconst 0, 1) := by decide +kernel
theorem dX7_image_111 : decode cX7_image 111 = .ok (.istore_n 3, 1) := by decide +kernel
theorem dX7_image_112 : decode cX7_image 112 = .ok (.iload_n 3, 1) := by decide +kernel
theorem dX7_image_113 : decode cX7_image 113 = .ok (.iconst 4, 1) := by decide +kernel
theorem dX7_image_114 : decode cX7_image 114 = .ok (.if_icmp .ge 26, 3) := by decide +kernel
theorem dX7_image_117 : decode cX7_image 117 = .ok (.aload_n 0, 1) := by decide +kernel
theorem dX7_image_118 : decode cX7_image 118 = .ok (.getfield 52, 3) := by decide +kernel
theorem dX7_image_121 : decode cX7_image 121 = .ok (.iload_n 2, 1) := by decide +kernel
theorem dX7_image_122 : decode cX7_image 122 = .ok (.bipush 36, 2) := by decide +kernel
theorem dX7_image_124 : decode cX7_image 124 = .ok (.iadd, 1) := by decide +kernel
theorem dX7_image_125 : decode cX7_image 125 = .ok (.iload_n 3, 1) := by decide +kernel
theorem dX7_image_126 : decode cX7_image 126 = .ok (.iadd, 1) := by decide +kernel
theorem dX7_image_127 : decode cX7_image 127 = .ok (.aload_n 0, 1) := by decide +kernel
theorem dX7_image_128 : decode cX7_image 128 = .ok (.getfield 20, 3) := by decide +kernel
theorem dX7_image_131 : decode cX7_image 131 = .ok (.iload_n 3, 1) := by decide +kernel
theorem dX7_image_132 : decode cX7_image 132 = .ok (.iaload, 1) := by decide +kernel
theorem dX7_image_133 : decode cX7_image 133 = .ok (.iastore, 1) := by decide +kernel
theorem dX7_image_134 : decode cX7_image 134 = .ok (.iinc 3 1, 3) := by decide +kernel
theorem dX7_image_137 : decode cX7_image 137 = .ok (.goto (-25), 3) := by decide +kernel
theorem dX7_image_140 : decode cX7_image 140 = .ok (.iconst 0, 1) := by decide +kernel
theorem dX7_image_141 : decode cX7_image 141 = .ok (.istore_n 3, 1) := by decide +kernel
theorem dX7_image_142 : decode cX7_image 142 = .ok (.iload_n 3, 1) := by decide +kernel
theorem dX7_image_143 : decode cX7_image 143 = .ok (.bipush 16, 2) := by decide +kernel
theorem dX7_image_145 : decode cX7_image 145 = .ok (.if_icmp .ge 26, 3) := by decide +kernel
theorem dX7_image_148 : decode cX7_image 148 = .ok (.aload_n 0, 1) := by decide +kernel
theorem dX7_image_149 : decode cX7_image 149 = .ok (.getfield 52, 3) := by decide +kernel
theorem dX7_image_152 : decode cX7_image 152 = .ok (.iload_n 2, 1) := by decide +kernel
theorem dX7_image_153 : decode cX7_image 153 = .ok (.bipush 40, 2) := by decide +kernel
theorem dX7_image_155 : decode cX7_image 155 = .ok (.iadd, 1) := by decide +kernel
theorem dX7_image_156 : decode cX7_image 156 = .ok (.iload_n 3, 1) := by decide +kernel
theorem dX7_image_157 : decode cX7_image 157 = .ok (.iadd, 1) := by decide +kernel
theorem dX7_image_158 : decode cX7_image 158 = .ok (.aload_n 0, 1) := by decide +kernel
theorem dX7_image_159 : decode cX7_image 159 = .ok (.getfield 23, 3) := by decide +kernel
theorem dX7_image_162 : decode cX7_image 162 = .ok (.iload_n 3, 1) := by decide +kernel
theorem dX7_image_163 : decode cX7_image 163 = .ok (.iaload, 1) := by decide +kernel
theorem dX7_image_164 : decode cX7_image 164 = .ok (.iastore, 1) := by decide +kernel
theorem dX7_image_165 : decode cX7_image 165 = .ok (.iinc 3 1, 3) := by decide +kernel
theorem dX7_image_168 : decode cX7_image 168 = .ok (.goto (-26), 3) := by decide +kernel
theorem dX7_image_171 : decode cX7_image 171 = .ok (.iconst 0, 1) := by decide +kernel
theorem dX7_image_172 : decode cX7_image 172 = .ok (.istore_n 3, 1) := by decide +kernel
theorem dX7_image_173 : decode cX7_image 173 = .ok (.iload_n 3, 1) := by decide +kernel
theorem dX7_image_174 : decode cX7_image 174 = .ok (.bipush 12, 2) := by decide +kernel
theorem dX7_image_176 : decode cX7_image 176 = .ok (.if_icmp .ge 26, 3) := by decide +kernel
theorem dX7_image_179 : decode cX7_image 179 = .ok (.aload_n 0, 1) := by decide +kernel
theorem dX7_image_180 : decode cX7_image 180 = .ok (.getfield 52, 3) := by decide +kernel
theorem dX7_image_183 : decode cX7_image 183 = .ok (.iload_n 2, 1) := by decide +kernel
theorem dX7_image_184 : decode cX7_image 184 = .ok (.bipush 56, 2) := by decide +kernel
theorem dX7_image_186 : decode cX7_image 186 = .ok (.iadd, 1) := by decide +kernel
theorem dX7_image_187 : decode cX7_image 187 = .ok (.iload_n 3, 1) := by decide +kernel
theorem dX7_image_188 : decode cX7_image 188 = .ok (.iadd, 1) := by decide +kernel
theorem dX7_image_189 : decode cX7_image 189 = .ok (.aload_n 0, 1) := by decide +kernel
theorem dX7_image_190 : decode cX7_image 190 = .ok (.getfield 33, 3) := by decide +kernel
theorem dX7_image_193 : decode cX7_image 193 = .ok (.iload_n 3, 1) := by decide +kernel
theorem dX7_image_194 : decode cX7_image 194 = .ok (.iaload, 1) := by decide +kernel
theorem dX7_image_195 : decode cX7_image 195 = .ok (.iastore, 1) := by decide +kernel
theorem dX7_image_196 : decode cX7_image 196 = .ok (.iinc 3 1, 3) := by decide +kernel
theorem dX7_image_199 : decode cX7_image 199 = .ok (.goto (-26), 3) := by decide +kernel
theorem dX7_image_202 : decode cX7_image 202 = .ok (.aload_n 0, 1) := by decide +kernel
theorem dX7_image_203 : decode cX7_image 203 = .ok (.getfield 52, 3) := by decide +kernel
theorem dX7_image_206 : decode cX7_image 206 = .ok (.iload_n 2, 1) := by decide +kernel
theorem dX7_image_207 : decode cX7_image 207 = .ok (.bipush 68, 2) := by decide +kernel
theorem dX7_image_209 : decode cX7_image 209 = .ok (.iadd, 1) := by decide +kernel
theorem dX7_image_210 : decode cX7_image 210 = .ok (.aload_n 0, 1) := by decide +kernel
theorem dX7_image_211 : decode cX7_image 211 = .ok (.getfield 7, 3) := by decide +kernel
theorem dX7_image_214 : decode cX7_image 214 = .ok (.iastore, 1) := by decide +kernel
theorem dX7_image_215 : decode cX7_image 215 = .ok (.aload_n 0, 1) := by decide +kernel
theorem dX7_image_216 : decode cX7_image 216 = .ok (.getfield 52, 3) := by decide +kernel
theorem dX7_image_219 : decode cX7_image 219 = .ok (.iload_n 2, 1) := by decide +kernel
theorem dX7_image_220 : decode cX7_image 220 = .ok (.bipush 69, 2) := by decide +kernel
theorem dX7_image_222 : decode cX7_image 222 = .ok (.iadd, 1) := by decide +kernel
theorem dX7_image_223 : decode cX7_image 223 = .ok (.aload_n 0, 1) := by decide +kernel
theorem dX7_image_224 : decode cX7_image 224 = .ok (.getfield 64, 3) := by decide +kernel
theorem dX7_image_227 : decode cX7_image 227 = .ok (.iastore, 1) := by decide +kernel
theorem dX7_image_228 : decode cX7_image 228 = .ok (.aload_n 0, 1) := by decide +kernel
theorem dX7_image_229 : decode cX7_image 229 = .ok (.getfield 52, 3) := by decide +kernel
theorem dX7_image_232 : decode cX7_image 232 = .ok (.iload_n 2, 1) := by decide +kernel
theorem dX7_image_233 : decode cX7_image 233 = .ok (.bipush 70, 2) := by decide +kernel
theorem dX7_image_235 : decode cX7_image 235 = .ok (.iadd, 1) := by decide +kernel
theorem dX7_image_236 : decode cX7_image 236 = .ok (.aload_n 0, 1) := by decide +kernel
theorem dX7_image_237 : decode cX7_image 237 = .ok (.getfield 67, 3) := by decide +kernel
theorem dX7_image_240 : decode cX7_image 240 = .ok (.iastore, 1) := by decide +kernel
theorem dX7_image_241 : decode cX7_image 241 = .ok (.aload_n 0, 1) := by decide +kernel
theorem dX7_image_242 : decode cX7_image 242 = .ok (.getfield 52, 3) := by decide +kernel
theorem dX7_image_245 : decode cX7_image 245 = .ok (.iload_n 2, 1) := by decide +kernel
theorem dX7_image_246 : decode cX7_image 246 = .ok (.bipush 71, 2) := by decide +kernel
theorem dX7_image_248 : decode cX7_image 248 = .ok (.iadd, 1) := by decide +kernel
theorem dX7_image_249 : decode cX7_image 249 = .ok (.aload_n 0, 1) := by decide +kernel
theorem dX7_image_250 : decode cX7_image 250 = .ok (.getfield 70, 3) := by decide +kernel
theorem dX7_image_253 : decode cX7_image 253 = .ok (.iastore, 1) := by decide +kernel
theorem dX7_image_254 : decode cX7_image 254 = .ok (.aload_n 0, 1) := by decide +kernel
theorem dX7_image_255 : decode cX7_image 255 = .ok (.getfield 52, 3) := by decide +kernel
theorem dX7_image_258 : decode cX7_image 258 = .ok (.iload_n 2, 1) := by decide +kernel
theorem dX7_image_259 : decode cX7_image 259 = .ok (.bipush 72, 2) := by decide +kernel
theorem dX7_image_261 : decode cX7_image 261 = .ok (.iadd, 1) := by decide +kernel
theorem dX7_image_262 : decode cX7_image 262 = .ok (.aload_n 0, 1) := by decide +kernel
theorem dX7_image_263 : decode cX7_image 263 = .ok (.getfield 73, 3) := by decide +kernel
theorem dX7_image_266 : decode cX7_image 266 = .ok (.iastore, 1) := by decide +kernel
theorem dX7_image_267 : decode cX7_image 267 = .ok (.aload_n 0, 1) := by decide +kernel
theorem dX7_image_268 : decode cX7_image 268 = .ok (.getfield 52, 3) := by decide +kernel
theorem dX7_image_271 : decode cX7_image 271 = .ok (.iload_n 2, 1) := by decide +kernel
theorem dX7_image_272 : decode cX7_image 272 = .ok (.bipush 73, 2) := by decide +kernel
theorem dX7_image_274 : decode cX7_image 274 = .ok (.iadd, 1) := by decide +kernel
theorem dX7_image_275 : decode cX7_image 275 = .ok (.aload_n 0, 1) := by decide +kernel
theorem dX7_image_276 : decode cX7_image 276 = .ok (.getfield 84, 3) := by decide +kernel
theorem dX7_image_279 : decode cX7_image 279 = .ok (.iastore, 1) := by decide +kernel
theorem dX7_image_280 : decode cX7_image 280 = .ok (.aload_n 0, 1) := by decide +kernel
theorem dX7_image_281 : decode cX7_image 281 = .ok (.getfield 52, 3) := by decide +kernel
theorem dX7_image_284 : decode cX7_image 284 = .ok (.iload_n 2, 1) := by decide +kernel
theorem dX7_image_285 : decode cX7_image 285 = .ok (.bipush 74, 2) := by decide +kernel
theorem dX7_image_287 : decode cX7_image 287 = .ok (.iadd, 1) := by decide +kernel
theorem dX7_image_288 : decode cX7_image 288 = .ok (.aload_n 0, 1) := by decide +kernel
theorem dX7_image_289 : decode cX7_image 289 = .ok (.getfield 87, 3) := by decide +kernel
theorem dX7_image_292 : decode cX7_image 292 = .ok (.iastore, 1) := by decide +kernel
theorem dX7_image_293 : decode cX7_image 293 = .ok (.aload_n 0, 1) := by decide +kernel
theorem dX7_image_294 : decode cX7_image 294 = .ok (.getfield 52, 3) := by decide +kernel
theorem dX7_image_297 : decode cX7_image 297 = .ok (.iload_n 2, 1) := by decide +kernel
theorem dX7_image_298 : decode cX7_image 298 = .ok (.bipush 75, 2) := by decide +kernel
theorem dX7_image_300 : decode cX7_image 300 = .ok (.iadd, 1) := by decide +kernel
theorem dX7_image_301 : decode cX7_image 301 = .ok (.aload_n 0, 1) := by decide +kernel
theorem dX7_image_302 : decode cX7_image 302 = .ok (.getfield 90, 3) := by decide +kernel
theorem dX7_image_305 : decode cX7_image 305 = .ok (.iastore, 1) := by decide +kernel
theorem dX7_image_306 : decode cX7_image 306 = .ok (.aload_n 0, 1) := by decide +kernel
theorem dX7_image_307 : decode cX7_image 307 = .ok (.getfield 55, 3) := by decide +kernel
theorem dX7_image_310 : decode cX7_image 310 = .ok (.bipush 7, 2) := by decide +kernel
theorem dX7_image_312 : decode cX7_image 312 = .ok (.iload_n 1, 1) := by decide +kernel
theorem dX7_image_313 : decode cX7_image 313 = .ok (.imul, 1) := by decide +kernel
theorem dX7_image_314 : decode cX7_image 314 = .ok (.bipush 6, 2) := by decide +kernel
theorem dX7_image_316 : decode cX7_image 316 = .ok (.iadd, 1) := by decide +kernel
theorem dX7_image_317 : decode cX7_image 317 = .ok (.aload_n 0, 1) := by decide +kernel
theorem dX7_image_318 : decode cX7_image 318 = .ok (.getfield 80, 3) := by decide +kernel
theorem dX7_image_321 : decode cX7_image 321 = .ok (.lastore, 1) := by decide +kernel
theorem dX7_image_322 : decode cX7_image 322 = .ok (.aload_n 0, 1) := by decide +kernel
theorem dX7_image_323 : decode cX7_image 323 = .ok (.getfield 58, 3) := by decide +kernel
theorem dX7_image_326 : decode cX7_image 326 = .ok (.iload_n 1, 1) := by decide +kernel
theorem dX7_image_327 : decode cX7_image 327 = .ok (.iconst 1, 1) := by decide +kernel
theorem dX7_image_328 : decode cX7_image 328 = .ok (.bastore, 1) := by decide +kernel
theorem dX7_image_329 : decode cX7_image 329 = .ok (.iconst 1, 1) := by decide +kernel
theorem dX7_image_330 : decode cX7_image 330 = .ok (.ireturn, 1) := by decide +kernel
theorem dX7_restore_0 : decode cX7_restore 0 = .ok (.iload_n 1, 1) := by decide +kernel
theorem dX7_restore_1 : decode cX7_restore 1 = .ok (.iconst 0, 1) := by decide +kernel
theorem dX7_restore_2 : decode cX7_restore 2 = .ok (.iconst 1, 1) := by decide +kernel
theorem dX7_restore_3 : decode cX7_restore 3 = .ok (.invokestatic 99, 3) := by decide +kernel
theorem dX7_restore_6 : decode cX7_restore 6 = .ok (.ifCond .ne 6, 3) := by decide +kernel
theorem dX7_restore_9 : decode cX7_restore 9 = .ok (.bipush (-2), 2) := by decide +kernel
theorem dX7_restore_11 : decode cX7_restore 11 = .ok (.ireturn, 1) := by decide +kernel
theorem dX7_restore_12 : decode cX7_restore 12 = .ok (.aload_n 0, 1) := by decide +kernel
theorem dX7_restore_13 : decode cX7_restore 13 = .ok (.getfield 58, 3) := by decide +kernel
theorem dX7_restore_16 : decode cX7_restore 16 = .ok (.iload_n 1, 1) := by decide +kernel
theorem dX7_restore_17 : decode cX7_restore 17 = .ok (.baload, 1) := by decide +kernel
theorem dX7_restore_18 : decode cX7_restore 18 = .ok (.ifCond .ne 6, 3) := by decide +kernel
theorem dX7_restore_21 : decode cX7_restore 21 = .ok (.bipush (-3), 2) := by decide +kernel
theorem dX7_restore_23 : decode cX7_restore 23 = .ok (.ireturn, 1) := by decide +kernel
theorem dX7_restore_24 : decode cX7_restore 24 = .ok (.bipush 100, 2) := by decide +kernel
theorem dX7_restore_26 : decode cX7_restore 26 = .ok (.iload_n 1, 1) := by decide +kernel
theorem dX7_restore_27 : decode cX7_restore 27 = .ok (.imul, 1) := by decide +kernel
theorem dX7_restore_28 : decode cX7_restore 28 = .ok (.istore_n 2, 1) := by decide +kernel
theorem dX7_restore_29 : decode cX7_restore 29 = .ok (.iconst 0, 1) := by decide +kernel
theorem dX7_restore_30 : decode cX7_restore 30 = .ok (.istore_n 3, 1) := by decide +kernel
theorem dX7_restore_31 : decode cX7_restore 31 = .ok (.iload_n 3, 1) := by decide +kernel
theorem dX7_restore_32 : decode cX7_restore 32 = .ok (.bipush 24, 2) := by decide +kernel
theorem dX7_restore_34 : decode cX7_restore 34 = .ok (.if_icmp .ge 23, 3) := by decide +kernel
theorem dX7_restore_37 : decode cX7_restore 37 = .ok (.aload_n 0, 1) := by decide +kernel
theorem dX7_restore_38 : decode cX7_restore 38 = .ok (.getfield 13, 3) := by decide +kernel
theorem dX7_restore_41 : decode cX7_restore 41 = .ok (.iload_n 3, 1) := by decide +kernel
theorem dX7_restore_42 : decode cX7_restore 42 = .ok (.aload_n 0, 1) := by decide +kernel
theorem dX7_restore_43 : decode cX7_restore 43 = .ok (.getfield 52, 3) := by decide +kernel
theorem dX7_restore_46 : decode cX7_restore 46 = .ok (.iload_n 2, 1) := by decide +kernel
theorem dX7_restore_47 : decode cX7_restore 47 = .ok (.iload_n 3, 1) := by decide +kernel
theorem dX7_restore_48 : decode cX7_restore 48 = .ok (.iadd, 1) := by decide +kernel
theorem dX7_restore_49 : decode cX7_restore 49 = .ok (.iaload, 1) := by decide +kernel
theorem dX7_restore_50 : decode cX7_restore 50 = .ok (.iastore, 1) := by decide +kernel
theorem dX7_restore_51 : decode cX7_restore 51 = .ok (.iinc 3 1, 3) := by decide +kernel
theorem dX7_restore_54 : decode cX7_restore 54 = .ok (.goto (-23), 3) := by decide +kernel
theorem dX7_restore_57 : decode cX7_restore 57 = .ok (.iconst 0, 1) := by decide +kernel
theorem dX7_restore_58 : decode cX7_restore 58 = .ok (.istore_n 3, 1) := by decide +kernel
theorem dX7_restore_59 : decode cX7_restore 59 = .ok (.iload_n 3, 1) := by decide +kernel
theorem dX7_restore_60 : decode cX7_restore 60 = .ok (.bipush 6, 2) := by decide +kernel
theorem dX7_restore_62 : decode cX7_restore 62 = .ok (.if_icmp .ge 60, 3) := by decide +kernel
theorem dX7_restore_65 : decode cX7_restore 65 = .ok (.aload_n 0, 1) := by decide +kernel
theorem dX7_restore_66 : decode cX7_restore 66 = .ok (.getfield 17, 3) := by decide +kernel
theorem dX7_restore_69 : decode cX7_restore 69 = .ok (.iload_n 3, 1) := by decide +kernel
theorem dX7_restore_70 : decode cX7_restore 70 = .ok (.aload_n 0, 1) := by decide +kernel
theorem dX7_restore_71 : decode cX7_restore 71 = .ok (.getfield 52, 3) := by decide +kernel
theorem dX7_restore_74 : decode cX7_restore 74 = .ok (.iload_n 2, 1) := by decide +kernel
theorem dX7_restore_75 : decode cX7_restore 75 = .ok (.bipush 24, 2) := by decide +kernel
theorem dX7_restore_77 : decode cX7_restore 77 = .ok (.iadd, 1) := by decide +kernel
theorem dX7_restore_78 : decode cX7_restore 78 = .ok (.iload_n 3, 1) := by decide +kernel
theorem dX7_restore_79 : decode cX7_restore 79 = .ok (.iadd, 1) := by decide +kernel
theorem dX7_restore_80 : decode cX7_restore 80 = .ok (.iaload, 1) := by decide +kernel
theorem dX7_restore_81 : decode cX7_restore 81 = .ok (.iastore, 1) := by decide +kernel
theorem dX7_restore_82 : decode cX7_restore 82 = .ok (.aload_n 0, 1) := by decide +kernel
theorem dX7_restore_83 : decode cX7_restore 83 = .ok (.getfield 30, 3) := by decide +kernel
theorem dX7_restore_86 : decode cX7_restore 86 = .ok (.iload_n 3, 1) := by decide +kernel
theorem dX7_restore_87 : decode cX7_restore 87 = .ok (.aload_n 0, 1) := by decide +kernel
theorem dX7_restore_88 : decode cX7_restore 88 = .ok (.getfield 52, 3) := by decide +kernel
theorem dX7_restore_91 : decode cX7_restore 91 = .ok (.iload_n 2, 1) := by decide +kernel
theorem dX7_restore_92 : decode cX7_restore 92 = .ok (.bipush 30, 2) := by decide +kernel
theorem dX7_restore_94 : decode cX7_restore 94 = .ok (.iadd, 1) := by decide +kernel
theorem dX7_restore_95 : decode cX7_restore 95 = .ok (.iload_n 3, 1) := by decide +kernel
theorem dX7_restore_96 : decode cX7_restore 96 = .ok (.iadd, 1) := by decide +kernel
theorem dX7_restore_97 : decode cX7_restore 97 = .ok (.iaload, 1) := by decide +kernel
theorem dX7_restore_98 : decode cX7_restore 98 = .ok (.iastore, 1) := by decide +kernel
theorem dX7_restore_99 : decode cX7_restore 99 = .ok (.aload_n 0, 1) := by decide +kernel
theorem dX7_restore_100 : decode cX7_restore 100 = .ok (.getfield 26, 3) := by decide +kernel
theorem dX7_restore_103 : decode cX7_restore 103 = .ok (.iload_n 3, 1) := by decide +kernel
theorem dX7_restore_104 : decode cX7_restore 104 = .ok (.aload_n 0, 1) := by decide +kernel
theorem dX7_restore_105 : decode cX7_restore 105 = .ok (.getfield 55, 3) := by decide +kernel
theorem dX7_restore_108 : decode cX7_restore 108 = .ok (.bipush 7, 2) := by decide +kernel
theorem dX7_restore_110 : decode cX7_restore 110 = .ok (.iload_n 1, 1) := by decide +kernel
theorem dX7_restore_111 : decode cX7_restore 111 = .ok (.imul, 1) := by decide +kernel
theorem dX7_restore_112 : decode cX7_restore 112 = .ok (.iload_n 3, 1) := by decide +kernel
theorem dX7_restore_113 : decode cX7_restore 113 = .ok (.iadd, 1) := by decide +kernel
theorem dX7_restore_114 : decode cX7_restore 114 = .ok (.laload, 1) := by decide +kernel
theorem dX7_restore_115 : decode cX7_restore 115 = .ok (.lastore, 1) := by decide +kernel
theorem dX7_restore_116 : decode cX7_restore 116 = .ok (.iinc 3 1, 3) := by decide +kernel
theorem dX7_restore_119 : decode cX7_restore 119 = .ok (.goto (-60), 3) := by decide +kernel
theorem dX7_restore_122 : decode cX7_restore 122 = .ok (.iconst 0, 1) := by decide +kernel
theorem dX7_restore_123 : decode cX7_restore 123 = .ok (.istore_n 3, 1) := by decide +kernel
theorem dX7_restore_124 : decode cX7_restore 124 = .ok (.iload_n 3, 1) := by decide +kernel
theorem dX7_restore_125 : decode cX7_restore 125 = .ok (.iconst 4, 1) := by decide +kernel
theorem dX7_restore_126 : decode cX7_restore 126 = .ok (.if_icmp .ge 26, 3) := by decide +kernel
theorem dX7_restore_129 : decode cX7_restore 129 = .ok (.aload_n 0, 1) := by decide +kernel
theorem dX7_restore_130 : decode cX7_restore 130 = .ok (.getfield 20, 3) := by decide +kernel
theorem dX7_restore_133 : decode cX7_restore 133 = .ok (.iload_n 3, 1) := by decide +kernel
theorem dX7_restore_134 : decode cX7_restore 134 = .ok (.aload_n 0, 1) := by decide +kernel
theorem dX7_restore_135 : decode cX7_restore 135 = .ok (.getfield 52, 3) := by decide +kernel
theorem dX7_restore_138 : decode cX7_restore 138 = .ok (.iload_n 2, 1) := by decide +kernel
theorem dX7_restore_139 : decode cX7_restore 139 = .ok (.bipush 36, 2) := by decide +kernel
theorem dX7_restore_141 : decode cX7_restore 141 = .ok (.iadd, 1) := by decide +kernel
theorem dX7_restore_142 : decode cX7_restore 142 = .ok (.iload_n 3, 1) := by decide +kernel
theorem dX7_restore_143 : decode cX7_restore 143 = .ok (.iadd, 1) := by decide +kernel
theorem dX7_restore_144 : decode cX7_restore 144 = .ok (.iaload, 1) := by decide +kernel
theorem dX7_restore_145 : decode cX7_restore 145 = .ok (.iastore, 1) := by decide +kernel
theorem dX7_restore_146 : decode cX7_restore 146 = .ok (.iinc 3 1, 3) := by decide +kernel
theorem dX7_restore_149 : decode cX7_restore 149 = .ok (.goto (-25), 3) := by decide +kernel
theorem dX7_restore_152 : decode cX7_restore 152 = .ok (.iconst 0, 1) := by decide +kernel
theorem dX7_restore_153 : decode cX7_restore 153 = .ok (.istore_n 3, 1) := by decide +kernel
theorem dX7_restore_154 : decode cX7_restore 154 = .ok (.iload_n 3, 1) := by decide +kernel
theorem dX7_restore_155 : decode cX7_restore 155 = .ok (.bipush 16, 2) := by decide +kernel
theorem dX7_restore_157 : decode cX7_restore 157 = .ok (.if_icmp .ge 26, 3) := by decide +kernel
theorem dX7_restore_160 : decode cX7_restore 160 = .ok (.aload_n 0, 1) := by decide +kernel
theorem dX7_restore_161 : decode cX7_restore 161 = .ok (.getfield 23, 3) := by decide +kernel
theorem dX7_restore_164 : decode cX7_restore 164 = .ok (.iload_n 3, 1) := by decide +kernel
theorem dX7_restore_165 : decode cX7_restore 165 = .ok (.aload_n 0, 1) := by decide +kernel
theorem dX7_restore_166 : decode cX7_restore 166 = .ok (.getfield 52, 3) := by decide +kernel
theorem dX7_restore_169 : decode cX7_restore 169 = .ok (.iload_n 2, 1) := by decide +kernel
theorem dX7_restore_170 : decode cX7_restore 170 = .ok (.bipush 40, 2) := by decide +kernel
theorem dX7_restore_172 : decode cX7_restore 172 = .ok (.iadd, 1) := by decide +kernel
theorem dX7_restore_173 : decode cX7_restore 173 = .ok (.iload_n 3, 1) := by decide +kernel
theorem dX7_restore_174 : decode cX7_restore 174 = .ok (.iadd, 1) := by decide +kernel
theorem dX7_restore_175 : decode cX7_restore 175 = .ok (.iaload, 1) := by decide +kernel
theorem dX7_restore_176 : decode cX7_restore 176 = .ok (.iastore, 1) := by decide +kernel
theorem dX7_restore_177 : decode cX7_restore 177 = .ok (.iinc 3 1, 3) := by decide +kernel
theorem dX7_restore_180 : decode cX7_restore 180 = .ok (.goto (-26), 3) := by decide +kernel
theorem dX7_restore_183 : decode cX7_restore 183 = .ok (.iconst 0, 1) := by decide +kernel
theorem dX7_restore_184 : decode cX7_restore 184 = .ok (.istore_n 3, 1) := by decide +kernel
theorem dX7_restore_185 : decode cX7_restore 185 = .ok (.iload_n 3, 1) := by decide +kernel
theorem dX7_restore_186 : decode cX7_restore 186 = .ok (.bipush 12, 2) := by decide +kernel
theorem dX7_restore_188 : decode cX7_restore 188 = .ok (.if_icmp .ge 26, 3) := by decide +kernel
theorem dX7_restore_191 : decode cX7_restore 191 = .ok (.aload_n 0, 1) := by decide +kernel
theorem dX7_restore_192 : decode cX7_restore 192 = .ok (.getfield 33, 3) := by decide +kernel
theorem dX7_restore_195 : decode cX7_restore 195 = .ok (.iload_n 3, 1) := by decide +kernel
theorem dX7_restore_196 : decode cX7_restore 196 = .ok (.aload_n 0, 1) := by decide +kernel
theorem dX7_restore_197 : decode cX7_restore 197 = .ok (.getfield 52, 3) := by decide +kernel
theorem dX7_restore_200 : decode cX7_restore 200 = .ok (.iload_n 2, 1) := by decide +kernel
theorem dX7_restore_201 : decode cX7_restore 201 = .ok (.bipush 56, 2) := by decide +kernel
theorem dX7_restore_203 : decode cX7_restore 203 = .ok (.iadd, 1) := by decide +kernel
theorem dX7_restore_204 : decode cX7_restore 204 = .ok (.iload_n 3, 1) := by decide +kernel
theorem dX7_restore_205 : decode cX7_restore 205 = .ok (.iadd, 1) := by decide +kernel
theorem dX7_restore_206 : decode cX7_restore 206 = .ok (.iaload, 1) := by decide +kernel
theorem dX7_restore_207 : decode cX7_restore 207 = .ok (.iastore, 1) := by decide +kernel
theorem dX7_restore_208 : decode cX7_restore 208 = .ok (.iinc 3 1, 3) := by decide +kernel
theorem dX7_restore_211 : decode cX7_restore 211 = .ok (.goto (-26), 3) := by decide +kernel
theorem dX7_restore_214 : decode cX7_restore 214 = .ok (.aload_n 0, 1) := by decide +kernel
theorem dX7_restore_215 : decode cX7_restore 215 = .ok (.aload_n 0, 1) := by decide +kernel
theorem dX7_restore_216 : decode cX7_restore 216 = .ok (.getfield 52, 3) := by decide +kernel
theorem dX7_restore_219 : decode cX7_restore 219 = .ok (.iload_n 2, 1) := by decide +kernel
theorem dX7_restore_220 : decode cX7_restore 220 = .ok (.bipush 68, 2) := by decide +kernel
theorem dX7_restore_222 : decode cX7_restore 222 = .ok (.iadd, 1) := by decide +kernel
theorem dX7_restore_223 : decode cX7_restore 223 = .ok (.iaload, 1) := by decide +kernel
theorem dX7_restore_224 : decode cX7_restore 224 = .ok (.putfield 7, 3) := by decide +kernel
theorem dX7_restore_227 : decode cX7_restore 227 = .ok (.aload_n 0, 1) := by decide +kernel
theorem dX7_restore_228 : decode cX7_restore 228 = .ok (.aload_n 0, 1) := by decide +kernel
theorem dX7_restore_229 : decode cX7_restore 229 = .ok (.getfield 52, 3) := by decide +kernel
theorem dX7_restore_232 : decode cX7_restore 232 = .ok (.iload_n 2, 1) := by decide +kernel
theorem dX7_restore_233 : decode cX7_restore 233 = .ok (.bipush 69, 2) := by decide +kernel
theorem dX7_restore_235 : decode cX7_restore 235 = .ok (.iadd, 1) := by decide +kernel
theorem dX7_restore_236 : decode cX7_restore 236 = .ok (.iaload, 1) := by decide +kernel
theorem dX7_restore_237 : decode cX7_restore 237 = .ok (.putfield 64, 3) := by decide +kernel
theorem dX7_restore_240 : decode cX7_restore 240 = .ok (.aload_n 0, 1) := by decide +kernel
theorem dX7_restore_241 : decode cX7_restore 241 = .ok (.aload_n 0, 1) := by decide +kernel
theorem dX7_restore_242 : decode cX7_restore 242 = .ok (.getfield 52, 3) := by decide +kernel
theorem dX7_restore_245 : decode cX7_restore 245 = .ok (.iload_n 2, 1) := by decide +kernel
theorem dX7_restore_246 : decode cX7_restore 246 = .ok (.bipush 70, 2) := by decide +kernel
theorem dX7_restore_248 : decode cX7_restore 248 = .ok (.iadd, 1) := by decide +kernel
theorem dX7_restore_249 : decode cX7_restore 249 = .ok (.iaload, 1) := by decide +kernel
theorem dX7_restore_250 : decode cX7_restore 250 = .ok (.putfield 67, 3) := by decide +kernel
theorem dX7_restore_253 : decode cX7_restore 253 = .ok (.aload_n 0, 1) := by decide +kernel
theorem dX7_restore_254 : decode cX7_restore 254 = .ok (.aload_n 0, 1) := by decide +kernel
theorem dX7_restore_255 : decode cX7_restore 255 = .ok (.getfield 52, 3) := by decide +kernel
theorem dX7_restore_258 : decode cX7_restore 258 = .ok (.iload_n 2, 1) := by decide +kernel
theorem dX7_restore_259 : decode cX7_restore 259 = .ok (.bipush 71, 2) := by decide +kernel
theorem dX7_restore_261 : decode cX7_restore 261 = .ok (.iadd, 1) := by decide +kernel
theorem dX7_restore_262 : decode cX7_restore 262 = .ok (.iaload, 1) := by decide +kernel
theorem dX7_restore_263 : decode cX7_restore 263 = .ok (.putfield 70, 3) := by decide +kernel
theorem dX7_restore_266 : decode cX7_restore 266 = .ok (.aload_n 0, 1) := by decide +kernel
theorem dX7_restore_267 : decode cX7_restore 267 = .ok (.aload_n 0, 1) := by decide +kernel
theorem dX7_restore_268 : decode cX7_restore 268 = .ok (.getfield 52, 3) := by decide +kernel
theorem dX7_restore_271 : decode cX7_restore 271 = .ok (.iload_n 2, 1) := by decide +kernel
theorem dX7_restore_272 : decode cX7_restore 272 = .ok (.bipush 72, 2) := by decide +kernel
theorem dX7_restore_274 : decode cX7_restore 274 = .ok (.iadd, 1) := by decide +kernel
theorem dX7_restore_275 : decode cX7_restore 275 = .ok (.iaload, 1) := by decide +kernel
theorem dX7_restore_276 : decode cX7_restore 276 = .ok (.putfield 73, 3) := by decide +kernel
theorem dX7_restore_279 : decode cX7_restore 279 = .ok (.aload_n 0, 1) := by decide +kernel
theorem dX7_restore_280 : decode cX7_restore 280 = .ok (.aload_n 0, 1) := by decide +kernel
theorem dX7_restore_281 : decode cX7_restore 281 = .ok (.getfield 52, 3) := by decide +kernel
theorem dX7_restore_284 : decode cX7_restore 284 = .ok (.iload_n 2, 1) := by decide +kernel
theorem dX7_restore_285 : decode cX7_restore 285 = .ok (.bipush 73, 2) := by decide +kernel
theorem dX7_restore_287 : decode cX7_restore 287 = .ok (.iadd, 1) := by decide +kernel
theorem dX7_restore_288 : decode cX7_restore 288 = .ok (.iaload, 1) := by decide +kernel
theorem dX7_restore_289 : decode cX7_restore 289 = .ok (.putfield 84, 3) := by decide +kernel
theorem dX7_restore_292 : decode cX7_restore 292 = .ok (.aload_n 0, 1) := by decide +kernel
theorem dX7_restore_293 : decode cX7_restore 293 = .ok (.aload_n 0, 1) := by decide +kernel
theorem dX7_restore_294 : decode cX7_restore 294 = .ok (.getfield 52, 3) := by decide +kernel
theorem dX7_restore_297 : decode cX7_restore 297 = .ok (.iload_n 2, 1) := by decide +kernel
theorem dX7_restore_298 : decode cX7_restore 298 = .ok (.bipush 74, 2) := by decide +kernel
theorem dX7_restore_300 : decode cX7_restore 300 = .ok (.iadd, 1) := by decide +kernel
theorem dX7_restore_301 : decode cX7_restore 301 = .ok (.iaload, 1) := by decide +kernel
theorem dX7_restore_302 : decode cX7_restore 302 = .ok (.putfield 87, 3) := by decide +kernel
theorem dX7_restore_305 : decode cX7_restore 305 = .ok (.aload_n 0, 1) := by decide +kernel
theorem dX7_restore_306 : decode cX7_restore 306 = .ok (.aload_n 0, 1) := by decide +kernel
theorem dX7_restore_307 : decode cX7_restore 307 = .ok (.getfield 52, 3) := by decide +kernel
theorem dX7_restore_310 : decode cX7_restore 310 = .ok (.iload_n 2, 1) := by decide +kernel
theorem dX7_restore_311 : decode cX7_restore 311 = .ok (.bipush 75, 2) := by decide +kernel
theorem dX7_restore_313 : decode cX7_restore 313 = .ok (.iadd, 1) := by decide +kernel
theorem dX7_restore_314 : decode cX7_restore 314 = .ok (.iaload, 1) := by decide +kernel
theorem dX7_restore_315 : decode cX7_restore 315 = .ok (.putfield 90, 3) := by decide +kernel
theorem dX7_restore_318 : decode cX7_restore 318 = .ok (.aload_n 0, 1) := by decide +kernel
theorem dX7_restore_319 : decode cX7_restore 319 = .ok (.aload_n 0, 1) := by decide +kernel
theorem dX7_restore_320 : decode cX7_restore 320 = .ok (.getfield 55, 3) := by decide +kernel
theorem dX7_restore_323 : decode cX7_restore 323 = .ok (.bipush 7, 2) := by decide +kernel
theorem dX7_restore_325 : decode cX7_restore 325 = .ok (.iload_n 1, 1) := by decide +kernel
theorem dX7_restore_326 : decode cX7_restore 326 = .ok (.imul, 1) := by decide +kernel
theorem dX7_restore_327 : decode cX7_restore 327 = .ok (.bipush 6, 2) := by decide +kernel
theorem dX7_restore_329 : decode cX7_restore 329 = .ok (.iadd, 1) := by decide +kernel
theorem dX7_restore_330 : decode cX7_restore 330 = .ok (.laload, 1) := by decide +kernel
theorem dX7_restore_331 : decode cX7_restore 331 = .ok (.putfield 80, 3) := by decide +kernel
theorem dX7_restore_334 : decode cX7_restore 334 = .ok (.iconst 1, 1) := by decide +kernel
theorem dX7_restore_335 : decode cX7_restore 335 = .ok (.ireturn, 1) := by decide +kernel
theorem wr46 {I : Nat → Nat → Int32} {p q i : Nat} {x : Int32} : wr I p q x p i = if i = q then x else I p i := by simp [setI, upd]
theorem wrJ47 {J : Nat → Nat → Int64} {p q i : Nat} {x : Int64} : wrJ J p q x p i = if i = q then x else J p i := by simp [setJ, vp_updL]
def IG (I I' : Nat → Nat → Int32) (b k1 k2 k6 k3 k4 k5 : Nat) : Prop := (∀ i, i < k1 → I' 46 (b + i) = I 34 i) ∧ (∀ i, i < k2 → I' 46 (b + 24 + i) = I 35 i) ∧ (∀ i, i < k6 → I' 46 (b + 30 + i) = I 39 i) ∧ (∀ i, i < k3 → I' 46 (b + 36 + i) = I 36 i) ∧ (∀ i, i < k4 → I' 46 (b + 40 + i) = I 37 i) ∧ (∀ i, i < k5 → I' 46 (b + 56 + i) = I 40 i) ∧ (∀ i, (i < b ∨ b + 76 ≤ i) → I' 46 i = I 46 i) ∧ (∀ p, p ≠ 46 → I' p = I p)
def JG (J J' : Nat → Nat → Int64) (b k : Nat) : Prop := (∀ i, i < k → J' 47 (b + i) = J 38 i) ∧ (∀ i, (i < b ∨ b + 7 ≤ i) → J' 47 i = J 47 i) ∧ (∀ p, p ≠ 47 → J' p = J p)
section MODEL23
variable {xl : Nat} {xs : Nat → Int32} {n : Nat} {h : Nat → PC} {I S I' : Nat → Nat → Int32} {J T J' : Nat → Nat → Int64} {X : Nat → Option Nat} {t sl wy wi he sg : Nat} {b k1 k2 k6 k3 k4 k5 : Nat}
theorem IG_w1 (h : IG I I' b k1 k2 k6 k3 k4 k5) (h1 : k2 ≤ 6) (h2 : k6 ≤ 6) (h3 : k3 ≤ 4) (h4 : k4 ≤ 16) (h5 : k5 ≤ 12) (hk : k1 < 24) : IG I (wr I' 46 (b + k1) (I 34 k1)) b (k1 + 1) k2 k6 k3 k4 k5 := by
  obtain ⟨g1, g2, g3, g4, g5, g6, g7, g8⟩ := h
  refine ⟨fun i hi => ?_, fun i hi => ?_, fun i hi => ?_, fun i hi => ?_, fun i hi => ?_, fun i hi => ?_, fun i hi => ?_, fun p hp => ?_⟩
  · rw [wr46]
    by_cases e : i = k1
    · rw [if_pos (by omega), e]
    · rw [if_neg (by omega)]; exact g1 i (by omega)
  · rw [wr46, if_neg (by omega)]; exact g2 i (by omega)
  · rw [wr46, if_neg (by omega)]; exact g3 i (by omega)
  · rw [wr46, if_neg (by omega)]; exact g4 i (by omega)
  · rw [wr46, if_neg (by omega)]; exact g5 i (by omega)
  · rw [wr46, if_neg (by omega)]; exact g6 i (by omega)
  · rw [wr46, if_neg (by omega)]; exact g7 i (by omega)
  · show setI I' 46 _ p = _
    unfold setI; rw [if_neg hp]; exact g8 p hp
theorem IG_w2 (h : IG I I' b k1 k2 k6 k3 k4 k5) (h0 : k1 ≤ 24) (h2 : k6 ≤ 6) (h3 : k3 ≤ 4) (h4 : k4 ≤ 16) (h5 : k5 ≤ 12) (hk : k2 < 6) : IG I (wr I' 46 (b + 24 + k2) (I 35 k2)) b k1 (k2 + 1) k6 k3 k4 k5 := by
  obtain ⟨g1, g2, g3, g4, g5, g6, g7, g8⟩ := h
  refine ⟨fun i hi => ?_, fun i hi => ?_, fun i hi => ?_, fun i hi => ?_, fun i hi => ?_, fun i hi => ?_, fun i hi => ?_, fun p hp => ?_⟩
  · rw [wr46, if_neg (by omega)]; exact g1 i (by omega)
  · rw [wr46]
    by_cases e : i = k2
    · rw [if_pos (by omega), e]
    · rw [if_neg (by omega)]; exact g2 i (by omega)
  · rw [wr46, if_neg (by omega)]; exact g3 i (by omega)
  · rw [wr46, if_neg (by omega)]; exact g4 i (by omega)
  · rw [wr46, if_neg (by omega)]; exact g5 i (by omega)
  · rw [wr46, if_neg (by omega)]; exact g6 i (by omega)
  · rw [wr46, if_neg (by omega)]; exact g7 i (by omega)
  · show setI I' 46 _ p = _
    unfold setI; rw [if_neg hp]; exact g8 p hp
theorem IG_w3 (h : IG I I' b k1 k2 k6 k3 k4 k5) (h0 : k1 ≤ 24) (h1 : k2 ≤ 6) (h3 : k3 ≤ 4) (h4 : k4 ≤ 16) (h5 : k5 ≤ 12) (hk : k6 < 6) : IG I (wr I' 46 (b + 30 + k6) (I 39 k6)) b k1 k2 (k6 + 1) k3 k4 k5 := by
  obtain ⟨g1, g2, g3, g4, g5, g6, g7, g8⟩ := h
  refine ⟨fun i hi => ?_, fun i hi => ?_, fun i hi => ?_, fun i hi => ?_, fun i hi => ?_, fun i hi => ?_, fun i hi => ?_, fun p hp => ?_⟩
  · rw [wr46, if_neg (by omega)]; exact g1 i (by omega)
  · rw [wr46, if_neg (by omega)]; exact g2 i (by omega)
  · rw [wr46]
    by_cases e : i = k6
    · rw [if_pos (by omega), e]
    · rw [if_neg (by omega)]; exact g3 i (by omega)
  · rw [wr46, if_neg (by omega)]; exact g4 i (by omega)
  · rw [wr46, if_neg (by omega)]; exact g5 i (by omega)
  · rw [wr46, if_neg (by omega)]; exact g6 i (by omega)
  · rw [wr46, if_neg (by omega)]; exact g7 i (by omega)
  · show setI I' 46 _ p = _
    unfold setI; rw [if_neg hp]; exact g8 p hp
theorem IG_w4 (h : IG I I' b k1 k2 k6 k3 k4 k5) (h0 : k1 ≤ 24) (h1 : k2 ≤ 6) (h2 : k6 ≤ 6) (h4 : k4 ≤ 16) (h5 : k5 ≤ 12) (hk : k3 < 4) : IG I (wr I' 46 (b + 36 + k3) (I 36 k3)) b k1 k2 k6 (k3 + 1) k4 k5 := by
  obtain ⟨g1, g2, g3, g4, g5, g6, g7, g8⟩ := h
  refine ⟨fun i hi => ?_, fun i hi => ?_, fun i hi => ?_, fun i hi => ?_, fun i hi => ?_, fun i hi => ?_, fun i hi => ?_, fun p hp => ?_⟩
  · rw [wr46, if_neg (by omega)]; exact g1 i (by omega)
  · rw [wr46, if_neg (by omega)]; exact g2 i (by omega)
  · rw [wr46, if_neg (by omega)]; exact g3 i (by omega)
  · rw [wr46]
    by_cases e : i = k3
    · rw [if_pos (by omega), e]
    · rw [if_neg (by omega)]; exact g4 i (by omega)
  · rw [wr46, if_neg (by omega)]; exact g5 i (by omega)
  · rw [wr46, if_neg (by omega)]; exact g6 i (by omega)
  · rw [wr46, if_neg (by omega)]; exact g7 i (by omega)
  · show setI I' 46 _ p = _
    unfold setI; rw [if_neg hp]; exact g8 p hp
theorem IG_w5 (h : IG I I' b k1 k2 k6 k3 k4 k5) (h0 : k1 ≤ 24) (h1 : k2 ≤ 6) (h2 : k6 ≤ 6) (h3 : k3 ≤ 4) (h5 : k5 ≤ 12) (hk : k4 < 16) : IG I (wr I' 46 (b + 40 + k4) (I 37 k4)) b k1 k2 k6 k3 (k4 + 1) k5 := by
  obtain ⟨g1, g2, g3, g4, g5, g6, g7, g8⟩ := h
  refine ⟨fun i hi => ?_, fun i hi => ?_, fun i hi => ?_, fun i hi => ?_, fun i hi => ?_, fun i hi => ?_, fun i hi => ?_, fun p hp => ?_⟩
  · rw [wr46, if_neg (by omega)]; exact g1 i (by omega)
  · rw [wr46, if_neg (by omega)]; exact g2 i (by omega)
  · rw [wr46, if_neg (by omega)]; exact g3 i (by omega)
  · rw [wr46, if_neg (by omega)]; exact g4 i (by omega)
  · rw [wr46]
    by_cases e : i = k4
    · rw [if_pos (by omega), e]
    · rw [if_neg (by omega)]; exact g5 i (by omega)
  · rw [wr46, if_neg (by omega)]; exact g6 i (by omega)
  · rw [wr46, if_neg (by omega)]; exact g7 i (by omega)
  · show setI I' 46 _ p = _
    unfold setI; rw [if_neg hp]; exact g8 p hp
theorem IG_w6 (h : IG I I' b k1 k2 k6 k3 k4 k5) (h0 : k1 ≤ 24) (h1 : k2 ≤ 6) (h2 : k6 ≤ 6) (h3 : k3 ≤ 4) (h4 : k4 ≤ 16) (hk : k5 < 12) : IG I (wr I' 46 (b + 56 + k5) (I 40 k5)) b k1 k2 k6 k3 k4 (k5 + 1) := by
  obtain ⟨g1, g2, g3, g4, g5, g6, g7, g8⟩ := h
  refine ⟨fun i hi => ?_, fun i hi => ?_, fun i hi => ?_, fun i hi => ?_, fun i hi => ?_, fun i hi => ?_, fun i hi => ?_, fun p hp => ?_⟩
  · rw [wr46, if_neg (by omega)]; exact g1 i (by omega)
  · rw [wr46, if_neg (by omega)]; exact g2 i (by omega)
  · rw [wr46, if_neg (by omega)]; exact g3 i (by omega)
  · rw [wr46, if_neg (by omega)]; exact g4 i (by omega)
  · rw [wr46, if_neg (by omega)]; exact g5 i (by omega)
  · rw [wr46]
    by_cases e : i = k5
    · rw [if_pos (by omega), e]
    · rw [if_neg (by omega)]; exact g6 i (by omega)
  · rw [wr46, if_neg (by omega)]; exact g7 i (by omega)
  · show setI I' 46 _ p = _
    unfold setI; rw [if_neg hp]; exact g8 p hp
theorem JG_w {k : Nat} (h : JG J J' b k) (hk : k < 6) : JG J (wrJ J' 47 (b + k) (J 38 k)) b (k + 1) := by
  obtain ⟨g1, g2, g3⟩ := h
  refine ⟨fun i hi => ?_, fun i hi => ?_, fun p hp => ?_⟩
  · rw [wrJ47]
    by_cases e : i = k
    · rw [if_pos (by omega), e]
    · rw [if_neg (by omega)]; exact g1 i (by omega)
  · rw [wrJ47, if_neg (by omega)]; exact g2 i (by omega)
  · show setJ J' 47 _ p = _
    unfold setJ; rw [if_neg hp]; exact g3 p hp
def imP (I : Nat → Nat → Int32) (J : Nat → Nat → Int64) (nn : Nat) (I' : Nat → Nat → Int32) (J' : Nat → Nat → Int64) : Prop := ∃ I0 J0, IG I I0 (100 * nn) 24 6 6 4 16 12 ∧ JG J J0 (7 * nn) 6 ∧ I' = wr (wr (wr (wr (wr (wr (wr (wr (wr I0 46 (100 * nn + 68) (I 33 0)) 46 (100 * nn + 69) (I 33 4)) 46 (100 * nn + 70) (I 33 5)) 46 (100 * nn + 71) (I 33 6)) 46 (100 * nn + 72) (I 33 7)) 46 (100 * nn + 73) (I 33 9)) 46 (100 * nn + 74) (I 33 11)) 46 (100 * nn + 75) (I 33 14)) 48 nn 1 ∧ J' = wrJ J0 47 (7 * nn + 6) (J 33 8)
def RnG (xl : Nat) (xs : Nat → Int32) (F L : Nat) (M : Mt) (vs : List Value) (n : Nat) (I : Nat → Nat → Int32) (J : Nat → Nat → Int64) (X : Nat → Option Nat) (r : Option Value) (PP : (Nat → Nat → Int32) → (Nat → Nat → Int64) → Prop) : Prop := ∀ (S : Nat → Nat → Int32) (T : Nat → Nat → Int64) (Q : QT), (∀ I' J' S' T', PP I' J' → Q r n (sysH (ov I' S') (ovJ J' T') X)) → Ev xl xs F L 0 0 M 0 (ent vs M.2.2.1) [] n (sysH (ov I S) (ovJ J T) X) Q
theorem s_X7_image_f (hn : 49 ≤ n) {v : Int32} (hv : inb v 0 1 = false) : RnS xl xs 1 22 0 0 mX7_image [.ref 33, .int v] n I J X (some (.int (-2))) n I J X := by
  intro S T Q hQ
  show Ev xl xs 1 22 0 0 mX7_image 0 [some (.ref 33), some (.int v), none, none] [] n (sysH (ov I S) (ovJ J T) X) Q
  refine ev_iload_n (q := 1) dX7_image_0 rfl rfl ?_
  refine ev_iconst (q := 2) (0) dX7_image_1 (by decide) rfl ?_
  refine ev_iconst (q := 3) (1) dX7_image_2 (by decide) rfl ?_
  refine ev_callS3i (q := 6) dX7_image_3 ca_X7_99 (c_X7_in _ _ _) (Nat.le_of_ble_eq_true rfl) (Nat.le_of_ble_eq_true rfl) (by decide) (by decide) rfl ?_
  refine ev_if_ne (q := 9) 12 dX7_image_6 (by decide) rfl (fun c_6 => ?_) (fun c_6 => ?_)
  · exact absurd (b2i_ne.mp c_6) (by rw [hv]; decide)
  · refine ev_bipush (q := 11) (-2) dX7_image_9 (by decide) rfl ?_
    exact ev_iretE dX7_image_11 rfl rfl rfl rfl rfl (hQ _ _)
theorem ix3 {b c k : Nat} : nI b + nI c + nI k = nI (b + c + k) := by rw [nI_add, nI_add]
theorem s_X7_image {nn : Nat} (hn : 49 ≤ n) (h1 : nn < 2) : RnG xl xs 1 22 mX7_image [.ref 33, .int (nI nn)] n I J X (some (.int 1)) (imP I J nn) := by
  intro S T Q hQ
  have hv : inb (nI nn) 0 1 = true := by
    have : ∀ m, m < 2 → inb (nI m) 0 1 = true := by decide +kernel
    exact this nn h1
  have hb : (100 : Int32) * nI nn = nI (100 * nn) := pk_mul 100 nn
  have h7 : (7 : Int32) * nI nn = nI (7 * nn) := pk_mul 7 nn
  show Ev xl xs 1 22 0 0 mX7_image 0 [some (.ref 33), some (.int (nI nn)), none, none] [] n (sysH (ov I S) (ovJ J T) X) Q
  have l5 : ∀ j k, k + j = 12 → ∀ I0 J0, IG I I0 (100 * nn) 24 6 6 4 16 k → JG J J0 (7 * nn) 6 → Ev xl xs 1 22 0 0 mX7_image 173 [some (.ref 33), some (.int (nI nn)), some (.int (nI (100 * nn))), some (.int (nI k))] [] n (sysH (ov I0 S) (ovJ J0 T) X) Q := by
    intro j
    induction j using Nat.strongRecOn with
    | _ j ih =>
      intro k hk I0 J0 hI hJ
      have e : ∀ h1, _ := fun (h1 : j - 1 < j) => ih (j - 1) h1 (k + 1)
      have h8 := hI.2.2.2.2.2.2.2
      have h9 := hJ.2.2
      by_cases hk12 : k = 12
      · have g0 : I0 33 = I 33 := h8 33 (by decide)
        subst hk12
        refine ev_iload_n (q := 174) dX7_image_173 rfl rfl ?_
        refine ev_bipush (q := 176) (12) dX7_image_174 (by decide) rfl ?_
        refine ev_icmp_ge (q := 179) 202 dX7_image_176 (by decide) rfl (fun c_176 => ?_) (fun c_176 => ?_)
        · refine ev_aload_n (q := 203) dX7_image_202 rfl rfl ?_
          refine ev_get (q := 206) dX7_image_203 fr_X7_52 rfl (lt_n hn (by decide)) rfl rfl ?_
          refine ev_iload_n (q := 207) dX7_image_206 rfl rfl ?_
          refine ev_bipush (q := 209) (68) dX7_image_207 (by decide) rfl ?_
          refine ev_iadd (q := 210) dX7_image_209 rfl ?_
          refine ev_aload_n (q := 211) dX7_image_210 rfl rfl ?_
          refine ev_get (q := 214) dX7_image_211 fr_X7_7 rfl (lt_n hn (by decide)) rfl rfl ?_
          first | refine ev_isK (q := 215) (100 * nn + 68) dX7_image_214 (nI_add _ 68) rfl (by omega) (lt_n hn (by decide)) rfl rfl ?_ | refine ev_isR (q := 215) (100 * nn + 68) dX7_image_214 (nI_add _ 68) rfl (by omega) (lt_n hn (by decide)) rfl rfl ?_
          refine ev_aload_n (q := 216) dX7_image_215 rfl rfl ?_
          refine ev_get (q := 219) dX7_image_216 fr_X7_52 rfl (lt_n hn (by decide)) rfl rfl ?_
          refine ev_iload_n (q := 220) dX7_image_219 rfl rfl ?_
          refine ev_bipush (q := 222) (69) dX7_image_220 (by decide) rfl ?_
          refine ev_iadd (q := 223) dX7_image_222 rfl ?_
          refine ev_aload_n (q := 224) dX7_image_223 rfl rfl ?_
          refine ev_get (q := 227) dX7_image_224 fr_X7_64 rfl (lt_n hn (by decide)) rfl rfl ?_
          first | refine ev_isK (q := 228) (100 * nn + 69) dX7_image_227 (nI_add _ 69) rfl (by omega) (lt_n hn (by decide)) rfl rfl ?_ | refine ev_isR (q := 228) (100 * nn + 69) dX7_image_227 (nI_add _ 69) rfl (by omega) (lt_n hn (by decide)) rfl rfl ?_
          refine ev_aload_n (q := 229) dX7_image_228 rfl rfl ?_
          refine ev_get (q := 232) dX7_image_229 fr_X7_52 rfl (lt_n hn (by decide)) rfl rfl ?_
          refine ev_iload_n (q := 233) dX7_image_232 rfl rfl ?_
          refine ev_bipush (q := 235) (70) dX7_image_233 (by decide) rfl ?_
          refine ev_iadd (q := 236) dX7_image_235 rfl ?_
          refine ev_aload_n (q := 237) dX7_image_236 rfl rfl ?_
          refine ev_get (q := 240) dX7_image_237 fr_X7_67 rfl (lt_n hn (by decide)) rfl rfl ?_
          first | refine ev_isK (q := 241) (100 * nn + 70) dX7_image_240 (nI_add _ 70) rfl (by omega) (lt_n hn (by decide)) rfl rfl ?_ | refine ev_isR (q := 241) (100 * nn + 70) dX7_image_240 (nI_add _ 70) rfl (by omega) (lt_n hn (by decide)) rfl rfl ?_
          refine ev_aload_n (q := 242) dX7_image_241 rfl rfl ?_
          refine ev_get (q := 245) dX7_image_242 fr_X7_52 rfl (lt_n hn (by decide)) rfl rfl ?_
          refine ev_iload_n (q := 246) dX7_image_245 rfl rfl ?_
          refine ev_bipush (q := 248) (71) dX7_image_246 (by decide) rfl ?_
          refine ev_iadd (q := 249) dX7_image_248 rfl ?_
          refine ev_aload_n (q := 250) dX7_image_249 rfl rfl ?_
          refine ev_get (q := 253) dX7_image_250 fr_X7_70 rfl (lt_n hn (by decide)) rfl rfl ?_
          first | refine ev_isK (q := 254) (100 * nn + 71) dX7_image_253 (nI_add _ 71) rfl (by omega) (lt_n hn (by decide)) rfl rfl ?_ | refine ev_isR (q := 254) (100 * nn + 71) dX7_image_253 (nI_add _ 71) rfl (by omega) (lt_n hn (by decide)) rfl rfl ?_
          refine ev_aload_n (q := 255) dX7_image_254 rfl rfl ?_
          refine ev_get (q := 258) dX7_image_255 fr_X7_52 rfl (lt_n hn (by decide)) rfl rfl ?_
          refine ev_iload_n (q := 259) dX7_image_258 rfl rfl ?_
          refine ev_bipush (q := 261) (72) dX7_image_259 (by decide) rfl ?_
          refine ev_iadd (q := 262) dX7_image_261 rfl ?_
          refine ev_aload_n (q := 263) dX7_image_262 rfl rfl ?_
          refine ev_get (q := 266) dX7_image_263 fr_X7_73 rfl (lt_n hn (by decide)) rfl rfl ?_
          first | refine ev_isK (q := 267) (100 * nn + 72) dX7_image_266 (nI_add _ 72) rfl (by omega) (lt_n hn (by decide)) rfl rfl ?_ | refine ev_isR (q := 267) (100 * nn + 72) dX7_image_266 (nI_add _ 72) rfl (by omega) (lt_n hn (by decide)) rfl rfl ?_
          refine ev_aload_n (q := 268) dX7_image_267 rfl rfl ?_
          refine ev_get (q := 271) dX7_image_268 fr_X7_52 rfl (lt_n hn (by decide)) rfl rfl ?_
          refine ev_iload_n (q := 272) dX7_image_271 rfl rfl ?_
          refine ev_bipush (q := 274) (73) dX7_image_272 (by decide) rfl ?_
          refine ev_iadd (q := 275) dX7_image_274 rfl ?_
          refine ev_aload_n (q := 276) dX7_image_275 rfl rfl ?_
          refine ev_get (q := 279) dX7_image_276 fr_X7_84 rfl (lt_n hn (by decide)) rfl rfl ?_
          first | refine ev_isK (q := 280) (100 * nn + 73) dX7_image_279 (nI_add _ 73) rfl (by omega) (lt_n hn (by decide)) rfl rfl ?_ | refine ev_isR (q := 280) (100 * nn + 73) dX7_image_279 (nI_add _ 73) rfl (by omega) (lt_n hn (by decide)) rfl rfl ?_
          refine ev_aload_n (q := 281) dX7_image_280 rfl rfl ?_
          refine ev_get (q := 284) dX7_image_281 fr_X7_52 rfl (lt_n hn (by decide)) rfl rfl ?_
          refine ev_iload_n (q := 285) dX7_image_284 rfl rfl ?_
          refine ev_bipush (q := 287) (74) dX7_image_285 (by decide) rfl ?_
          refine ev_iadd (q := 288) dX7_image_287 rfl ?_
          refine ev_aload_n (q := 289) dX7_image_288 rfl rfl ?_
          refine ev_get (q := 292) dX7_image_289 fr_X7_87 rfl (lt_n hn (by decide)) rfl rfl ?_
          first | refine ev_isK (q := 293) (100 * nn + 74) dX7_image_292 (nI_add _ 74) rfl (by omega) (lt_n hn (by decide)) rfl rfl ?_ | refine ev_isR (q := 293) (100 * nn + 74) dX7_image_292 (nI_add _ 74) rfl (by omega) (lt_n hn (by decide)) rfl rfl ?_
          refine ev_aload_n (q := 294) dX7_image_293 rfl rfl ?_
          refine ev_get (q := 297) dX7_image_294 fr_X7_52 rfl (lt_n hn (by decide)) rfl rfl ?_
          refine ev_iload_n (q := 298) dX7_image_297 rfl rfl ?_
          refine ev_bipush (q := 300) (75) dX7_image_298 (by decide) rfl ?_
          refine ev_iadd (q := 301) dX7_image_300 rfl ?_
          refine ev_aload_n (q := 302) dX7_image_301 rfl rfl ?_
          refine ev_get (q := 305) dX7_image_302 fr_X7_90 rfl (lt_n hn (by decide)) rfl rfl ?_
          first | refine ev_isK (q := 306) (100 * nn + 75) dX7_image_305 (nI_add _ 75) rfl (by omega) (lt_n hn (by decide)) rfl rfl ?_ | refine ev_isR (q := 306) (100 * nn + 75) dX7_image_305 (nI_add _ 75) rfl (by omega) (lt_n hn (by decide)) rfl rfl ?_
          refine ev_aload_n (q := 307) dX7_image_306 rfl rfl ?_
          refine ev_get (q := 310) dX7_image_307 fr_X7_55 rfl (lt_n hn (by decide)) rfl rfl ?_
          refine ev_bipush (q := 312) (7) dX7_image_310 (by decide) rfl ?_
          refine ev_iload_n (q := 313) dX7_image_312 rfl rfl ?_
          refine ev_imul (q := 314) dX7_image_313 rfl ?_
          refine ev_bipush (q := 316) (6) dX7_image_314 (by decide) rfl ?_
          refine ev_iadd (q := 317) dX7_image_316 rfl ?_
          refine ev_aload_n (q := 318) dX7_image_317 rfl rfl ?_
          refine ev_get (q := 321) dX7_image_318 fr_X7_80 rfl (lt_n hn (by decide)) rfl rfl ?_
          first | refine ev_lsK (q := 322) (7 * nn + 6) dX7_image_321 (by rw [h7]; exact nI_add _ 6) rfl (by omega) (lt_n hn (by decide)) rfl rfl ?_ | refine ev_lsR (q := 322) (7 * nn + 6) dX7_image_321 (by rw [h7]; exact nI_add _ 6) rfl (by omega) (lt_n hn (by decide)) rfl rfl ?_
          refine ev_aload_n (q := 323) dX7_image_322 rfl rfl ?_
          refine ev_get (q := 326) dX7_image_323 fr_X7_58 rfl (lt_n hn (by decide)) rfl rfl ?_
          refine ev_iload_n (q := 327) dX7_image_326 rfl rfl ?_
          refine ev_iconst (q := 328) (1) dX7_image_327 (by decide) rfl ?_
          first | refine ev_zsK (q := 329) nn dX7_image_328 rfl rfl (by omega) (lt_n hn (by decide)) (by decide) rfl rfl ?_ | refine ev_zsR (q := 329) nn dX7_image_328 rfl rfl (by omega) (lt_n hn (by decide)) (by decide) rfl rfl ?_
          refine ev_iconst (q := 330) (1) dX7_image_329 (by decide) rfl ?_
          refine ev_iretE dX7_image_330 rfl rfl rfl rfl rfl (hQ _ _ _ _ ⟨I0, J0, hI, hJ, ?_, ?_⟩)
          · rw [← g0]; rfl
          · rw [← show J0 33 = J 33 from h9 33 (by decide)]; rfl
        · exact absurd (show (12 : Int32) ≤ nI 12 by decide) c_176
      · refine ev_iload_n (q := 174) dX7_image_173 rfl rfl ?_
        refine ev_bipush (q := 176) (12) dX7_image_174 (by decide) rfl ?_
        refine ev_icmp_ge (q := 179) 202 dX7_image_176 (by decide) rfl (fun c_176 => ?_) (fun c_176 => ?_)
        · exact absurd ((nI_leI (a := 12) (by omega) (by omega)).mp c_176) (by omega)
        · refine ev_aload_n (q := 180) dX7_image_179 rfl rfl ?_
          refine ev_get (q := 183) dX7_image_180 fr_X7_52 rfl (lt_n hn (by decide)) rfl rfl ?_
          refine ev_iload_n (q := 184) dX7_image_183 rfl rfl ?_
          refine ev_bipush (q := 186) (56) dX7_image_184 (by decide) rfl ?_
          refine ev_iadd (q := 187) dX7_image_186 rfl ?_
          refine ev_iload_n (q := 188) dX7_image_187 rfl rfl ?_
          refine ev_iadd (q := 189) dX7_image_188 rfl ?_
          refine ev_aload_n (q := 190) dX7_image_189 rfl rfl ?_
          refine ev_get (q := 193) dX7_image_190 fr_X7_33 rfl (lt_n hn (by decide)) rfl rfl ?_
          refine ev_iload_n (q := 194) dX7_image_193 rfl rfl ?_
          refine ev_iaS (q := 195) k dX7_image_194 rfl rfl (by omega) (lt_n hn (by decide)) rfl ?_
          first | refine ev_isK (q := 196) (100 * nn + 56 + k) dX7_image_195 ix3 rfl (by omega) (lt_n hn (by decide)) rfl rfl ?_ | refine ev_isR (q := 196) (100 * nn + 56 + k) dX7_image_195 ix3 rfl (by omega) (lt_n hn (by decide)) rfl rfl ?_
          rw [show ov I0 S 40 k = I 40 k from congrFun (h8 40 (by decide)) k]
          refine ev_inc_3 (q := 199) (nI (k + 1)) dX7_image_196 (nI_1 k) rfl rfl ?_
          refine ev_goto 173 dX7_image_199 (by decide) ?_
          exact e (by omega) (by omega) _ _ (IG_w6 hI (by omega) (by omega) (by omega) (by omega) (by omega) (by omega)) hJ
  have l4 : ∀ j k, k + j = 16 → ∀ I0 J0, IG I I0 (100 * nn) 24 6 6 4 k 0 → JG J J0 (7 * nn) 6 → Ev xl xs 1 22 0 0 mX7_image 142 [some (.ref 33), some (.int (nI nn)), some (.int (nI (100 * nn))), some (.int (nI k))] [] n (sysH (ov I0 S) (ovJ J0 T) X) Q := by
    intro j
    induction j using Nat.strongRecOn with
    | _ j ih =>
      intro k hk I0 J0 hI hJ
      have e : ∀ h1, _ := fun (h1 : j - 1 < j) => ih (j - 1) h1 (k + 1)
      have h8 := hI.2.2.2.2.2.2.2
      refine ev_iload_n (q := 143) dX7_image_142 rfl rfl ?_
      refine ev_bipush (q := 145) (16) dX7_image_143 (by decide) rfl ?_
      refine ev_icmp_ge (q := 148) 171 dX7_image_145 (by decide) rfl (fun c_145 => ?_) (fun c_145 => ?_)
      · have c_145 : 16 ≤ k := (nI_leI (a := 16) (by omega) (by omega)).mp c_145
        have hkN : k = 16 := by omega
        rw [hkN] at hI
        refine ev_iconst (q := 172) (0) dX7_image_171 (by decide) rfl ?_
        refine ev_ist_3 (q := 173) dX7_image_172 rfl rfl ?_
        exact l5 12 0 (by omega) _ _ hI hJ
      · have c_145 : ¬ 16 ≤ k := fun h => c_145 ((nI_leI (a := 16) (by omega) (by omega)).mpr h)
        refine ev_aload_n (q := 149) dX7_image_148 rfl rfl ?_
        refine ev_get (q := 152) dX7_image_149 fr_X7_52 rfl (lt_n hn (by decide)) rfl rfl ?_
        refine ev_iload_n (q := 153) dX7_image_152 rfl rfl ?_
        refine ev_bipush (q := 155) (40) dX7_image_153 (by decide) rfl ?_
        refine ev_iadd (q := 156) dX7_image_155 rfl ?_
        refine ev_iload_n (q := 157) dX7_image_156 rfl rfl ?_
        refine ev_iadd (q := 158) dX7_image_157 rfl ?_
        refine ev_aload_n (q := 159) dX7_image_158 rfl rfl ?_
        refine ev_get (q := 162) dX7_image_159 fr_X7_23 rfl (lt_n hn (by decide)) rfl rfl ?_
        refine ev_iload_n (q := 163) dX7_image_162 rfl rfl ?_
        refine ev_iaS (q := 164) k dX7_image_163 rfl rfl (by omega) (lt_n hn (by decide)) rfl ?_
        first | refine ev_isK (q := 165) (100 * nn + 40 + k) dX7_image_164 ix3 rfl (by omega) (lt_n hn (by decide)) rfl rfl ?_ | refine ev_isR (q := 165) (100 * nn + 40 + k) dX7_image_164 ix3 rfl (by omega) (lt_n hn (by decide)) rfl rfl ?_
        rw [show ov I0 S 37 k = I 37 k from congrFun (h8 37 (by decide)) k]
        refine ev_inc_3 (q := 168) (nI (k + 1)) dX7_image_165 (nI_1 k) rfl rfl ?_
        refine ev_goto 142 dX7_image_168 (by decide) ?_
        exact e (by omega) (by omega) _ _ (IG_w5 hI (by omega) (by omega) (by omega) (by omega) (by omega) (by omega)) hJ
  have l3 : ∀ j k, k + j = 4 → ∀ I0 J0, IG I I0 (100 * nn) 24 6 6 k 0 0 → JG J J0 (7 * nn) 6 → Ev xl xs 1 22 0 0 mX7_image 112 [some (.ref 33), some (.int (nI nn)), some (.int (nI (100 * nn))), some (.int (nI k))] [] n (sysH (ov I0 S) (ovJ J0 T) X) Q := by
    intro j
    induction j using Nat.strongRecOn with
    | _ j ih =>
      intro k hk I0 J0 hI hJ
      have e : ∀ h1, _ := fun (h1 : j - 1 < j) => ih (j - 1) h1 (k + 1)
      have h8 := hI.2.2.2.2.2.2.2
      refine ev_iload_n (q := 113) dX7_image_112 rfl rfl ?_
      refine ev_iconst (q := 114) (4) dX7_image_113 (by decide) rfl ?_
      refine ev_icmp_ge (q := 117) 140 dX7_image_114 (by decide) rfl (fun c_114 => ?_) (fun c_114 => ?_)
      · have c_114 : 4 ≤ k := (nI_leI (a := 4) (by omega) (by omega)).mp c_114
        have hkN : k = 4 := by omega
        rw [hkN] at hI
        refine ev_iconst (q := 141) (0) dX7_image_140 (by decide) rfl ?_
        refine ev_ist_3 (q := 142) dX7_image_141 rfl rfl ?_
        exact l4 16 0 (by omega) _ _ hI hJ
      · have c_114 : ¬ 4 ≤ k := fun h => c_114 ((nI_leI (a := 4) (by omega) (by omega)).mpr h)
        refine ev_aload_n (q := 118) dX7_image_117 rfl rfl ?_
        refine ev_get (q := 121) dX7_image_118 fr_X7_52 rfl (lt_n hn (by decide)) rfl rfl ?_
        refine ev_iload_n (q := 122) dX7_image_121 rfl rfl ?_
        refine ev_bipush (q := 124) (36) dX7_image_122 (by decide) rfl ?_
        refine ev_iadd (q := 125) dX7_image_124 rfl ?_
        refine ev_iload_n (q := 126) dX7_image_125 rfl rfl ?_
        refine ev_iadd (q := 127) dX7_image_126 rfl ?_
        refine ev_aload_n (q := 128) dX7_image_127 rfl rfl ?_
        refine ev_get (q := 131) dX7_image_128 fr_X7_20 rfl (lt_n hn (by decide)) rfl rfl ?_
        refine ev_iload_n (q := 132) dX7_image_131 rfl rfl ?_
        refine ev_iaS (q := 133) k dX7_image_132 rfl rfl (by omega) (lt_n hn (by decide)) rfl ?_
        first | refine ev_isK (q := 134) (100 * nn + 36 + k) dX7_image_133 ix3 rfl (by omega) (lt_n hn (by decide)) rfl rfl ?_ | refine ev_isR (q := 134) (100 * nn + 36 + k) dX7_image_133 ix3 rfl (by omega) (lt_n hn (by decide)) rfl rfl ?_
        rw [show ov I0 S 36 k = I 36 k from congrFun (h8 36 (by decide)) k]
        refine ev_inc_3 (q := 137) (nI (k + 1)) dX7_image_134 (nI_1 k) rfl rfl ?_
        refine ev_goto 112 dX7_image_137 (by decide) ?_
        exact e (by omega) (by omega) _ _ (IG_w4 hI (by omega) (by omega) (by omega) (by omega) (by omega) (by omega)) hJ
  have l2 : ∀ j k, k + j = 6 → ∀ I0 J0, IG I I0 (100 * nn) 24 k k 0 0 0 → JG J J0 (7 * nn) k → Ev xl xs 1 22 0 0 mX7_image 47 [some (.ref 33), some (.int (nI nn)), some (.int (nI (100 * nn))), some (.int (nI k))] [] n (sysH (ov I0 S) (ovJ J0 T) X) Q := by
    intro j
    induction j using Nat.strongRecOn with
    | _ j ih =>
      intro k hk I0 J0 hI hJ
      have e : ∀ h1, _ := fun (h1 : j - 1 < j) => ih (j - 1) h1 (k + 1)
      have h8 := hI.2.2.2.2.2.2.2
      have h9 := hJ.2.2
      refine ev_iload_n (q := 48) dX7_image_47 rfl rfl ?_
      refine ev_bipush (q := 50) (6) dX7_image_48 (by decide) rfl ?_
      refine ev_icmp_ge (q := 53) 110 dX7_image_50 (by decide) rfl (fun c_50 => ?_) (fun c_50 => ?_)
      · have c_50 : 6 ≤ k := (nI_leI (a := 6) (by omega) (by omega)).mp c_50
        have hkN : k = 6 := by omega
        rw [hkN] at hI hJ
        refine ev_iconst (q := 111) (0) dX7_image_110 (by decide) rfl ?_
        refine ev_ist_3 (q := 112) dX7_image_111 rfl rfl ?_
        exact l3 4 0 (by omega) _ _ hI hJ
      · have c_50 : ¬ 6 ≤ k := fun h => c_50 ((nI_leI (a := 6) (by omega) (by omega)).mpr h)
        refine ev_aload_n (q := 54) dX7_image_53 rfl rfl ?_
        refine ev_get (q := 57) dX7_image_54 fr_X7_52 rfl (lt_n hn (by decide)) rfl rfl ?_
        refine ev_iload_n (q := 58) dX7_image_57 rfl rfl ?_
        refine ev_bipush (q := 60) (24) dX7_image_58 (by decide) rfl ?_
        refine ev_iadd (q := 61) dX7_image_60 rfl ?_
        refine ev_iload_n (q := 62) dX7_image_61 rfl rfl ?_
        refine ev_iadd (q := 63) dX7_image_62 rfl ?_
        refine ev_aload_n (q := 64) dX7_image_63 rfl rfl ?_
        refine ev_get (q := 67) dX7_image_64 fr_X7_17 rfl (lt_n hn (by decide)) rfl rfl ?_
        refine ev_iload_n (q := 68) dX7_image_67 rfl rfl ?_
        refine ev_iaS (q := 69) k dX7_image_68 rfl rfl (by omega) (lt_n hn (by decide)) rfl ?_
        first | refine ev_isK (q := 70) (100 * nn + 24 + k) dX7_image_69 ix3 rfl (by omega) (lt_n hn (by decide)) rfl rfl ?_ | refine ev_isR (q := 70) (100 * nn + 24 + k) dX7_image_69 ix3 rfl (by omega) (lt_n hn (by decide)) rfl rfl ?_
        rw [show ov I0 S 35 k = I 35 k from congrFun (h8 35 (by decide)) k]
        refine ev_aload_n (q := 71) dX7_image_70 rfl rfl ?_
        refine ev_get (q := 74) dX7_image_71 fr_X7_52 rfl (lt_n hn (by decide)) rfl rfl ?_
        refine ev_iload_n (q := 75) dX7_image_74 rfl rfl ?_
        refine ev_bipush (q := 77) (30) dX7_image_75 (by decide) rfl ?_
        refine ev_iadd (q := 78) dX7_image_77 rfl ?_
        refine ev_iload_n (q := 79) dX7_image_78 rfl rfl ?_
        refine ev_iadd (q := 80) dX7_image_79 rfl ?_
        refine ev_aload_n (q := 81) dX7_image_80 rfl rfl ?_
        refine ev_get (q := 84) dX7_image_81 fr_X7_30 rfl (lt_n hn (by decide)) rfl rfl ?_
        refine ev_iload_n (q := 85) dX7_image_84 rfl rfl ?_
        refine ev_iaS (q := 86) k dX7_image_85 rfl rfl (by omega) (lt_n hn (by decide)) rfl ?_
        first | refine ev_isK (q := 87) (100 * nn + 30 + k) dX7_image_86 ix3 rfl (by omega) (lt_n hn (by decide)) rfl rfl ?_ | refine ev_isR (q := 87) (100 * nn + 30 + k) dX7_image_86 ix3 rfl (by omega) (lt_n hn (by decide)) rfl rfl ?_
        rw [show ov (wr I0 46 (100 * nn + 24 + k) (I 35 k)) S 39 k = I 39 k from congrFun (h8 39 (by decide)) k]
        refine ev_aload_n (q := 88) dX7_image_87 rfl rfl ?_
        refine ev_get (q := 91) dX7_image_88 fr_X7_55 rfl (lt_n hn (by decide)) rfl rfl ?_
        refine ev_bipush (q := 93) (7) dX7_image_91 (by decide) rfl ?_
        refine ev_iload_n (q := 94) dX7_image_93 rfl rfl ?_
        refine ev_imul (q := 95) dX7_image_94 rfl ?_
        refine ev_iload_n (q := 96) dX7_image_95 rfl rfl ?_
        refine ev_iadd (q := 97) dX7_image_96 rfl ?_
        refine ev_aload_n (q := 98) dX7_image_97 rfl rfl ?_
        refine ev_get (q := 101) dX7_image_98 fr_X7_26 rfl (lt_n hn (by decide)) rfl rfl ?_
        refine ev_iload_n (q := 102) dX7_image_101 rfl rfl ?_
        refine ev_laS (q := 103) k dX7_image_102 rfl rfl (by omega) (lt_n hn (by decide)) rfl ?_
        first | refine ev_lsK (q := 104) (7 * nn + k) dX7_image_103 (by rw [h7]; exact nI_add _ _) rfl (by omega) (lt_n hn (by decide)) rfl rfl ?_ | refine ev_lsR (q := 104) (7 * nn + k) dX7_image_103 (by rw [h7]; exact nI_add _ _) rfl (by omega) (lt_n hn (by decide)) rfl rfl ?_
        rw [show ovJ J0 T 38 k = J 38 k from congrFun (h9 38 (by decide)) k]
        refine ev_inc_3 (q := 107) (nI (k + 1)) dX7_image_104 (nI_1 k) rfl rfl ?_
        refine ev_goto 47 dX7_image_107 (by decide) ?_
        exact e (by omega) (by omega) _ _ (IG_w3 (IG_w2 hI (by omega) (by omega) (by omega) (by omega) (by omega) (by omega)) (by omega) (by omega) (by omega) (by omega) (by omega) (by omega)) (JG_w hJ (by omega))
  have l1 : ∀ j k, k + j = 24 → ∀ I0 J0, IG I I0 (100 * nn) k 0 0 0 0 0 → JG J J0 (7 * nn) 0 → Ev xl xs 1 22 0 0 mX7_image 19 [some (.ref 33), some (.int (nI nn)), some (.int (nI (100 * nn))), some (.int (nI k))] [] n (sysH (ov I0 S) (ovJ J0 T) X) Q := by
    intro j
    induction j using Nat.strongRecOn with
    | _ j ih =>
      intro k hk I0 J0 hI hJ
      have e : ∀ h1, _ := fun (h1 : j - 1 < j) => ih (j - 1) h1 (k + 1)
      have h8 := hI.2.2.2.2.2.2.2
      refine ev_iload_n (q := 20) dX7_image_19 rfl rfl ?_
      refine ev_bipush (q := 22) (24) dX7_image_20 (by decide) rfl ?_
      refine ev_icmp_ge (q := 25) 45 dX7_image_22 (by decide) rfl (fun c_22 => ?_) (fun c_22 => ?_)
      · have c_22 : 24 ≤ k := (nI_leI (a := 24) (by omega) (by omega)).mp c_22
        have hkN : k = 24 := by omega
        rw [hkN] at hI
        refine ev_iconst (q := 46) (0) dX7_image_45 (by decide) rfl ?_
        refine ev_ist_3 (q := 47) dX7_image_46 rfl rfl ?_
        exact l2 6 0 (by omega) _ _ hI hJ
      · have c_22 : ¬ 24 ≤ k := fun h => c_22 ((nI_leI (a := 24) (by omega) (by omega)).mpr h)
        refine ev_aload_n (q := 26) dX7_image_25 rfl rfl ?_
        refine ev_get (q := 29) dX7_image_26 fr_X7_52 rfl (lt_n hn (by decide)) rfl rfl ?_
        refine ev_iload_n (q := 30) dX7_image_29 rfl rfl ?_
        refine ev_iload_n (q := 31) dX7_image_30 rfl rfl ?_
        refine ev_iadd (q := 32) dX7_image_31 rfl ?_
        refine ev_aload_n (q := 33) dX7_image_32 rfl rfl ?_
        refine ev_get (q := 36) dX7_image_33 fr_X7_13 rfl (lt_n hn (by decide)) rfl rfl ?_
        refine ev_iload_n (q := 37) dX7_image_36 rfl rfl ?_
        refine ev_iaS (q := 38) k dX7_image_37 rfl rfl (by omega) (lt_n hn (by decide)) rfl ?_
        first | refine ev_isK (q := 39) (100 * nn + k) dX7_image_38 (nI_add _ _) rfl (by omega) (lt_n hn (by decide)) rfl rfl ?_ | refine ev_isR (q := 39) (100 * nn + k) dX7_image_38 (nI_add _ _) rfl (by omega) (lt_n hn (by decide)) rfl rfl ?_
        rw [show ov I0 S 34 k = I 34 k from congrFun (h8 34 (by decide)) k]
        refine ev_inc_3 (q := 42) (nI (k + 1)) dX7_image_39 (nI_1 k) rfl rfl ?_
        refine ev_goto 19 dX7_image_42 (by decide) ?_
        exact e (by omega) (by omega) _ _ (IG_w1 hI (by omega) (by omega) (by omega) (by omega) (by omega) (by omega)) hJ
  refine ev_iload_n (q := 1) dX7_image_0 rfl rfl ?_
  refine ev_iconst (q := 2) (0) dX7_image_1 (by decide) rfl ?_
  refine ev_iconst (q := 3) (1) dX7_image_2 (by decide) rfl ?_
  refine ev_callS3i (q := 6) dX7_image_3 ca_X7_99 (c_X7_in _ _ _) (Nat.le_of_ble_eq_true rfl) (Nat.le_of_ble_eq_true rfl) (by decide) (by decide) rfl ?_
  refine ev_if_ne (q := 9) 12 dX7_image_6 (by decide) rfl (fun c_6 => ?_) (fun c_6 => ?_)
  · refine ev_bipush (q := 14) (100) dX7_image_12 (by decide) rfl ?_
    refine ev_iload_n (q := 15) dX7_image_14 rfl rfl ?_
    refine ev_imul (q := 16) dX7_image_15 rfl ?_
    rw [hb]
    refine ev_ist_2 (q := 17) dX7_image_16 rfl rfl ?_
    refine ev_iconst (q := 18) (0) dX7_image_17 (by decide) rfl ?_
    refine ev_ist_3 (q := 19) dX7_image_18 rfl rfl ?_
    exact l1 24 0 (by omega) _ _ ⟨fun i hi => absurd hi (by omega), fun i hi => absurd hi (by omega), fun i hi => absurd hi (by omega), fun i hi => absurd hi (by omega), fun i hi => absurd hi (by omega), fun i hi => absurd hi (by omega), fun _ _ => rfl, fun _ _ => rfl⟩ ⟨fun i hi => absurd hi (by omega), fun _ _ => rfl, fun _ _ => rfl⟩
  · exact absurd c_6 (b2i_n0.mpr hv)
def fillJ (J : Nat → Nat → Int64) (p N : Nat) (f : Nat → Int64) : Nat → Nat → Int64 := setJ J p (fun j => if j < N then f j else J p j)
theorem fillJ_0 (J : Nat → Nat → Int64) (p : Nat) (f : Nat → Int64) : fillJ J p 0 f = J := by
  funext a b
  by_cases ha : a = p
  · subst ha; simp [fillJ, setJ]
  · simp [fillJ, setJ, ha]
theorem fillJ_s (J : Nat → Nat → Int64) (p k : Nat) (f : Nat → Int64) : setJ (fillJ J p k f) p (vp_updL (fillJ J p k f p) k (f k)) = fillJ J p (k + 1) f := by
  funext a b
  by_cases ha : a = p
  · subst ha
    by_cases hb : b = k
    · subst hb; simp [fillJ, setJ, vp_updL]
    · by_cases h1 : b < k
      · simp [fillJ, setJ, vp_updL, hb, h1, show b < k + 1 by omega]
      · simp [fillJ, setJ, vp_updL, hb, h1, show ¬ b < k + 1 by omega]
  · simp [fillJ, setJ, ha]
theorem fillJ_at {J : Nat → Nat → Int64} {p N j : Nat} {f : Nat → Int64} (h : j < N) : fillJ J p N f p j = f j := by simp [fillJ, setJ, h]
theorem fillA_cm {I : Nat → Nat → Int32} {p q k j : Nat} {f : Nat → Int32} {x : Int32} (h : p ≠ q) : wr (fillA I q k f) p j x = fillA (wr I p j x) q k f := by
  funext a b
  by_cases ha : a = p
  · subst ha; simp [fillA, setI, h]
  · by_cases hq : a = q
    · subst hq; simp [fillA, setI, ha]
    · simp [fillA, setI, ha, hq]
def rs1 (I : Nat → Nat → Int32) (b : Nat) : Nat → Nat → Int32 := fillA I 34 24 (fun j => I 46 (b + j))
def rs2 (I : Nat → Nat → Int32) (b : Nat) : Nat → Nat → Int32 := fillA (fillA (rs1 I b) 35 6 (fun j => I 46 (b + 24 + j))) 39 6 (fun j => I 46 (b + 30 + j))
def rs3 (I : Nat → Nat → Int32) (b : Nat) : Nat → Nat → Int32 := fillA (rs2 I b) 36 4 (fun j => I 46 (b + 36 + j))
def rs4 (I : Nat → Nat → Int32) (b : Nat) : Nat → Nat → Int32 := fillA (rs3 I b) 37 16 (fun j => I 46 (b + 40 + j))
def rs5 (I : Nat → Nat → Int32) (b : Nat) : Nat → Nat → Int32 := fillA (rs4 I b) 40 12 (fun j => I 46 (b + 56 + j))
def rsI (I : Nat → Nat → Int32) (b : Nat) : Nat → Nat → Int32 := wr (wr (wr (wr (wr (wr (wr (wr (rs5 I b) 33 0 (I 46 (b + 68))) 33 4 (I 46 (b + 69))) 33 5 (I 46 (b + 70))) 33 6 (I 46 (b + 71))) 33 7 (I 46 (b + 72))) 33 9 (I 46 (b + 73))) 33 11 (I 46 (b + 74))) 33 14 (I 46 (b + 75))
def rsJ (J : Nat → Nat → Int64) (b : Nat) : Nat → Nat → Int64 := wrJ (fillJ J 38 6 (fun j => J 47 (b + j))) 33 8 (J 47 (b + 6))
theorem s_X7_restore_f (hn : 49 ≤ n) {v : Int32} (hv : inb v 0 1 = false) : RnS xl xs 1 22 0 0 mX7_restore [.ref 33, .int v] n I J X (some (.int (-2))) n I J X := by
  intro S T Q hQ
  show Ev xl xs 1 22 0 0 mX7_restore 0 [some (.ref 33), some (.int v), none, none] [] n (sysH (ov I S) (ovJ J T) X) Q
  refine ev_iload_n (q := 1) dX7_restore_0 rfl rfl ?_
  refine ev_iconst (q := 2) (0) dX7_restore_1 (by decide) rfl ?_
  refine ev_iconst (q := 3) (1) dX7_restore_2 (by decide) rfl ?_
  refine ev_callS3i (q := 6) dX7_restore_3 ca_X7_99 (c_X7_in _ _ _) (Nat.le_of_ble_eq_true rfl) (Nat.le_of_ble_eq_true rfl) (by decide) (by decide) rfl ?_
  refine ev_if_ne (q := 9) 12 dX7_restore_6 (by decide) rfl (fun c_6 => ?_) (fun c_6 => ?_)
  · exact absurd (b2i_ne.mp c_6) (by rw [hv]; decide)
  · refine ev_bipush (q := 11) (-2) dX7_restore_9 (by decide) rfl ?_
    exact ev_iretE dX7_restore_11 rfl rfl rfl rfl rfl (hQ _ _)
theorem s_X7_restore_n {nn : Nat} (hn : 49 ≤ n) (h1 : nn < 2) (hk : I 48 nn = 0) : RnS xl xs 1 22 0 0 mX7_restore [.ref 33, .int (nI nn)] n I J X (some (.int (-3))) n I J X := by
  intro S T Q hQ
  have hv : inb (nI nn) 0 1 = true := by
    have : ∀ m, m < 2 → inb (nI m) 0 1 = true := by decide +kernel
    exact this nn h1
  show Ev xl xs 1 22 0 0 mX7_restore 0 [some (.ref 33), some (.int (nI nn)), none, none] [] n (sysH (ov I S) (ovJ J T) X) Q
  refine ev_iload_n (q := 1) dX7_restore_0 rfl rfl ?_
  refine ev_iconst (q := 2) (0) dX7_restore_1 (by decide) rfl ?_
  refine ev_iconst (q := 3) (1) dX7_restore_2 (by decide) rfl ?_
  refine ev_callS3i (q := 6) dX7_restore_3 ca_X7_99 (c_X7_in _ _ _) (Nat.le_of_ble_eq_true rfl) (Nat.le_of_ble_eq_true rfl) (by decide) (by decide) rfl ?_
  refine ev_if_ne (q := 9) 12 dX7_restore_6 (by decide) rfl (fun c_6 => ?_) (fun c_6 => ?_)
  · refine ev_aload_n (q := 13) dX7_restore_12 rfl rfl ?_
    refine ev_get (q := 16) dX7_restore_13 fr_X7_58 rfl (lt_n hn (by decide)) rfl rfl ?_
    refine ev_iload_n (q := 17) dX7_restore_16 rfl rfl ?_
    refine ev_zaS (q := 18) nn dX7_restore_17 rfl rfl (by omega) (lt_n hn (by decide)) rfl ?_
    refine ev_if_ne (q := 21) 24 dX7_restore_18 (by decide) rfl (fun c_18 => ?_) (fun c_18 => ?_)
    · exact absurd hk c_18
    · refine ev_bipush (q := 23) (-3) dX7_restore_21 (by decide) rfl ?_
      exact ev_iretE dX7_restore_23 rfl rfl rfl rfl rfl (hQ _ _)
  · exact absurd c_6 (b2i_n0.mpr hv)
theorem s_X7_restore {nn : Nat} (hn : 49 ≤ n) (h1 : nn < 2) (hk : I 48 nn = 1) : RnS xl xs 1 22 0 0 mX7_restore [.ref 33, .int (nI nn)] n I J X (some (.int 1)) n (rsI I (100 * nn)) (rsJ J (7 * nn)) X := by
  intro S T Q hQ
  have hv : inb (nI nn) 0 1 = true := by
    have : ∀ m, m < 2 → inb (nI m) 0 1 = true := by decide +kernel
    exact this nn h1
  have hb : (100 : Int32) * nI nn = nI (100 * nn) := pk_mul 100 nn
  have h7 : (7 : Int32) * nI nn = nI (7 * nn) := pk_mul 7 nn
  show Ev xl xs 1 22 0 0 mX7_restore 0 [some (.ref 33), some (.int (nI nn)), none, none] [] n (sysH (ov I S) (ovJ J T) X) Q
  unfold rsI rsJ at hQ
  generalize hbb : 100 * nn = b at hb hQ ⊢
  have hbl : b ≤ 100 := by omega
  have l6 : Ev xl xs 1 22 0 0 mX7_restore 214 [some (.ref 33), some (.int (nI nn)), some (.int (nI b)), some (.int (nI 12))] [] n (sysH (ov (rs5 I b) S) (ovJ (fillJ J 38 6 (fun j => J 47 (7 * nn + j))) T) X) Q := by
    refine ev_aload_n (q := 215) dX7_restore_214 rfl rfl ?_
    refine ev_aload_n (q := 216) dX7_restore_215 rfl rfl ?_
    refine ev_get (q := 219) dX7_restore_216 fr_X7_52 rfl (lt_n hn (by decide)) rfl rfl ?_
    refine ev_iload_n (q := 220) dX7_restore_219 rfl rfl ?_
    refine ev_bipush (q := 222) (68) dX7_restore_220 (by decide) rfl ?_
    refine ev_iadd (q := 223) dX7_restore_222 rfl ?_
    refine ev_iaS (q := 224) (b + 68) dX7_restore_223 (nI_add _ 68) rfl (by omega) (lt_n hn (by decide)) rfl ?_
    first | refine ev_putIK (q := 227) dX7_restore_224 fa_X7_7 rfl (by decide) (lt_n hn (by decide)) (Nat.le_of_ble_eq_true rfl) ⟨rfl, rfl⟩ rfl rfl rfl ?_ | refine ev_putIR (q := 227) dX7_restore_224 fa_X7_7 rfl (by decide) (lt_n hn (by decide)) (Nat.le_of_ble_eq_true rfl) ⟨rfl, rfl⟩ rfl rfl rfl ?_
    refine ev_aload_n (q := 228) dX7_restore_227 rfl rfl ?_
    refine ev_aload_n (q := 229) dX7_restore_228 rfl rfl ?_
    refine ev_get (q := 232) dX7_restore_229 fr_X7_52 rfl (lt_n hn (by decide)) rfl rfl ?_
    refine ev_iload_n (q := 233) dX7_restore_232 rfl rfl ?_
    refine ev_bipush (q := 235) (69) dX7_restore_233 (by decide) rfl ?_
    refine ev_iadd (q := 236) dX7_restore_235 rfl ?_
    refine ev_iaS (q := 237) (b + 69) dX7_restore_236 (nI_add _ 69) rfl (by omega) (lt_n hn (by decide)) rfl ?_
    first | refine ev_putIK (q := 240) dX7_restore_237 fa_X7_64 rfl (by decide) (lt_n hn (by decide)) (Nat.le_of_ble_eq_true rfl) ⟨rfl, rfl⟩ rfl rfl rfl ?_ | refine ev_putIR (q := 240) dX7_restore_237 fa_X7_64 rfl (by decide) (lt_n hn (by decide)) (Nat.le_of_ble_eq_true rfl) ⟨rfl, rfl⟩ rfl rfl rfl ?_
    refine ev_aload_n (q := 241) dX7_restore_240 rfl rfl ?_
    refine ev_aload_n (q := 242) dX7_restore_241 rfl rfl ?_
    refine ev_get (q := 245) dX7_restore_242 fr_X7_52 rfl (lt_n hn (by decide)) rfl rfl ?_
    refine ev_iload_n (q := 246) dX7_restore_245 rfl rfl ?_
    refine ev_bipush (q := 248) (70) dX7_restore_246 (by decide) rfl ?_
    refine ev_iadd (q := 249) dX7_restore_248 rfl ?_
    refine ev_iaS (q := 250) (b + 70) dX7_restore_249 (nI_add _ 70) rfl (by omega) (lt_n hn (by decide)) rfl ?_
    first | refine ev_putIK (q := 253) dX7_restore_250 fa_X7_67 rfl (by decide) (lt_n hn (by decide)) (Nat.le_of_ble_eq_true rfl) ⟨rfl, rfl⟩ rfl rfl rfl ?_ | refine ev_putIR (q := 253) dX7_restore_250 fa_X7_67 rfl (by decide) (lt_n hn (by decide)) (Nat.le_of_ble_eq_true rfl) ⟨rfl, rfl⟩ rfl rfl rfl ?_
    refine ev_aload_n (q := 254) dX7_restore_253 rfl rfl ?_
    refine ev_aload_n (q := 255) dX7_restore_254 rfl rfl ?_
    refine ev_get (q := 258) dX7_restore_255 fr_X7_52 rfl (lt_n hn (by decide)) rfl rfl ?_
    refine ev_iload_n (q := 259) dX7_restore_258 rfl rfl ?_
    refine ev_bipush (q := 261) (71) dX7_restore_259 (by decide) rfl ?_
    refine ev_iadd (q := 262) dX7_restore_261 rfl ?_
    refine ev_iaS (q := 263) (b + 71) dX7_restore_262 (nI_add _ 71) rfl (by omega) (lt_n hn (by decide)) rfl ?_
    first | refine ev_putIK (q := 266) dX7_restore_263 fa_X7_70 rfl (by decide) (lt_n hn (by decide)) (Nat.le_of_ble_eq_true rfl) ⟨rfl, rfl⟩ rfl rfl rfl ?_ | refine ev_putIR (q := 266) dX7_restore_263 fa_X7_70 rfl (by decide) (lt_n hn (by decide)) (Nat.le_of_ble_eq_true rfl) ⟨rfl, rfl⟩ rfl rfl rfl ?_
    refine ev_aload_n (q := 267) dX7_restore_266 rfl rfl ?_
    refine ev_aload_n (q := 268) dX7_restore_267 rfl rfl ?_
    refine ev_get (q := 271) dX7_restore_268 fr_X7_52 rfl (lt_n hn (by decide)) rfl rfl ?_
    refine ev_iload_n (q := 272) dX7_restore_271 rfl rfl ?_
    refine ev_bipush (q := 274) (72) dX7_restore_272 (by decide) rfl ?_
    refine ev_iadd (q := 275) dX7_restore_274 rfl ?_
    refine ev_iaS (q := 276) (b + 72) dX7_restore_275 (nI_add _ 72) rfl (by omega) (lt_n hn (by decide)) rfl ?_
    first | refine ev_putIK (q := 279) dX7_restore_276 fa_X7_73 rfl (by decide) (lt_n hn (by decide)) (Nat.le_of_ble_eq_true rfl) ⟨rfl, rfl⟩ rfl rfl rfl ?_ | refine ev_putIR (q := 279) dX7_restore_276 fa_X7_73 rfl (by decide) (lt_n hn (by decide)) (Nat.le_of_ble_eq_true rfl) ⟨rfl, rfl⟩ rfl rfl rfl ?_
    refine ev_aload_n (q := 280) dX7_restore_279 rfl rfl ?_
    refine ev_aload_n (q := 281) dX7_restore_280 rfl rfl ?_
    refine ev_get (q := 284) dX7_restore_281 fr_X7_52 rfl (lt_n hn (by decide)) rfl rfl ?_
    refine ev_iload_n (q := 285) dX7_restore_284 rfl rfl ?_
    refine ev_bipush (q := 287) (73) dX7_restore_285 (by decide) rfl ?_
    refine ev_iadd (q := 288) dX7_restore_287 rfl ?_
    refine ev_iaS (q := 289) (b + 73) dX7_restore_288 (nI_add _ 73) rfl (by omega) (lt_n hn (by decide)) rfl ?_
    first | refine ev_putIK (q := 292) dX7_restore_289 fa_X7_84 rfl (by decide) (lt_n hn (by decide)) (Nat.le_of_ble_eq_true rfl) ⟨rfl, rfl⟩ rfl rfl rfl ?_ | refine ev_putIR (q := 292) dX7_restore_289 fa_X7_84 rfl (by decide) (lt_n hn (by decide)) (Nat.le_of_ble_eq_true rfl) ⟨rfl, rfl⟩ rfl rfl rfl ?_
    refine ev_aload_n (q := 293) dX7_restore_292 rfl rfl ?_
    refine ev_aload_n (q := 294) dX7_restore_293 rfl rfl ?_
    refine ev_get (q := 297) dX7_restore_294 fr_X7_52 rfl (lt_n hn (by decide)) rfl rfl ?_
    refine ev_iload_n (q := 298) dX7_restore_297 rfl rfl ?_
    refine ev_bipush (q := 300) (74) dX7_restore_298 (by decide) rfl ?_
    refine ev_iadd (q := 301) dX7_restore_300 rfl ?_
    refine ev_iaS (q := 302) (b + 74) dX7_restore_301 (nI_add _ 74) rfl (by omega) (lt_n hn (by decide)) rfl ?_
    first | refine ev_putIK (q := 305) dX7_restore_302 fa_X7_87 rfl (by decide) (lt_n hn (by decide)) (Nat.le_of_ble_eq_true rfl) ⟨rfl, rfl⟩ rfl rfl rfl ?_ | refine ev_putIR (q := 305) dX7_restore_302 fa_X7_87 rfl (by decide) (lt_n hn (by decide)) (Nat.le_of_ble_eq_true rfl) ⟨rfl, rfl⟩ rfl rfl rfl ?_
    refine ev_aload_n (q := 306) dX7_restore_305 rfl rfl ?_
    refine ev_aload_n (q := 307) dX7_restore_306 rfl rfl ?_
    refine ev_get (q := 310) dX7_restore_307 fr_X7_52 rfl (lt_n hn (by decide)) rfl rfl ?_
    refine ev_iload_n (q := 311) dX7_restore_310 rfl rfl ?_
    refine ev_bipush (q := 313) (75) dX7_restore_311 (by decide) rfl ?_
    refine ev_iadd (q := 314) dX7_restore_313 rfl ?_
    refine ev_iaS (q := 315) (b + 75) dX7_restore_314 (nI_add _ 75) rfl (by omega) (lt_n hn (by decide)) rfl ?_
    first | refine ev_putIK (q := 318) dX7_restore_315 fa_X7_90 rfl (by decide) (lt_n hn (by decide)) (Nat.le_of_ble_eq_true rfl) ⟨rfl, rfl⟩ rfl rfl rfl ?_ | refine ev_putIR (q := 318) dX7_restore_315 fa_X7_90 rfl (by decide) (lt_n hn (by decide)) (Nat.le_of_ble_eq_true rfl) ⟨rfl, rfl⟩ rfl rfl rfl ?_
    refine ev_aload_n (q := 319) dX7_restore_318 rfl rfl ?_
    refine ev_aload_n (q := 320) dX7_restore_319 rfl rfl ?_
    refine ev_get (q := 323) dX7_restore_320 fr_X7_55 rfl (lt_n hn (by decide)) rfl rfl ?_
    refine ev_bipush (q := 325) (7) dX7_restore_323 (by decide) rfl ?_
    refine ev_iload_n (q := 326) dX7_restore_325 rfl rfl ?_
    refine ev_imul (q := 327) dX7_restore_326 rfl ?_
    refine ev_bipush (q := 329) (6) dX7_restore_327 (by decide) rfl ?_
    refine ev_iadd (q := 330) dX7_restore_329 rfl ?_
    refine ev_laS (q := 331) (7 * nn + 6) dX7_restore_330 (by rw [h7]; exact nI_add _ 6) rfl (by omega) (lt_n hn (by decide)) rfl ?_
    refine ev_putJR (q := 334) dX7_restore_331 fa_X7_80 rfl (by decide) (lt_n hn (by decide)) (Nat.le_of_ble_eq_true rfl) ⟨rfl, rfl⟩ rfl rfl rfl ?_
    refine ev_iconst (q := 335) (1) dX7_restore_334 (by decide) rfl ?_
    exact ev_iretE dX7_restore_335 rfl rfl rfl rfl rfl (hQ _ _)
  have l5 : ∀ j k, k + j = 12 → Ev xl xs 1 22 0 0 mX7_restore 185 [some (.ref 33), some (.int (nI nn)), some (.int (nI b)), some (.int (nI k))] [] n (sysH (ov (fillA (rs4 I b) 40 k (fun j => I 46 (b + 56 + j))) S) (ovJ (fillJ J 38 6 (fun j => J 47 (7 * nn + j))) T) X) Q := by
    intro j
    induction j using Nat.strongRecOn with
    | _ j ih =>
      intro k hk
      have e : ∀ h1, _ := fun (h1 : j - 1 < j) => ih (j - 1) h1 (k + 1)
      refine ev_iload_n (q := 186) dX7_restore_185 rfl rfl ?_
      refine ev_bipush (q := 188) (12) dX7_restore_186 (by decide) rfl ?_
      refine ev_icmp_ge (q := 191) 214 dX7_restore_188 (by decide) rfl (fun c_188 => ?_) (fun c_188 => ?_)
      · have c_188 : 12 ≤ k := (nI_leI (a := 12) (by omega) (by omega)).mp c_188
        rw [show k = 12 by omega]
        exact l6
      · have c_188 : ¬ 12 ≤ k := fun h => c_188 ((nI_leI (a := 12) (by omega) (by omega)).mpr h)
        refine ev_aload_n (q := 192) dX7_restore_191 rfl rfl ?_
        refine ev_get (q := 195) dX7_restore_192 fr_X7_33 rfl (lt_n hn (by decide)) rfl rfl ?_
        refine ev_iload_n (q := 196) dX7_restore_195 rfl rfl ?_
        refine ev_aload_n (q := 197) dX7_restore_196 rfl rfl ?_
        refine ev_get (q := 200) dX7_restore_197 fr_X7_52 rfl (lt_n hn (by decide)) rfl rfl ?_
        refine ev_iload_n (q := 201) dX7_restore_200 rfl rfl ?_
        refine ev_bipush (q := 203) (56) dX7_restore_201 (by decide) rfl ?_
        refine ev_iadd (q := 204) dX7_restore_203 rfl ?_
        refine ev_iload_n (q := 205) dX7_restore_204 rfl rfl ?_
        refine ev_iadd (q := 206) dX7_restore_205 rfl ?_
        refine ev_iaS (q := 207) (b + 56 + k) dX7_restore_206 ix3 rfl (by omega) (lt_n hn (by decide)) rfl ?_
        first | refine ev_isK (q := 208) k dX7_restore_207 rfl rfl (by omega) (lt_n hn (by decide)) rfl rfl ?_ | refine ev_isR (q := 208) k dX7_restore_207 rfl rfl (by omega) (lt_n hn (by decide)) rfl rfl ?_
        rw [show setI (fillA (rs4 I b) 40 k (fun j => I 46 (b + 56 + j))) 40 (upd (fillA (rs4 I b) 40 k (fun j => I 46 (b + 56 + j)) 40) k (ov (fillA (rs4 I b) 40 k (fun j => I 46 (b + 56 + j))) S 46 (b + 56 + k))) = fillA (rs4 I b) 40 (k + 1) (fun j => I 46 (b + 56 + j)) from fillA_s _ _ _ (fun j => I 46 (b + 56 + j))]
        refine ev_inc_3 (q := 211) (nI (k + 1)) dX7_restore_208 (nI_1 k) rfl rfl ?_
        refine ev_goto 185 dX7_restore_211 (by decide) ?_
        exact e (by omega) (by omega)
  have l4 : ∀ j k, k + j = 16 → Ev xl xs 1 22 0 0 mX7_restore 154 [some (.ref 33), some (.int (nI nn)), some (.int (nI b)), some (.int (nI k))] [] n (sysH (ov (fillA (rs3 I b) 37 k (fun j => I 46 (b + 40 + j))) S) (ovJ (fillJ J 38 6 (fun j => J 47 (7 * nn + j))) T) X) Q := by
    intro j
    induction j using Nat.strongRecOn with
    | _ j ih =>
      intro k hk
      have e : ∀ h1, _ := fun (h1 : j - 1 < j) => ih (j - 1) h1 (k + 1)
      refine ev_iload_n (q := 155) dX7_restore_154 rfl rfl ?_
      refine ev_bipush (q := 157) (16) dX7_restore_155 (by decide) rfl ?_
      refine ev_icmp_ge (q := 160) 183 dX7_restore_157 (by decide) rfl (fun c_157 => ?_) (fun c_157 => ?_)
      · have c_157 : 16 ≤ k := (nI_leI (a := 16) (by omega) (by omega)).mp c_157
        rw [show k = 16 by omega]
        refine ev_iconst (q := 184) (0) dX7_restore_183 (by decide) rfl ?_
        refine ev_ist_3 (q := 185) dX7_restore_184 rfl rfl ?_
        have e3 := l5 12 0 (by omega)
        rw [fillA_0] at e3
        exact e3
      · have c_157 : ¬ 16 ≤ k := fun h => c_157 ((nI_leI (a := 16) (by omega) (by omega)).mpr h)
        refine ev_aload_n (q := 161) dX7_restore_160 rfl rfl ?_
        refine ev_get (q := 164) dX7_restore_161 fr_X7_23 rfl (lt_n hn (by decide)) rfl rfl ?_
        refine ev_iload_n (q := 165) dX7_restore_164 rfl rfl ?_
        refine ev_aload_n (q := 166) dX7_restore_165 rfl rfl ?_
        refine ev_get (q := 169) dX7_restore_166 fr_X7_52 rfl (lt_n hn (by decide)) rfl rfl ?_
        refine ev_iload_n (q := 170) dX7_restore_169 rfl rfl ?_
        refine ev_bipush (q := 172) (40) dX7_restore_170 (by decide) rfl ?_
        refine ev_iadd (q := 173) dX7_restore_172 rfl ?_
        refine ev_iload_n (q := 174) dX7_restore_173 rfl rfl ?_
        refine ev_iadd (q := 175) dX7_restore_174 rfl ?_
        refine ev_iaS (q := 176) (b + 40 + k) dX7_restore_175 ix3 rfl (by omega) (lt_n hn (by decide)) rfl ?_
        first | refine ev_isK (q := 177) k dX7_restore_176 rfl rfl (by omega) (lt_n hn (by decide)) rfl rfl ?_ | refine ev_isR (q := 177) k dX7_restore_176 rfl rfl (by omega) (lt_n hn (by decide)) rfl rfl ?_
        rw [show setI (fillA (rs3 I b) 37 k (fun j => I 46 (b + 40 + j))) 37 (upd (fillA (rs3 I b) 37 k (fun j => I 46 (b + 40 + j)) 37) k (ov (fillA (rs3 I b) 37 k (fun j => I 46 (b + 40 + j))) S 46 (b + 40 + k))) = fillA (rs3 I b) 37 (k + 1) (fun j => I 46 (b + 40 + j)) from fillA_s _ _ _ (fun j => I 46 (b + 40 + j))]
        refine ev_inc_3 (q := 180) (nI (k + 1)) dX7_restore_177 (nI_1 k) rfl rfl ?_
        refine ev_goto 154 dX7_restore_180 (by decide) ?_
        exact e (by omega) (by omega)
  have l3 : ∀ j k, k + j = 4 → Ev xl xs 1 22 0 0 mX7_restore 124 [some (.ref 33), some (.int (nI nn)), some (.int (nI b)), some (.int (nI k))] [] n (sysH (ov (fillA (rs2 I b) 36 k (fun j => I 46 (b + 36 + j))) S) (ovJ (fillJ J 38 6 (fun j => J 47 (7 * nn + j))) T) X) Q := by
    intro j
    induction j using Nat.strongRecOn with
    | _ j ih =>
      intro k hk
      have e : ∀ h1, _ := fun (h1 : j - 1 < j) => ih (j - 1) h1 (k + 1)
      refine ev_iload_n (q := 125) dX7_restore_124 rfl rfl ?_
      refine ev_iconst (q := 126) (4) dX7_restore_125 (by decide) rfl ?_
      refine ev_icmp_ge (q := 129) 152 dX7_restore_126 (by decide) rfl (fun c_126 => ?_) (fun c_126 => ?_)
      · have c_126 : 4 ≤ k := (nI_leI (a := 4) (by omega) (by omega)).mp c_126
        rw [show k = 4 by omega]
        refine ev_iconst (q := 153) (0) dX7_restore_152 (by decide) rfl ?_
        refine ev_ist_3 (q := 154) dX7_restore_153 rfl rfl ?_
        have e3 := l4 16 0 (by omega)
        rw [fillA_0] at e3
        exact e3
      · have c_126 : ¬ 4 ≤ k := fun h => c_126 ((nI_leI (a := 4) (by omega) (by omega)).mpr h)
        refine ev_aload_n (q := 130) dX7_restore_129 rfl rfl ?_
        refine ev_get (q := 133) dX7_restore_130 fr_X7_20 rfl (lt_n hn (by decide)) rfl rfl ?_
        refine ev_iload_n (q := 134) dX7_restore_133 rfl rfl ?_
        refine ev_aload_n (q := 135) dX7_restore_134 rfl rfl ?_
        refine ev_get (q := 138) dX7_restore_135 fr_X7_52 rfl (lt_n hn (by decide)) rfl rfl ?_
        refine ev_iload_n (q := 139) dX7_restore_138 rfl rfl ?_
        refine ev_bipush (q := 141) (36) dX7_restore_139 (by decide) rfl ?_
        refine ev_iadd (q := 142) dX7_restore_141 rfl ?_
        refine ev_iload_n (q := 143) dX7_restore_142 rfl rfl ?_
        refine ev_iadd (q := 144) dX7_restore_143 rfl ?_
        refine ev_iaS (q := 145) (b + 36 + k) dX7_restore_144 ix3 rfl (by omega) (lt_n hn (by decide)) rfl ?_
        first | refine ev_isK (q := 146) k dX7_restore_145 rfl rfl (by omega) (lt_n hn (by decide)) rfl rfl ?_ | refine ev_isR (q := 146) k dX7_restore_145 rfl rfl (by omega) (lt_n hn (by decide)) rfl rfl ?_
        rw [show setI (fillA (rs2 I b) 36 k (fun j => I 46 (b + 36 + j))) 36 (upd (fillA (rs2 I b) 36 k (fun j => I 46 (b + 36 + j)) 36) k (ov (fillA (rs2 I b) 36 k (fun j => I 46 (b + 36 + j))) S 46 (b + 36 + k))) = fillA (rs2 I b) 36 (k + 1) (fun j => I 46 (b + 36 + j)) from fillA_s _ _ _ (fun j => I 46 (b + 36 + j))]
        refine ev_inc_3 (q := 149) (nI (k + 1)) dX7_restore_146 (nI_1 k) rfl rfl ?_
        refine ev_goto 124 dX7_restore_149 (by decide) ?_
        exact e (by omega) (by omega)
  have l2 : ∀ j k, k + j = 6 → Ev xl xs 1 22 0 0 mX7_restore 59 [some (.ref 33), some (.int (nI nn)), some (.int (nI b)), some (.int (nI k))] [] n (sysH (ov (fillA (fillA (rs1 I b) 35 k (fun j => I 46 (b + 24 + j))) 39 k (fun j => I 46 (b + 30 + j))) S) (ovJ (fillJ J 38 k (fun j => J 47 (7 * nn + j))) T) X) Q := by
    intro j
    induction j using Nat.strongRecOn with
    | _ j ih =>
      intro k hk
      have e : ∀ h1, _ := fun (h1 : j - 1 < j) => ih (j - 1) h1 (k + 1)
      refine ev_iload_n (q := 60) dX7_restore_59 rfl rfl ?_
      refine ev_bipush (q := 62) (6) dX7_restore_60 (by decide) rfl ?_
      refine ev_icmp_ge (q := 65) 122 dX7_restore_62 (by decide) rfl (fun c_62 => ?_) (fun c_62 => ?_)
      · have c_62 : 6 ≤ k := (nI_leI (a := 6) (by omega) (by omega)).mp c_62
        rw [show k = 6 by omega]
        refine ev_iconst (q := 123) (0) dX7_restore_122 (by decide) rfl ?_
        refine ev_ist_3 (q := 124) dX7_restore_123 rfl rfl ?_
        have e3 := l3 4 0 (by omega)
        rw [fillA_0] at e3
        exact e3
      · have c_62 : ¬ 6 ≤ k := fun h => c_62 ((nI_leI (a := 6) (by omega) (by omega)).mpr h)
        refine ev_aload_n (q := 66) dX7_restore_65 rfl rfl ?_
        refine ev_get (q := 69) dX7_restore_66 fr_X7_17 rfl (lt_n hn (by decide)) rfl rfl ?_
        refine ev_iload_n (q := 70) dX7_restore_69 rfl rfl ?_
        refine ev_aload_n (q := 71) dX7_restore_70 rfl rfl ?_
        refine ev_get (q := 74) dX7_restore_71 fr_X7_52 rfl (lt_n hn (by decide)) rfl rfl ?_
        refine ev_iload_n (q := 75) dX7_restore_74 rfl rfl ?_
        refine ev_bipush (q := 77) (24) dX7_restore_75 (by decide) rfl ?_
        refine ev_iadd (q := 78) dX7_restore_77 rfl ?_
        refine ev_iload_n (q := 79) dX7_restore_78 rfl rfl ?_
        refine ev_iadd (q := 80) dX7_restore_79 rfl ?_
        refine ev_iaS (q := 81) (b + 24 + k) dX7_restore_80 ix3 rfl (by omega) (lt_n hn (by decide)) rfl ?_
        first | refine ev_isK (q := 82) k dX7_restore_81 rfl rfl (by omega) (lt_n hn (by decide)) rfl rfl ?_ | refine ev_isR (q := 82) k dX7_restore_81 rfl rfl (by omega) (lt_n hn (by decide)) rfl rfl ?_
        rw [show setI (fillA (fillA (rs1 I b) 35 k (fun j => I 46 (b + 24 + j))) 39 k (fun j => I 46 (b + 30 + j))) 35 (upd (fillA (fillA (rs1 I b) 35 k (fun j => I 46 (b + 24 + j))) 39 k (fun j => I 46 (b + 30 + j)) 35) k (ov (fillA (fillA (rs1 I b) 35 k (fun j => I 46 (b + 24 + j))) 39 k (fun j => I 46 (b + 30 + j))) S 46 (b + 24 + k))) = fillA (fillA (rs1 I b) 35 (k + 1) (fun j => I 46 (b + 24 + j))) 39 k (fun j => I 46 (b + 30 + j)) from (fillA_cm (by decide)).trans (congrArg (fun z => fillA z 39 k (fun j => I 46 (b + 30 + j))) (fillA_s _ _ _ (fun j => I 46 (b + 24 + j))))]
        refine ev_aload_n (q := 83) dX7_restore_82 rfl rfl ?_
        refine ev_get (q := 86) dX7_restore_83 fr_X7_30 rfl (lt_n hn (by decide)) rfl rfl ?_
        refine ev_iload_n (q := 87) dX7_restore_86 rfl rfl ?_
        refine ev_aload_n (q := 88) dX7_restore_87 rfl rfl ?_
        refine ev_get (q := 91) dX7_restore_88 fr_X7_52 rfl (lt_n hn (by decide)) rfl rfl ?_
        refine ev_iload_n (q := 92) dX7_restore_91 rfl rfl ?_
        refine ev_bipush (q := 94) (30) dX7_restore_92 (by decide) rfl ?_
        refine ev_iadd (q := 95) dX7_restore_94 rfl ?_
        refine ev_iload_n (q := 96) dX7_restore_95 rfl rfl ?_
        refine ev_iadd (q := 97) dX7_restore_96 rfl ?_
        refine ev_iaS (q := 98) (b + 30 + k) dX7_restore_97 ix3 rfl (by omega) (lt_n hn (by decide)) rfl ?_
        first | refine ev_isK (q := 99) k dX7_restore_98 rfl rfl (by omega) (lt_n hn (by decide)) rfl rfl ?_ | refine ev_isR (q := 99) k dX7_restore_98 rfl rfl (by omega) (lt_n hn (by decide)) rfl rfl ?_
        rw [show setI (fillA (fillA (rs1 I b) 35 (k + 1) (fun j => I 46 (b + 24 + j))) 39 k (fun j => I 46 (b + 30 + j))) 39 (upd (fillA (fillA (rs1 I b) 35 (k + 1) (fun j => I 46 (b + 24 + j))) 39 k (fun j => I 46 (b + 30 + j)) 39) k (ov (fillA (fillA (rs1 I b) 35 (k + 1) (fun j => I 46 (b + 24 + j))) 39 k (fun j => I 46 (b + 30 + j))) S 46 (b + 30 + k))) = fillA (fillA (rs1 I b) 35 (k + 1) (fun j => I 46 (b + 24 + j))) 39 (k + 1) (fun j => I 46 (b + 30 + j)) from fillA_s _ _ _ (fun j => I 46 (b + 30 + j))]
        refine ev_aload_n (q := 100) dX7_restore_99 rfl rfl ?_
        refine ev_get (q := 103) dX7_restore_100 fr_X7_26 rfl (lt_n hn (by decide)) rfl rfl ?_
        refine ev_iload_n (q := 104) dX7_restore_103 rfl rfl ?_
        refine ev_aload_n (q := 105) dX7_restore_104 rfl rfl ?_
        refine ev_get (q := 108) dX7_restore_105 fr_X7_55 rfl (lt_n hn (by decide)) rfl rfl ?_
        refine ev_bipush (q := 110) (7) dX7_restore_108 (by decide) rfl ?_
        refine ev_iload_n (q := 111) dX7_restore_110 rfl rfl ?_
        refine ev_imul (q := 112) dX7_restore_111 rfl ?_
        refine ev_iload_n (q := 113) dX7_restore_112 rfl rfl ?_
        refine ev_iadd (q := 114) dX7_restore_113 rfl ?_
        refine ev_laS (q := 115) (7 * nn + k) dX7_restore_114 (by rw [h7]; exact nI_add _ _) rfl (by omega) (lt_n hn (by decide)) rfl ?_
        first | refine ev_lsK (q := 116) k dX7_restore_115 rfl rfl (by omega) (lt_n hn (by decide)) rfl rfl ?_ | refine ev_lsR (q := 116) k dX7_restore_115 rfl rfl (by omega) (lt_n hn (by decide)) rfl rfl ?_
        rw [show setJ (fillJ J 38 k (fun j => J 47 (7 * nn + j))) 38 (vp_updL (fillJ J 38 k (fun j => J 47 (7 * nn + j)) 38) k (ovJ (fillJ J 38 k (fun j => J 47 (7 * nn + j))) T 47 (7 * nn + k))) = fillJ J 38 (k + 1) (fun j => J 47 (7 * nn + j)) from fillJ_s _ _ _ (fun j => J 47 (7 * nn + j))]
        refine ev_inc_3 (q := 119) (nI (k + 1)) dX7_restore_116 (nI_1 k) rfl rfl ?_
        refine ev_goto 59 dX7_restore_119 (by decide) ?_
        exact e (by omega) (by omega)
  have l1 : ∀ j k, k + j = 24 → Ev xl xs 1 22 0 0 mX7_restore 31 [some (.ref 33), some (.int (nI nn)), some (.int (nI b)), some (.int (nI k))] [] n (sysH (ov (fillA I 34 k (fun j => I 46 (b + j))) S) (ovJ J T) X) Q := by
    intro j
    induction j using Nat.strongRecOn with
    | _ j ih =>
      intro k hk
      have e : ∀ h1, _ := fun (h1 : j - 1 < j) => ih (j - 1) h1 (k + 1)
      refine ev_iload_n (q := 32) dX7_restore_31 rfl rfl ?_
      refine ev_bipush (q := 34) (24) dX7_restore_32 (by decide) rfl ?_
      refine ev_icmp_ge (q := 37) 57 dX7_restore_34 (by decide) rfl (fun c_34 => ?_) (fun c_34 => ?_)
      · have c_34 : 24 ≤ k := (nI_leI (a := 24) (by omega) (by omega)).mp c_34
        rw [show k = 24 by omega]
        refine ev_iconst (q := 58) (0) dX7_restore_57 (by decide) rfl ?_
        refine ev_ist_3 (q := 59) dX7_restore_58 rfl rfl ?_
        have e3 := l2 6 0 (by omega)
        rw [fillA_0, fillA_0, fillJ_0] at e3
        exact e3
      · have c_34 : ¬ 24 ≤ k := fun h => c_34 ((nI_leI (a := 24) (by omega) (by omega)).mpr h)
        refine ev_aload_n (q := 38) dX7_restore_37 rfl rfl ?_
        refine ev_get (q := 41) dX7_restore_38 fr_X7_13 rfl (lt_n hn (by decide)) rfl rfl ?_
        refine ev_iload_n (q := 42) dX7_restore_41 rfl rfl ?_
        refine ev_aload_n (q := 43) dX7_restore_42 rfl rfl ?_
        refine ev_get (q := 46) dX7_restore_43 fr_X7_52 rfl (lt_n hn (by decide)) rfl rfl ?_
        refine ev_iload_n (q := 47) dX7_restore_46 rfl rfl ?_
        refine ev_iload_n (q := 48) dX7_restore_47 rfl rfl ?_
        refine ev_iadd (q := 49) dX7_restore_48 rfl ?_
        refine ev_iaS (q := 50) (b + k) dX7_restore_49 (nI_add _ _) rfl (by omega) (lt_n hn (by decide)) rfl ?_
        first | refine ev_isK (q := 51) k dX7_restore_50 rfl rfl (by omega) (lt_n hn (by decide)) rfl rfl ?_ | refine ev_isR (q := 51) k dX7_restore_50 rfl rfl (by omega) (lt_n hn (by decide)) rfl rfl ?_
        rw [show setI (fillA I 34 k (fun j => I 46 (b + j))) 34 (upd (fillA I 34 k (fun j => I 46 (b + j)) 34) k (ov (fillA I 34 k (fun j => I 46 (b + j))) S 46 (b + k))) = fillA I 34 (k + 1) (fun j => I 46 (b + j)) from fillA_s _ _ _ (fun j => I 46 (b + j))]
        refine ev_inc_3 (q := 54) (nI (k + 1)) dX7_restore_51 (nI_1 k) rfl rfl ?_
        refine ev_goto 31 dX7_restore_54 (by decide) ?_
        exact e (by omega) (by omega)
  refine ev_iload_n (q := 1) dX7_restore_0 rfl rfl ?_
  refine ev_iconst (q := 2) (0) dX7_restore_1 (by decide) rfl ?_
  refine ev_iconst (q := 3) (1) dX7_restore_2 (by decide) rfl ?_
  refine ev_callS3i (q := 6) dX7_restore_3 ca_X7_99 (c_X7_in _ _ _) (Nat.le_of_ble_eq_true rfl) (Nat.le_of_ble_eq_true rfl) (by decide) (by decide) rfl ?_
  refine ev_if_ne (q := 9) 12 dX7_restore_6 (by decide) rfl (fun c_6 => ?_) (fun c_6 => ?_)
  · refine ev_aload_n (q := 13) dX7_restore_12 rfl rfl ?_
    refine ev_get (q := 16) dX7_restore_13 fr_X7_58 rfl (lt_n hn (by decide)) rfl rfl ?_
    refine ev_iload_n (q := 17) dX7_restore_16 rfl rfl ?_
    refine ev_zaS (q := 18) nn dX7_restore_17 rfl rfl (by omega) (lt_n hn (by decide)) rfl ?_
    rw [show ov I S 48 nn = 1 from hk]
    refine ev_if_ne (q := 21) 24 dX7_restore_18 (by decide) rfl (fun c_18 => ?_) (fun c_18 => ?_)
    · refine ev_bipush (q := 26) (100) dX7_restore_24 (by decide) rfl ?_
      refine ev_iload_n (q := 27) dX7_restore_26 rfl rfl ?_
      refine ev_imul (q := 28) dX7_restore_27 rfl ?_
      rw [hb]
      refine ev_ist_2 (q := 29) dX7_restore_28 rfl rfl ?_
      refine ev_iconst (q := 30) (0) dX7_restore_29 (by decide) rfl ?_
      refine ev_ist_3 (q := 31) dX7_restore_30 rfl rfl ?_
      have e3 := l1 24 0 (by omega)
      rw [fillA_0] at e3
      exact e3
    · exact absurd c_18 (by decide)
  · exact absurd c_6 (b2i_n0.mpr hv)
end MODEL23
