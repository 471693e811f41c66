theorem d_Tr_elementAt_0 : decode b_Tr_elementAt 0 = .ok (.iload_n 0, 1) := by decide +kernel
theorem d_Tr_elementAt_1 : decode b_Tr_elementAt 1 = .ok (.istore_n 2, 1) := by decide +kernel
theorem d_Tr_elementAt_2 : decode b_Tr_elementAt 2 = .ok (.iconst 0, 1) := by decide +kernel
theorem d_Tr_elementAt_3 : decode b_Tr_elementAt 3 = .ok (.istore_n 3, 1) := by decide +kernel
theorem d_Tr_elementAt_4 : decode b_Tr_elementAt 4 = .ok (.iload_n 3, 1) := by decide +kernel
theorem d_Tr_elementAt_5 : decode b_Tr_elementAt 5 = .ok (.iload_n 1, 1) := by decide +kernel
theorem d_Tr_elementAt_6 : decode b_Tr_elementAt 6 = .ok (.if_icmp .ge 14, 3) := by decide +kernel
theorem d_Tr_elementAt_9 : decode b_Tr_elementAt 9 = .ok (.iload_n 2, 1) := by decide +kernel
theorem d_Tr_elementAt_10 : decode b_Tr_elementAt 10 = .ok (.invokestatic 46, 3) := by decide +kernel
theorem d_Tr_elementAt_13 : decode b_Tr_elementAt 13 = .ok (.istore_n 2, 1) := by decide +kernel
theorem d_Tr_elementAt_14 : decode b_Tr_elementAt 14 = .ok (.iinc 3 1, 3) := by decide +kernel
theorem d_Tr_elementAt_17 : decode b_Tr_elementAt 17 = .ok (.goto (-13), 3) := by decide +kernel
theorem d_Tr_elementAt_20 : decode b_Tr_elementAt 20 = .ok (.iload_n 2, 1) := by decide +kernel
theorem d_Tr_elementAt_21 : decode b_Tr_elementAt 21 = .ok (.invokestatic 49, 3) := by decide +kernel
theorem d_Tr_elementAt_24 : decode b_Tr_elementAt 24 = .ok (.ireturn, 1) := by decide +kernel
theorem d_Lw_law_0 : decode code 0 = .ok (.new 7, 3) := by decide +kernel
theorem d_Lw_law_3 : decode code 3 = .ok (.dup, 1) := by decide +kernel
theorem d_Lw_law_4 : decode code 4 = .ok (.invokespecial 9, 3) := by decide +kernel
theorem d_Lw_law_7 : decode code 7 = .ok (.astore_n 1, 1) := by decide +kernel
theorem d_Lw_law_8 : decode code 8 = .ok (.new 10, 3) := by decide +kernel
theorem d_Lw_law_11 : decode code 11 = .ok (.dup, 1) := by decide +kernel
theorem d_Lw_law_12 : decode code 12 = .ok (.invokespecial 12, 3) := by decide +kernel
theorem d_Lw_law_15 : decode code 15 = .ok (.astore_n 2, 1) := by decide +kernel
theorem d_Lw_law_16 : decode code 16 = .ok (.iconst 0, 1) := by decide +kernel
theorem d_Lw_law_17 : decode code 17 = .ok (.istore_n 3, 1) := by decide +kernel
theorem d_Lw_law_18 : decode code 18 = .ok (.iload_n 3, 1) := by decide +kernel
theorem d_Lw_law_19 : decode code 19 = .ok (.aload_n 0, 1) := by decide +kernel
theorem d_Lw_law_20 : decode code 20 = .ok (.arraylength, 1) := by decide +kernel
theorem d_Lw_law_21 : decode code 21 = .ok (.bipush 6, 2) := by decide +kernel
theorem d_Lw_law_23 : decode code 23 = .ok (.isub, 1) := by decide +kernel
theorem d_Lw_law_24 : decode code 24 = .ok (.if_icmp .gt 497, 3) := by decide +kernel
theorem d_Lw_law_27 : decode code 27 = .ok (.aload_n 0, 1) := by decide +kernel
theorem d_Lw_law_28 : decode code 28 = .ok (.iload_n 3, 1) := by decide +kernel
theorem d_Lw_law_29 : decode code 29 = .ok (.iaload, 1) := by decide +kernel
theorem d_Lw_law_30 : decode code 30 = .ok (.bipush 15, 2) := by decide +kernel
theorem d_Lw_law_32 : decode code 32 = .ok (.iand, 1) := by decide +kernel
theorem d_Lw_law_33 : decode code 33 = .ok (.tableswitch 482 0 12 #[67, 110, 153, 202, 215, 228, 251, 294, 337, 400, 413, 446, 469], 67) := by decide +kernel
theorem d_Lw_law_100 : decode code 100 = .ok (.aload_n 1, 1) := by decide +kernel
theorem d_Lw_law_101 : decode code 101 = .ok (.aload_n 0, 1) := by decide +kernel
theorem d_Lw_law_102 : decode code 102 = .ok (.iload_n 3, 1) := by decide +kernel
theorem d_Lw_law_103 : decode code 103 = .ok (.iconst 1, 1) := by decide +kernel
theorem d_Lw_law_104 : decode code 104 = .ok (.iadd, 1) := by decide +kernel
theorem d_Lw_law_105 : decode code 105 = .ok (.iaload, 1) := by decide +kernel
theorem d_Lw_law_106 : decode code 106 = .ok (.aload_n 0, 1) := by decide +kernel
theorem d_Lw_law_107 : decode code 107 = .ok (.iload_n 3, 1) := by decide +kernel
theorem d_Lw_law_108 : decode code 108 = .ok (.iconst 2, 1) := by decide +kernel
theorem d_Lw_law_109 : decode code 109 = .ok (.iadd, 1) := by decide +kernel
theorem d_Lw_law_110 : decode code 110 = .ok (.iaload, 1) := by decide +kernel
theorem d_Lw_law_111 : decode code 111 = .ok (.aload_n 0, 1) := by decide +kernel
theorem d_Lw_law_112 : decode code 112 = .ok (.iload_n 3, 1) := by decide +kernel
theorem d_Lw_law_113 : decode code 113 = .ok (.iconst 3, 1) := by decide +kernel
theorem d_Lw_law_114 : decode code 114 = .ok (.iadd, 1) := by decide +kernel
theorem d_Lw_law_115 : decode code 115 = .ok (.iaload, 1) := by decide +kernel
theorem d_Lw_law_116 : decode code 116 = .ok (.invokevirtual 13, 3) := by decide +kernel
theorem d_Lw_law_119 : decode code 119 = .ok (.aload_n 2, 1) := by decide +kernel
theorem d_Lw_law_120 : decode code 120 = .ok (.aload_n 0, 1) := by decide +kernel
theorem d_Lw_law_121 : decode code 121 = .ok (.iload_n 3, 1) := by decide +kernel
theorem d_Lw_law_122 : decode code 122 = .ok (.iconst 1, 1) := by decide +kernel
theorem d_Lw_law_123 : decode code 123 = .ok (.iadd, 1) := by decide +kernel
theorem d_Lw_law_124 : decode code 124 = .ok (.iaload, 1) := by decide +kernel
theorem d_Lw_law_125 : decode code 125 = .ok (.aload_n 0, 1) := by decide +kernel
theorem d_Lw_law_126 : decode code 126 = .ok (.iload_n 3, 1) := by decide +kernel
theorem d_Lw_law_127 : decode code 127 = .ok (.iconst 2, 1) := by decide +kernel
theorem d_Lw_law_128 : decode code 128 = .ok (.iadd, 1) := by decide +kernel
theorem d_Lw_law_129 : decode code 129 = .ok (.iaload, 1) := by decide +kernel
theorem d_Lw_law_130 : decode code 130 = .ok (.aload_n 0, 1) := by decide +kernel
theorem d_Lw_law_131 : decode code 131 = .ok (.iload_n 3, 1) := by decide +kernel
theorem d_Lw_law_132 : decode code 132 = .ok (.iconst 3, 1) := by decide +kernel
theorem d_Lw_law_133 : decode code 133 = .ok (.iadd, 1) := by decide +kernel
theorem d_Lw_law_134 : decode code 134 = .ok (.iaload, 1) := by decide +kernel
theorem d_Lw_law_135 : decode code 135 = .ok (.invokevirtual 17, 3) := by decide +kernel
theorem d_Lw_law_138 : decode code 138 = .ok (.if_icmp .eq 377, 3) := by decide +kernel
theorem d_Lw_law_141 : decode code 141 = .ok (.iconst 0, 1) := by decide +kernel
theorem d_Lw_law_142 : decode code 142 = .ok (.ireturn, 1) := by decide +kernel
theorem d_Lw_law_143 : decode code 143 = .ok (.aload_n 1, 1) := by decide +kernel
theorem d_Lw_law_144 : decode code 144 = .ok (.aload_n 0, 1) := by decide +kernel
theorem d_Lw_law_145 : decode code 145 = .ok (.iload_n 3, 1) := by decide +kernel
theorem d_Lw_law_146 : decode code 146 = .ok (.iconst 1, 1) := by decide +kernel
theorem d_Lw_law_147 : decode code 147 = .ok (.iadd, 1) := by decide +kernel
theorem d_Lw_law_148 : decode code 148 = .ok (.iaload, 1) := by decide +kernel
theorem d_Lw_law_149 : decode code 149 = .ok (.aload_n 0, 1) := by decide +kernel
theorem d_Lw_law_150 : decode code 150 = .ok (.iload_n 3, 1) := by decide +kernel
theorem d_Lw_law_151 : decode code 151 = .ok (.iconst 2, 1) := by decide +kernel
theorem d_Lw_law_152 : decode code 152 = .ok (.iadd, 1) := by decide +kernel
theorem d_Lw_law_153 : decode code 153 = .ok (.iaload, 1) := by decide +kernel
theorem d_Lw_law_154 : decode code 154 = .ok (.aload_n 0, 1) := by decide +kernel
theorem d_Lw_law_155 : decode code 155 = .ok (.iload_n 3, 1) := by decide +kernel
theorem d_Lw_law_156 : decode code 156 = .ok (.iconst 3, 1) := by decide +kernel
theorem d_Lw_law_157 : decode code 157 = .ok (.iadd, 1) := by decide +kernel
theorem d_Lw_law_158 : decode code 158 = .ok (.iaload, 1) := by decide +kernel
theorem d_Lw_law_159 : decode code 159 = .ok (.invokevirtual 18, 3) := by decide +kernel
theorem d_Lw_law_162 : decode code 162 = .ok (.aload_n 2, 1) := by decide +kernel
theorem d_Lw_law_163 : decode code 163 = .ok (.aload_n 0, 1) := by decide +kernel
theorem d_Lw_law_164 : decode code 164 = .ok (.iload_n 3, 1) := by decide +kernel
theorem d_Lw_law_165 : decode code 165 = .ok (.iconst 1, 1) := by decide +kernel
theorem d_Lw_law_166 : decode code 166 = .ok (.iadd, 1) := by decide +kernel
theorem d_Lw_law_167 : decode code 167 = .ok (.iaload, 1) := by decide +kernel
theorem d_Lw_law_168 : decode code 168 = .ok (.aload_n 0, 1) := by decide +kernel
theorem d_Lw_law_169 : decode code 169 = .ok (.iload_n 3, 1) := by decide +kernel
theorem d_Lw_law_170 : decode code 170 = .ok (.iconst 2, 1) := by decide +kernel
theorem d_Lw_law_171 : decode code 171 = .ok (.iadd, 1) := by decide +kernel
theorem d_Lw_law_172 : decode code 172 = .ok (.iaload, 1) := by decide +kernel
theorem d_Lw_law_173 : decode code 173 = .ok (.aload_n 0, 1) := by decide +kernel
theorem d_Lw_law_174 : decode code 174 = .ok (.iload_n 3, 1) := by decide +kernel
theorem d_Lw_law_175 : decode code 175 = .ok (.iconst 3, 1) := by decide +kernel
theorem d_Lw_law_176 : decode code 176 = .ok (.iadd, 1) := by decide +kernel
theorem d_Lw_law_177 : decode code 177 = .ok (.iaload, 1) := by decide +kernel
theorem d_Lw_law_178 : decode code 178 = .ok (.invokevirtual 21, 3) := by decide +kernel
theorem d_Lw_law_181 : decode code 181 = .ok (.if_icmp .eq 334, 3) := by decide +kernel
theorem d_Lw_law_184 : decode code 184 = .ok (.iconst 0, 1) := by decide +kernel
theorem d_Lw_law_185 : decode code 185 = .ok (.ireturn, 1) := by decide +kernel
theorem d_Lw_law_186 : decode code 186 = .ok (.aload_n 1, 1) := by decide +kernel
theorem d_Lw_law_187 : decode code 187 = .ok (.aload_n 0, 1) := by decide +kernel
theorem d_Lw_law_188 : decode code 188 = .ok (.iload_n 3, 1) := by decide +kernel
theorem d_Lw_law_189 : decode code 189 = .ok (.iconst 1, 1) := by decide +kernel
theorem d_Lw_law_190 : decode code 190 = .ok (.iadd, 1) := by decide +kernel
theorem d_Lw_law_191 : decode code 191 = .ok (.iaload, 1) := by decide +kernel
theorem d_Lw_law_192 : decode code 192 = .ok (.aload_n 0, 1) := by decide +kernel
theorem d_Lw_law_193 : decode code 193 = .ok (.iload_n 3, 1) := by decide +kernel
theorem d_Lw_law_194 : decode code 194 = .ok (.iconst 2, 1) := by decide +kernel
theorem d_Lw_law_195 : decode code 195 = .ok (.iadd, 1) := by decide +kernel
theorem d_Lw_law_196 : decode code 196 = .ok (.iaload, 1) := by decide +kernel
theorem d_Lw_law_197 : decode code 197 = .ok (.ifCond .eq 7, 3) := by decide +kernel
theorem d_Lw_law_200 : decode code 200 = .ok (.iconst 1, 1) := by decide +kernel
theorem d_Lw_law_201 : decode code 201 = .ok (.goto 4, 3) := by decide +kernel
theorem d_Lw_law_204 : decode code 204 = .ok (.iconst 0, 1) := by decide +kernel
theorem d_Lw_law_205 : decode code 205 = .ok (.invokevirtual 22, 3) := by decide +kernel
theorem d_Lw_law_208 : decode code 208 = .ok (.aload_n 2, 1) := by decide +kernel
theorem d_Lw_law_209 : decode code 209 = .ok (.aload_n 0, 1) := by decide +kernel
theorem d_Lw_law_210 : decode code 210 = .ok (.iload_n 3, 1) := by decide +kernel
theorem d_Lw_law_211 : decode code 211 = .ok (.iconst 1, 1) := by decide +kernel
theorem d_Lw_law_212 : decode code 212 = .ok (.iadd, 1) := by decide +kernel
theorem d_Lw_law_213 : decode code 213 = .ok (.iaload, 1) := by decide +kernel
theorem d_Lw_law_214 : decode code 214 = .ok (.aload_n 0, 1) := by decide +kernel
theorem d_Lw_law_215 : decode code 215 = .ok (.iload_n 3, 1) := by decide +kernel
theorem d_Lw_law_216 : decode code 216 = .ok (.iconst 2, 1) := by decide +kernel
theorem d_Lw_law_217 : decode code 217 = .ok (.iadd, 1) := by decide +kernel
theorem d_Lw_law_218 : decode code 218 = .ok (.iaload, 1) := by decide +kernel
theorem d_Lw_law_219 : decode code 219 = .ok (.ifCond .eq 7, 3) := by decide +kernel
theorem d_Lw_law_222 : decode code 222 = .ok (.iconst 1, 1) := by decide +kernel
theorem d_Lw_law_223 : decode code 223 = .ok (.goto 4, 3) := by decide +kernel
theorem d_Lw_law_226 : decode code 226 = .ok (.iconst 0, 1) := by decide +kernel
theorem d_Lw_law_227 : decode code 227 = .ok (.invokevirtual 26, 3) := by decide +kernel
theorem d_Lw_law_230 : decode code 230 = .ok (.if_icmp .eq 285, 3) := by decide +kernel
theorem d_Lw_law_233 : decode code 233 = .ok (.iconst 0, 1) := by decide +kernel
theorem d_Lw_law_234 : decode code 234 = .ok (.ireturn, 1) := by decide +kernel
theorem d_Lw_law_235 : decode code 235 = .ok (.aload_n 1, 1) := by decide +kernel
theorem d_Lw_law_236 : decode code 236 = .ok (.invokevirtual 27, 3) := by decide +kernel
theorem d_Lw_law_239 : decode code 239 = .ok (.aload_n 2, 1) := by decide +kernel
theorem d_Lw_law_240 : decode code 240 = .ok (.invokevirtual 31, 3) := by decide +kernel
theorem d_Lw_law_243 : decode code 243 = .ok (.if_icmp .eq 272, 3) := by decide +kernel
theorem d_Lw_law_246 : decode code 246 = .ok (.iconst 0, 1) := by decide +kernel
theorem d_Lw_law_247 : decode code 247 = .ok (.ireturn, 1) := by decide +kernel
theorem d_Lw_law_248 : decode code 248 = .ok (.aload_n 1, 1) := by decide +kernel
theorem d_Lw_law_249 : decode code 249 = .ok (.invokevirtual 32, 3) := by decide +kernel
theorem d_Lw_law_252 : decode code 252 = .ok (.aload_n 2, 1) := by decide +kernel
theorem d_Lw_law_253 : decode code 253 = .ok (.invokevirtual 35, 3) := by decide +kernel
theorem d_Lw_law_256 : decode code 256 = .ok (.if_icmp .eq 259, 3) := by decide +kernel
theorem d_Lw_law_259 : decode code 259 = .ok (.iconst 0, 1) := by decide +kernel
theorem d_Lw_law_260 : decode code 260 = .ok (.ireturn, 1) := by decide +kernel
theorem d_Lw_law_261 : decode code 261 = .ok (.aload_n 1, 1) := by decide +kernel
theorem d_Lw_law_262 : decode code 262 = .ok (.aload_n 0, 1) := by decide +kernel
theorem d_Lw_law_263 : decode code 263 = .ok (.iload_n 3, 1) := by decide +kernel
theorem d_Lw_law_264 : decode code 264 = .ok (.iconst 1, 1) := by decide +kernel
theorem d_Lw_law_265 : decode code 265 = .ok (.iadd, 1) := by decide +kernel
theorem d_Lw_law_266 : decode code 266 = .ok (.iaload, 1) := by decide +kernel
theorem d_Lw_law_267 : decode code 267 = .ok (.invokevirtual 36, 3) := by decide +kernel
theorem d_Lw_law_270 : decode code 270 = .ok (.aload_n 2, 1) := by decide +kernel
theorem d_Lw_law_271 : decode code 271 = .ok (.aload_n 0, 1) := by decide +kernel
theorem d_Lw_law_272 : decode code 272 = .ok (.iload_n 3, 1) := by decide +kernel
theorem d_Lw_law_273 : decode code 273 = .ok (.iconst 1, 1) := by decide +kernel
theorem d_Lw_law_274 : decode code 274 = .ok (.iadd, 1) := by decide +kernel
theorem d_Lw_law_275 : decode code 275 = .ok (.iaload, 1) := by decide +kernel
theorem d_Lw_law_276 : decode code 276 = .ok (.invokevirtual 40, 3) := by decide +kernel
theorem d_Lw_law_279 : decode code 279 = .ok (.if_icmp .eq 236, 3) := by decide +kernel
theorem d_Lw_law_282 : decode code 282 = .ok (.iconst 0, 1) := by decide +kernel
theorem d_Lw_law_283 : decode code 283 = .ok (.ireturn, 1) := by decide +kernel
theorem d_Lw_law_284 : decode code 284 = .ok (.aload_n 1, 1) := by decide +kernel
theorem d_Lw_law_285 : decode code 285 = .ok (.aload_n 0, 1) := by decide +kernel
theorem d_Lw_law_286 : decode code 286 = .ok (.iload_n 3, 1) := by decide +kernel
theorem d_Lw_law_287 : decode code 287 = .ok (.iconst 1, 1) := by decide +kernel
theorem d_Lw_law_288 : decode code 288 = .ok (.iadd, 1) := by decide +kernel
theorem d_Lw_law_289 : decode code 289 = .ok (.iaload, 1) := by decide +kernel
theorem d_Lw_law_290 : decode code 290 = .ok (.aload_n 0, 1) := by decide +kernel
theorem d_Lw_law_291 : decode code 291 = .ok (.iload_n 3, 1) := by decide +kernel
theorem d_Lw_law_292 : decode code 292 = .ok (.iconst 2, 1) := by decide +kernel
theorem d_Lw_law_293 : decode code 293 = .ok (.iadd, 1) := by decide +kernel
theorem d_Lw_law_294 : decode code 294 = .ok (.iaload, 1) := by decide +kernel
theorem d_Lw_law_295 : decode code 295 = .ok (.aload_n 0, 1) := by decide +kernel
theorem d_Lw_law_296 : decode code 296 = .ok (.iload_n 3, 1) := by decide +kernel
theorem d_Lw_law_297 : decode code 297 = .ok (.iconst 3, 1) := by decide +kernel
theorem d_Lw_law_298 : decode code 298 = .ok (.iadd, 1) := by decide +kernel
theorem d_Lw_law_299 : decode code 299 = .ok (.iaload, 1) := by decide +kernel
theorem d_Lw_law_300 : decode code 300 = .ok (.invokevirtual 41, 3) := by decide +kernel
theorem d_Lw_law_303 : decode code 303 = .ok (.aload_n 2, 1) := by decide +kernel
theorem d_Lw_law_304 : decode code 304 = .ok (.aload_n 0, 1) := by decide +kernel
theorem d_Lw_law_305 : decode code 305 = .ok (.iload_n 3, 1) := by decide +kernel
theorem d_Lw_law_306 : decode code 306 = .ok (.iconst 1, 1) := by decide +kernel
theorem d_Lw_law_307 : decode code 307 = .ok (.iadd, 1) := by decide +kernel
theorem d_Lw_law_308 : decode code 308 = .ok (.iaload, 1) := by decide +kernel
theorem d_Lw_law_309 : decode code 309 = .ok (.aload_n 0, 1) := by decide +kernel
theorem d_Lw_law_310 : decode code 310 = .ok (.iload_n 3, 1) := by decide +kernel
theorem d_Lw_law_311 : decode code 311 = .ok (.iconst 2, 1) := by decide +kernel
theorem d_Lw_law_312 : decode code 312 = .ok (.iadd, 1) := by decide +kernel
theorem d_Lw_law_313 : decode code 313 = .ok (.iaload, 1) := by decide +kernel
theorem d_Lw_law_314 : decode code 314 = .ok (.aload_n 0, 1) := by decide +kernel
theorem d_Lw_law_315 : decode code 315 = .ok (.iload_n 3, 1) := by decide +kernel
theorem d_Lw_law_316 : decode code 316 = .ok (.iconst 3, 1) := by decide +kernel
theorem d_Lw_law_317 : decode code 317 = .ok (.iadd, 1) := by decide +kernel
theorem d_Lw_law_318 : decode code 318 = .ok (.iaload, 1) := by decide +kernel
theorem d_Lw_law_319 : decode code 319 = .ok (.invokevirtual 44, 3) := by decide +kernel
theorem d_Lw_law_322 : decode code 322 = .ok (.if_icmp .eq 193, 3) := by decide +kernel
theorem d_Lw_law_325 : decode code 325 = .ok (.iconst 0, 1) := by decide +kernel
theorem d_Lw_law_326 : decode code 326 = .ok (.ireturn, 1) := by decide +kernel
theorem d_Lw_law_327 : decode code 327 = .ok (.aload_n 1, 1) := by decide +kernel
theorem d_Lw_law_328 : decode code 328 = .ok (.aload_n 0, 1) := by decide +kernel
theorem d_Lw_law_329 : decode code 329 = .ok (.iload_n 3, 1) := by decide +kernel
theorem d_Lw_law_330 : decode code 330 = .ok (.iconst 1, 1) := by decide +kernel
theorem d_Lw_law_331 : decode code 331 = .ok (.iadd, 1) := by decide +kernel
theorem d_Lw_law_332 : decode code 332 = .ok (.iaload, 1) := by decide +kernel
theorem d_Lw_law_333 : decode code 333 = .ok (.aload_n 0, 1) := by decide +kernel
theorem d_Lw_law_334 : decode code 334 = .ok (.iload_n 3, 1) := by decide +kernel
theorem d_Lw_law_335 : decode code 335 = .ok (.iconst 2, 1) := by decide +kernel
theorem d_Lw_law_336 : decode code 336 = .ok (.iadd, 1) := by decide +kernel
theorem d_Lw_law_337 : decode code 337 = .ok (.iaload, 1) := by decide +kernel
theorem d_Lw_law_338 : decode code 338 = .ok (.aload_n 0, 1) := by decide +kernel
theorem d_Lw_law_339 : decode code 339 = .ok (.iload_n 3, 1) := by decide +kernel
theorem d_Lw_law_340 : decode code 340 = .ok (.iconst 3, 1) := by decide +kernel
theorem d_Lw_law_341 : decode code 341 = .ok (.iadd, 1) := by decide +kernel
theorem d_Lw_law_342 : decode code 342 = .ok (.iaload, 1) := by decide +kernel
theorem d_Lw_law_343 : decode code 343 = .ok (.invokevirtual 45, 3) := by decide +kernel
theorem d_Lw_law_346 : decode code 346 = .ok (.aload_n 2, 1) := by decide +kernel
theorem d_Lw_law_347 : decode code 347 = .ok (.aload_n 0, 1) := by decide +kernel
theorem d_Lw_law_348 : decode code 348 = .ok (.iload_n 3, 1) := by decide +kernel
theorem d_Lw_law_349 : decode code 349 = .ok (.iconst 1, 1) := by decide +kernel
theorem d_Lw_law_350 : decode code 350 = .ok (.iadd, 1) := by decide +kernel
theorem d_Lw_law_351 : decode code 351 = .ok (.iaload, 1) := by decide +kernel
theorem d_Lw_law_352 : decode code 352 = .ok (.aload_n 0, 1) := by decide +kernel
theorem d_Lw_law_353 : decode code 353 = .ok (.iload_n 3, 1) := by decide +kernel
theorem d_Lw_law_354 : decode code 354 = .ok (.iconst 2, 1) := by decide +kernel
theorem d_Lw_law_355 : decode code 355 = .ok (.iadd, 1) := by decide +kernel
theorem d_Lw_law_356 : decode code 356 = .ok (.iaload, 1) := by decide +kernel
theorem d_Lw_law_357 : decode code 357 = .ok (.aload_n 0, 1) := by decide +kernel
theorem d_Lw_law_358 : decode code 358 = .ok (.iload_n 3, 1) := by decide +kernel
theorem d_Lw_law_359 : decode code 359 = .ok (.iconst 3, 1) := by decide +kernel
theorem d_Lw_law_360 : decode code 360 = .ok (.iadd, 1) := by decide +kernel
theorem d_Lw_law_361 : decode code 361 = .ok (.iaload, 1) := by decide +kernel
theorem d_Lw_law_362 : decode code 362 = .ok (.invokevirtual 48, 3) := by decide +kernel
theorem d_Lw_law_365 : decode code 365 = .ok (.if_icmp .eq 150, 3) := by decide +kernel
theorem d_Lw_law_368 : decode code 368 = .ok (.iconst 0, 1) := by decide +kernel
theorem d_Lw_law_369 : decode code 369 = .ok (.ireturn, 1) := by decide +kernel
theorem d_Lw_law_370 : decode code 370 = .ok (.aload_n 1, 1) := by decide +kernel
theorem d_Lw_law_371 : decode code 371 = .ok (.aload_n 0, 1) := by decide +kernel
theorem d_Lw_law_372 : decode code 372 = .ok (.iload_n 3, 1) := by decide +kernel
theorem d_Lw_law_373 : decode code 373 = .ok (.iconst 1, 1) := by decide +kernel
theorem d_Lw_law_374 : decode code 374 = .ok (.iadd, 1) := by decide +kernel
theorem d_Lw_law_375 : decode code 375 = .ok (.iaload, 1) := by decide +kernel
theorem d_Lw_law_376 : decode code 376 = .ok (.aload_n 0, 1) := by decide +kernel
theorem d_Lw_law_377 : decode code 377 = .ok (.iload_n 3, 1) := by decide +kernel
theorem d_Lw_law_378 : decode code 378 = .ok (.iconst 2, 1) := by decide +kernel
theorem d_Lw_law_379 : decode code 379 = .ok (.iadd, 1) := by decide +kernel
theorem d_Lw_law_380 : decode code 380 = .ok (.iaload, 1) := by decide +kernel
theorem d_Lw_law_381 : decode code 381 = .ok (.aload_n 0, 1) := by decide +kernel
theorem d_Lw_law_382 : decode code 382 = .ok (.iload_n 3, 1) := by decide +kernel
theorem d_Lw_law_383 : decode code 383 = .ok (.iconst 3, 1) := by decide +kernel
theorem d_Lw_law_384 : decode code 384 = .ok (.iadd, 1) := by decide +kernel
theorem d_Lw_law_385 : decode code 385 = .ok (.iaload, 1) := by decide +kernel
theorem d_Lw_law_386 : decode code 386 = .ok (.aload_n 0, 1) := by decide +kernel
theorem d_Lw_law_387 : decode code 387 = .ok (.iload_n 3, 1) := by decide +kernel
theorem d_Lw_law_388 : decode code 388 = .ok (.iconst 4, 1) := by decide +kernel
theorem d_Lw_law_389 : decode code 389 = .ok (.iadd, 1) := by decide +kernel
theorem d_Lw_law_390 : decode code 390 = .ok (.iaload, 1) := by decide +kernel
theorem d_Lw_law_391 : decode code 391 = .ok (.aload_n 0, 1) := by decide +kernel
theorem d_Lw_law_392 : decode code 392 = .ok (.iload_n 3, 1) := by decide +kernel
theorem d_Lw_law_393 : decode code 393 = .ok (.iconst 5, 1) := by decide +kernel
theorem d_Lw_law_394 : decode code 394 = .ok (.iadd, 1) := by decide +kernel
theorem d_Lw_law_395 : decode code 395 = .ok (.iaload, 1) := by decide +kernel
theorem d_Lw_law_396 : decode code 396 = .ok (.invokevirtual 49, 3) := by decide +kernel
theorem d_Lw_law_399 : decode code 399 = .ok (.aload_n 2, 1) := by decide +kernel
theorem d_Lw_law_400 : decode code 400 = .ok (.aload_n 0, 1) := by decide +kernel
theorem d_Lw_law_401 : decode code 401 = .ok (.iload_n 3, 1) := by decide +kernel
theorem d_Lw_law_402 : decode code 402 = .ok (.iconst 1, 1) := by decide +kernel
theorem d_Lw_law_403 : decode code 403 = .ok (.iadd, 1) := by decide +kernel
theorem d_Lw_law_404 : decode code 404 = .ok (.iaload, 1) := by decide +kernel
theorem d_Lw_law_405 : decode code 405 = .ok (.aload_n 0, 1) := by decide +kernel
theorem d_Lw_law_406 : decode code 406 = .ok (.iload_n 3, 1) := by decide +kernel
theorem d_Lw_law_407 : decode code 407 = .ok (.iconst 2, 1) := by decide +kernel
theorem d_Lw_law_408 : decode code 408 = .ok (.iadd, 1) := by decide +kernel
theorem d_Lw_law_409 : decode code 409 = .ok (.iaload, 1) := by decide +kernel
theorem d_Lw_law_410 : decode code 410 = .ok (.aload_n 0, 1) := by decide +kernel
theorem d_Lw_law_411 : decode code 411 = .ok (.iload_n 3, 1) := by decide +kernel
theorem d_Lw_law_412 : decode code 412 = .ok (.iconst 3, 1) := by decide +kernel
theorem d_Lw_law_413 : decode code 413 = .ok (.iadd, 1) := by decide +kernel
theorem d_Lw_law_414 : decode code 414 = .ok (.iaload, 1) := by decide +kernel
theorem d_Lw_law_415 : decode code 415 = .ok (.aload_n 0, 1) := by decide +kernel
theorem d_Lw_law_416 : decode code 416 = .ok (.iload_n 3, 1) := by decide +kernel
theorem d_Lw_law_417 : decode code 417 = .ok (.iconst 4, 1) := by decide +kernel
theorem d_Lw_law_418 : decode code 418 = .ok (.iadd, 1) := by decide +kernel
theorem d_Lw_law_419 : decode code 419 = .ok (.iaload, 1) := by decide +kernel
theorem d_Lw_law_420 : decode code 420 = .ok (.aload_n 0, 1) := by decide +kernel
theorem d_Lw_law_421 : decode code 421 = .ok (.iload_n 3, 1) := by decide +kernel
theorem d_Lw_law_422 : decode code 422 = .ok (.iconst 5, 1) := by decide +kernel
theorem d_Lw_law_423 : decode code 423 = .ok (.iadd, 1) := by decide +kernel
theorem d_Lw_law_424 : decode code 424 = .ok (.iaload, 1) := by decide +kernel
theorem d_Lw_law_425 : decode code 425 = .ok (.invokevirtual 53, 3) := by decide +kernel
theorem d_Lw_law_428 : decode code 428 = .ok (.if_icmp .eq 87, 3) := by decide +kernel
theorem d_Lw_law_431 : decode code 431 = .ok (.iconst 0, 1) := by decide +kernel
theorem d_Lw_law_432 : decode code 432 = .ok (.ireturn, 1) := by decide +kernel
theorem d_Lw_law_433 : decode code 433 = .ok (.aload_n 1, 1) := by decide +kernel
theorem d_Lw_law_434 : decode code 434 = .ok (.invokevirtual 54, 3) := by decide +kernel
theorem d_Lw_law_437 : decode code 437 = .ok (.aload_n 2, 1) := by decide +kernel
theorem d_Lw_law_438 : decode code 438 = .ok (.invokevirtual 57, 3) := by decide +kernel
theorem d_Lw_law_441 : decode code 441 = .ok (.if_icmp .eq 74, 3) := by decide +kernel
theorem d_Lw_law_444 : decode code 444 = .ok (.iconst 0, 1) := by decide +kernel
theorem d_Lw_law_445 : decode code 445 = .ok (.ireturn, 1) := by decide +kernel
theorem d_Lw_law_446 : decode code 446 = .ok (.aload_n 1, 1) := by decide +kernel
theorem d_Lw_law_447 : decode code 447 = .ok (.aload_n 0, 1) := by decide +kernel
theorem d_Lw_law_448 : decode code 448 = .ok (.iload_n 3, 1) := by decide +kernel
theorem d_Lw_law_449 : decode code 449 = .ok (.iconst 1, 1) := by decide +kernel
theorem d_Lw_law_450 : decode code 450 = .ok (.iadd, 1) := by decide +kernel
theorem d_Lw_law_451 : decode code 451 = .ok (.iaload, 1) := by decide +kernel
theorem d_Lw_law_452 : decode code 452 = .ok (.aload_n 0, 1) := by decide +kernel
theorem d_Lw_law_453 : decode code 453 = .ok (.iload_n 3, 1) := by decide +kernel
theorem d_Lw_law_454 : decode code 454 = .ok (.iconst 2, 1) := by decide +kernel
theorem d_Lw_law_455 : decode code 455 = .ok (.iadd, 1) := by decide +kernel
theorem d_Lw_law_456 : decode code 456 = .ok (.iaload, 1) := by decide +kernel
theorem d_Lw_law_457 : decode code 457 = .ok (.invokevirtual 58, 3) := by decide +kernel
theorem d_Lw_law_460 : decode code 460 = .ok (.aload_n 2, 1) := by decide +kernel
theorem d_Lw_law_461 : decode code 461 = .ok (.aload_n 0, 1) := by decide +kernel
theorem d_Lw_law_462 : decode code 462 = .ok (.iload_n 3, 1) := by decide +kernel
theorem d_Lw_law_463 : decode code 463 = .ok (.iconst 1, 1) := by decide +kernel
theorem d_Lw_law_464 : decode code 464 = .ok (.iadd, 1) := by decide +kernel
theorem d_Lw_law_465 : decode code 465 = .ok (.iaload, 1) := by decide +kernel
theorem d_Lw_law_466 : decode code 466 = .ok (.aload_n 0, 1) := by decide +kernel
theorem d_Lw_law_467 : decode code 467 = .ok (.iload_n 3, 1) := by decide +kernel
theorem d_Lw_law_468 : decode code 468 = .ok (.iconst 2, 1) := by decide +kernel
theorem d_Lw_law_469 : decode code 469 = .ok (.iadd, 1) := by decide +kernel
theorem d_Lw_law_470 : decode code 470 = .ok (.iaload, 1) := by decide +kernel
theorem d_Lw_law_471 : decode code 471 = .ok (.invokevirtual 62, 3) := by decide +kernel
theorem d_Lw_law_474 : decode code 474 = .ok (.if_icmp .eq 41, 3) := by decide +kernel
theorem d_Lw_law_477 : decode code 477 = .ok (.iconst 0, 1) := by decide +kernel
theorem d_Lw_law_478 : decode code 478 = .ok (.ireturn, 1) := by decide +kernel
theorem d_Lw_law_479 : decode code 479 = .ok (.aload_n 1, 1) := by decide +kernel
theorem d_Lw_law_480 : decode code 480 = .ok (.aload_n 0, 1) := by decide +kernel
theorem d_Lw_law_481 : decode code 481 = .ok (.iload_n 3, 1) := by decide +kernel
theorem d_Lw_law_482 : decode code 482 = .ok (.iconst 1, 1) := by decide +kernel
theorem d_Lw_law_483 : decode code 483 = .ok (.iadd, 1) := by decide +kernel
theorem d_Lw_law_484 : decode code 484 = .ok (.iaload, 1) := by decide +kernel
theorem d_Lw_law_485 : decode code 485 = .ok (.invokevirtual 63, 3) := by decide +kernel
theorem d_Lw_law_488 : decode code 488 = .ok (.aload_n 2, 1) := by decide +kernel
theorem d_Lw_law_489 : decode code 489 = .ok (.aload_n 0, 1) := by decide +kernel
theorem d_Lw_law_490 : decode code 490 = .ok (.iload_n 3, 1) := by decide +kernel
theorem d_Lw_law_491 : decode code 491 = .ok (.iconst 1, 1) := by decide +kernel
theorem d_Lw_law_492 : decode code 492 = .ok (.iadd, 1) := by decide +kernel
theorem d_Lw_law_493 : decode code 493 = .ok (.iaload, 1) := by decide +kernel
theorem d_Lw_law_494 : decode code 494 = .ok (.invokevirtual 66, 3) := by decide +kernel
theorem d_Lw_law_497 : decode code 497 = .ok (.if_icmp .eq 18, 3) := by decide +kernel
theorem d_Lw_law_500 : decode code 500 = .ok (.iconst 0, 1) := by decide +kernel
theorem d_Lw_law_501 : decode code 501 = .ok (.ireturn, 1) := by decide +kernel
theorem d_Lw_law_502 : decode code 502 = .ok (.aload_n 1, 1) := by decide +kernel
theorem d_Lw_law_503 : decode code 503 = .ok (.invokevirtual 67, 3) := by decide +kernel
theorem d_Lw_law_506 : decode code 506 = .ok (.aload_n 2, 1) := by decide +kernel
theorem d_Lw_law_507 : decode code 507 = .ok (.invokevirtual 70, 3) := by decide +kernel
theorem d_Lw_law_510 : decode code 510 = .ok (.if_icmp .eq 5, 3) := by decide +kernel
theorem d_Lw_law_513 : decode code 513 = .ok (.iconst 0, 1) := by decide +kernel
theorem d_Lw_law_514 : decode code 514 = .ok (.ireturn, 1) := by decide +kernel
theorem d_Lw_law_515 : decode code 515 = .ok (.iinc 3 6, 3) := by decide +kernel
theorem d_Lw_law_518 : decode code 518 = .ok (.goto (-500), 3) := by decide +kernel
theorem d_Lw_law_521 : decode code 521 = .ok (.iconst 1, 1) := by decide +kernel
theorem d_Lw_law_522 : decode code 522 = .ok (.ireturn, 1) := by decide +kernel
