theorem dLW_law_0 : decode cLW_law 0 = .ok (.new 7, 3) := by decide +kernel
theorem dLW_law_3 : decode cLW_law 3 = .ok (.dup, 1) := by decide +kernel
theorem dLW_law_4 : decode cLW_law 4 = .ok (.invokespecial 9, 3) := by decide +kernel
theorem dLW_law_7 : decode cLW_law 7 = .ok (.astore_n 1, 1) := by decide +kernel
theorem dLW_law_8 : decode cLW_law 8 = .ok (.new 10, 3) := by decide +kernel
theorem dLW_law_11 : decode cLW_law 11 = .ok (.dup, 1) := by decide +kernel
theorem dLW_law_12 : decode cLW_law 12 = .ok (.invokespecial 12, 3) := by decide +kernel
theorem dLW_law_15 : decode cLW_law 15 = .ok (.astore_n 2, 1) := by decide +kernel
theorem dLW_law_16 : decode cLW_law 16 = .ok (.iconst 0, 1) := by decide +kernel
theorem dLW_law_17 : decode cLW_law 17 = .ok (.istore_n 3, 1) := by decide +kernel
theorem dLW_law_18 : decode cLW_law 18 = .ok (.iload_n 3, 1) := by decide +kernel
theorem dLW_law_19 : decode cLW_law 19 = .ok (.aload_n 0, 1) := by decide +kernel
theorem dLW_law_20 : decode cLW_law 20 = .ok (.arraylength, 1) := by decide +kernel
theorem dLW_law_21 : decode cLW_law 21 = .ok (.iconst 5, 1) := by decide +kernel
theorem dLW_law_22 : decode cLW_law 22 = .ok (.isub, 1) := by decide +kernel
theorem dLW_law_23 : decode cLW_law 23 = .ok (.if_icmp .gt 488, 3) := by decide +kernel
theorem dLW_law_26 : decode cLW_law 26 = .ok (.aload_n 0, 1) := by decide +kernel
theorem dLW_law_27 : decode cLW_law 27 = .ok (.iload_n 3, 1) := by decide +kernel
theorem dLW_law_28 : decode cLW_law 28 = .ok (.iaload, 1) := by decide +kernel
theorem dLW_law_29 : decode cLW_law 29 = .ok (.bipush 15, 2) := by decide +kernel
theorem dLW_law_31 : decode cLW_law 31 = .ok (.iand, 1) := by decide +kernel
theorem dLW_law_32 : decode cLW_law 32 = .ok (.tableswitch 473 0 12 #[68, 91, 144, 177, 210, 269, 292, 325, 348, 371, 384, 417, 450], 68) := by decide +kernel
theorem dLW_law_100 : decode cLW_law 100 = .ok (.aload_n 1, 1) := by decide +kernel
theorem dLW_law_101 : decode cLW_law 101 = .ok (.aload_n 0, 1) := by decide +kernel
theorem dLW_law_102 : decode cLW_law 102 = .ok (.iload_n 3, 1) := by decide +kernel
theorem dLW_law_103 : decode cLW_law 103 = .ok (.iconst 1, 1) := by decide +kernel
theorem dLW_law_104 : decode cLW_law 104 = .ok (.iadd, 1) := by decide +kernel
theorem dLW_law_105 : decode cLW_law 105 = .ok (.iaload, 1) := by decide +kernel
theorem dLW_law_106 : decode cLW_law 106 = .ok (.invokevirtual 13, 3) := by decide +kernel
theorem dLW_law_109 : decode cLW_law 109 = .ok (.aload_n 2, 1) := by decide +kernel
theorem dLW_law_110 : decode cLW_law 110 = .ok (.aload_n 0, 1) := by decide +kernel
theorem dLW_law_111 : decode cLW_law 111 = .ok (.iload_n 3, 1) := by decide +kernel
theorem dLW_law_112 : decode cLW_law 112 = .ok (.iconst 1, 1) := by decide +kernel
theorem dLW_law_113 : decode cLW_law 113 = .ok (.iadd, 1) := by decide +kernel
theorem dLW_law_114 : decode cLW_law 114 = .ok (.iaload, 1) := by decide +kernel
theorem dLW_law_115 : decode cLW_law 115 = .ok (.invokevirtual 17, 3) := by decide +kernel
theorem dLW_law_118 : decode cLW_law 118 = .ok (.if_icmp .eq 387, 3) := by decide +kernel
theorem dLW_law_121 : decode cLW_law 121 = .ok (.iconst 0, 1) := by decide +kernel
theorem dLW_law_122 : decode cLW_law 122 = .ok (.ireturn, 1) := by decide +kernel
theorem dLW_law_123 : decode cLW_law 123 = .ok (.aload_n 1, 1) := by decide +kernel
theorem dLW_law_124 : decode cLW_law 124 = .ok (.aload_n 0, 1) := by decide +kernel
theorem dLW_law_125 : decode cLW_law 125 = .ok (.iload_n 3, 1) := by decide +kernel
theorem dLW_law_126 : decode cLW_law 126 = .ok (.iconst 1, 1) := by decide +kernel
theorem dLW_law_127 : decode cLW_law 127 = .ok (.iadd, 1) := by decide +kernel
theorem dLW_law_128 : decode cLW_law 128 = .ok (.iaload, 1) := by decide +kernel
theorem dLW_law_129 : decode cLW_law 129 = .ok (.aload_n 0, 1) := by decide +kernel
theorem dLW_law_130 : decode cLW_law 130 = .ok (.iload_n 3, 1) := by decide +kernel
theorem dLW_law_131 : decode cLW_law 131 = .ok (.iconst 2, 1) := by decide +kernel
theorem dLW_law_132 : decode cLW_law 132 = .ok (.iadd, 1) := by decide +kernel
theorem dLW_law_133 : decode cLW_law 133 = .ok (.iaload, 1) := by decide +kernel
theorem dLW_law_134 : decode cLW_law 134 = .ok (.aload_n 0, 1) := by decide +kernel
theorem dLW_law_135 : decode cLW_law 135 = .ok (.iload_n 3, 1) := by decide +kernel
theorem dLW_law_136 : decode cLW_law 136 = .ok (.iconst 3, 1) := by decide +kernel
theorem dLW_law_137 : decode cLW_law 137 = .ok (.iadd, 1) := by decide +kernel
theorem dLW_law_138 : decode cLW_law 138 = .ok (.iaload, 1) := by decide +kernel
theorem dLW_law_139 : decode cLW_law 139 = .ok (.aload_n 0, 1) := by decide +kernel
theorem dLW_law_140 : decode cLW_law 140 = .ok (.iload_n 3, 1) := by decide +kernel
theorem dLW_law_141 : decode cLW_law 141 = .ok (.iconst 4, 1) := by decide +kernel
theorem dLW_law_142 : decode cLW_law 142 = .ok (.iadd, 1) := by decide +kernel
theorem dLW_law_143 : decode cLW_law 143 = .ok (.iaload, 1) := by decide +kernel
theorem dLW_law_144 : decode cLW_law 144 = .ok (.invokevirtual 18, 3) := by decide +kernel
theorem dLW_law_147 : decode cLW_law 147 = .ok (.aload_n 2, 1) := by decide +kernel
theorem dLW_law_148 : decode cLW_law 148 = .ok (.aload_n 0, 1) := by decide +kernel
theorem dLW_law_149 : decode cLW_law 149 = .ok (.iload_n 3, 1) := by decide +kernel
theorem dLW_law_150 : decode cLW_law 150 = .ok (.iconst 1, 1) := by decide +kernel
theorem dLW_law_151 : decode cLW_law 151 = .ok (.iadd, 1) := by decide +kernel
theorem dLW_law_152 : decode cLW_law 152 = .ok (.iaload, 1) := by decide +kernel
theorem dLW_law_153 : decode cLW_law 153 = .ok (.aload_n 0, 1) := by decide +kernel
theorem dLW_law_154 : decode cLW_law 154 = .ok (.iload_n 3, 1) := by decide +kernel
theorem dLW_law_155 : decode cLW_law 155 = .ok (.iconst 2, 1) := by decide +kernel
theorem dLW_law_156 : decode cLW_law 156 = .ok (.iadd, 1) := by decide +kernel
theorem dLW_law_157 : decode cLW_law 157 = .ok (.iaload, 1) := by decide +kernel
theorem dLW_law_158 : decode cLW_law 158 = .ok (.aload_n 0, 1) := by decide +kernel
theorem dLW_law_159 : decode cLW_law 159 = .ok (.iload_n 3, 1) := by decide +kernel
theorem dLW_law_160 : decode cLW_law 160 = .ok (.iconst 3, 1) := by decide +kernel
theorem dLW_law_161 : decode cLW_law 161 = .ok (.iadd, 1) := by decide +kernel
theorem dLW_law_162 : decode cLW_law 162 = .ok (.iaload, 1) := by decide +kernel
theorem dLW_law_163 : decode cLW_law 163 = .ok (.aload_n 0, 1) := by decide +kernel
theorem dLW_law_164 : decode cLW_law 164 = .ok (.iload_n 3, 1) := by decide +kernel
theorem dLW_law_165 : decode cLW_law 165 = .ok (.iconst 4, 1) := by decide +kernel
theorem dLW_law_166 : decode cLW_law 166 = .ok (.iadd, 1) := by decide +kernel
theorem dLW_law_167 : decode cLW_law 167 = .ok (.iaload, 1) := by decide +kernel
theorem dLW_law_168 : decode cLW_law 168 = .ok (.invokevirtual 22, 3) := by decide +kernel
theorem dLW_law_171 : decode cLW_law 171 = .ok (.if_icmp .eq 334, 3) := by decide +kernel
theorem dLW_law_174 : decode cLW_law 174 = .ok (.iconst 0, 1) := by decide +kernel
theorem dLW_law_175 : decode cLW_law 175 = .ok (.ireturn, 1) := by decide +kernel
theorem dLW_law_176 : decode cLW_law 176 = .ok (.aload_n 1, 1) := by decide +kernel
theorem dLW_law_177 : decode cLW_law 177 = .ok (.aload_n 0, 1) := by decide +kernel
theorem dLW_law_178 : decode cLW_law 178 = .ok (.iload_n 3, 1) := by decide +kernel
theorem dLW_law_179 : decode cLW_law 179 = .ok (.iconst 1, 1) := by decide +kernel
theorem dLW_law_180 : decode cLW_law 180 = .ok (.iadd, 1) := by decide +kernel
theorem dLW_law_181 : decode cLW_law 181 = .ok (.iaload, 1) := by decide +kernel
theorem dLW_law_182 : decode cLW_law 182 = .ok (.aload_n 0, 1) := by decide +kernel
theorem dLW_law_183 : decode cLW_law 183 = .ok (.iload_n 3, 1) := by decide +kernel
theorem dLW_law_184 : decode cLW_law 184 = .ok (.iconst 2, 1) := by decide +kernel
theorem dLW_law_185 : decode cLW_law 185 = .ok (.iadd, 1) := by decide +kernel
theorem dLW_law_186 : decode cLW_law 186 = .ok (.iaload, 1) := by decide +kernel
theorem dLW_law_187 : decode cLW_law 187 = .ok (.invokevirtual 23, 3) := by decide +kernel
theorem dLW_law_190 : decode cLW_law 190 = .ok (.aload_n 2, 1) := by decide +kernel
theorem dLW_law_191 : decode cLW_law 191 = .ok (.aload_n 0, 1) := by decide +kernel
theorem dLW_law_192 : decode cLW_law 192 = .ok (.iload_n 3, 1) := by decide +kernel
theorem dLW_law_193 : decode cLW_law 193 = .ok (.iconst 1, 1) := by decide +kernel
theorem dLW_law_194 : decode cLW_law 194 = .ok (.iadd, 1) := by decide +kernel
theorem dLW_law_195 : decode cLW_law 195 = .ok (.iaload, 1) := by decide +kernel
theorem dLW_law_196 : decode cLW_law 196 = .ok (.aload_n 0, 1) := by decide +kernel
theorem dLW_law_197 : decode cLW_law 197 = .ok (.iload_n 3, 1) := by decide +kernel
theorem dLW_law_198 : decode cLW_law 198 = .ok (.iconst 2, 1) := by decide +kernel
theorem dLW_law_199 : decode cLW_law 199 = .ok (.iadd, 1) := by decide +kernel
theorem dLW_law_200 : decode cLW_law 200 = .ok (.iaload, 1) := by decide +kernel
theorem dLW_law_201 : decode cLW_law 201 = .ok (.invokevirtual 27, 3) := by decide +kernel
theorem dLW_law_204 : decode cLW_law 204 = .ok (.if_icmp .eq 301, 3) := by decide +kernel
theorem dLW_law_207 : decode cLW_law 207 = .ok (.iconst 0, 1) := by decide +kernel
theorem dLW_law_208 : decode cLW_law 208 = .ok (.ireturn, 1) := by decide +kernel
theorem dLW_law_209 : decode cLW_law 209 = .ok (.aload_n 1, 1) := by decide +kernel
theorem dLW_law_210 : decode cLW_law 210 = .ok (.aload_n 0, 1) := by decide +kernel
theorem dLW_law_211 : decode cLW_law 211 = .ok (.iload_n 3, 1) := by decide +kernel
theorem dLW_law_212 : decode cLW_law 212 = .ok (.iconst 1, 1) := by decide +kernel
theorem dLW_law_213 : decode cLW_law 213 = .ok (.iadd, 1) := by decide +kernel
theorem dLW_law_214 : decode cLW_law 214 = .ok (.iaload, 1) := by decide +kernel
theorem dLW_law_215 : decode cLW_law 215 = .ok (.aload_n 0, 1) := by decide +kernel
theorem dLW_law_216 : decode cLW_law 216 = .ok (.iload_n 3, 1) := by decide +kernel
theorem dLW_law_217 : decode cLW_law 217 = .ok (.iconst 2, 1) := by decide +kernel
theorem dLW_law_218 : decode cLW_law 218 = .ok (.iadd, 1) := by decide +kernel
theorem dLW_law_219 : decode cLW_law 219 = .ok (.iaload, 1) := by decide +kernel
theorem dLW_law_220 : decode cLW_law 220 = .ok (.invokevirtual 28, 3) := by decide +kernel
theorem dLW_law_223 : decode cLW_law 223 = .ok (.aload_n 2, 1) := by decide +kernel
theorem dLW_law_224 : decode cLW_law 224 = .ok (.aload_n 0, 1) := by decide +kernel
theorem dLW_law_225 : decode cLW_law 225 = .ok (.iload_n 3, 1) := by decide +kernel
theorem dLW_law_226 : decode cLW_law 226 = .ok (.iconst 1, 1) := by decide +kernel
theorem dLW_law_227 : decode cLW_law 227 = .ok (.iadd, 1) := by decide +kernel
theorem dLW_law_228 : decode cLW_law 228 = .ok (.iaload, 1) := by decide +kernel
theorem dLW_law_229 : decode cLW_law 229 = .ok (.aload_n 0, 1) := by decide +kernel
theorem dLW_law_230 : decode cLW_law 230 = .ok (.iload_n 3, 1) := by decide +kernel
theorem dLW_law_231 : decode cLW_law 231 = .ok (.iconst 2, 1) := by decide +kernel
theorem dLW_law_232 : decode cLW_law 232 = .ok (.iadd, 1) := by decide +kernel
theorem dLW_law_233 : decode cLW_law 233 = .ok (.iaload, 1) := by decide +kernel
theorem dLW_law_234 : decode cLW_law 234 = .ok (.invokevirtual 31, 3) := by decide +kernel
theorem dLW_law_237 : decode cLW_law 237 = .ok (.if_icmp .eq 268, 3) := by decide +kernel
theorem dLW_law_240 : decode cLW_law 240 = .ok (.iconst 0, 1) := by decide +kernel
theorem dLW_law_241 : decode cLW_law 241 = .ok (.ireturn, 1) := by decide +kernel
theorem dLW_law_242 : decode cLW_law 242 = .ok (.aload_n 1, 1) := by decide +kernel
theorem dLW_law_243 : decode cLW_law 243 = .ok (.aload_n 0, 1) := by decide +kernel
theorem dLW_law_244 : decode cLW_law 244 = .ok (.iload_n 3, 1) := by decide +kernel
theorem dLW_law_245 : decode cLW_law 245 = .ok (.iconst 1, 1) := by decide +kernel
theorem dLW_law_246 : decode cLW_law 246 = .ok (.iadd, 1) := by decide +kernel
theorem dLW_law_247 : decode cLW_law 247 = .ok (.iaload, 1) := by decide +kernel
theorem dLW_law_248 : decode cLW_law 248 = .ok (.aload_n 0, 1) := by decide +kernel
theorem dLW_law_249 : decode cLW_law 249 = .ok (.iload_n 3, 1) := by decide +kernel
theorem dLW_law_250 : decode cLW_law 250 = .ok (.iconst 2, 1) := by decide +kernel
theorem dLW_law_251 : decode cLW_law 251 = .ok (.iadd, 1) := by decide +kernel
theorem dLW_law_252 : decode cLW_law 252 = .ok (.iaload, 1) := by decide +kernel
theorem dLW_law_253 : decode cLW_law 253 = .ok (.aload_n 0, 1) := by decide +kernel
theorem dLW_law_254 : decode cLW_law 254 = .ok (.iload_n 3, 1) := by decide +kernel
theorem dLW_law_255 : decode cLW_law 255 = .ok (.iconst 3, 1) := by decide +kernel
theorem dLW_law_256 : decode cLW_law 256 = .ok (.iadd, 1) := by decide +kernel
theorem dLW_law_257 : decode cLW_law 257 = .ok (.iaload, 1) := by decide +kernel
theorem dLW_law_258 : decode cLW_law 258 = .ok (.ifCond .eq 7, 3) := by decide +kernel
theorem dLW_law_261 : decode cLW_law 261 = .ok (.iconst 1, 1) := by decide +kernel
theorem dLW_law_262 : decode cLW_law 262 = .ok (.goto 4, 3) := by decide +kernel
theorem dLW_law_265 : decode cLW_law 265 = .ok (.iconst 0, 1) := by decide +kernel
theorem dLW_law_266 : decode cLW_law 266 = .ok (.invokevirtual 32, 3) := by decide +kernel
theorem dLW_law_269 : decode cLW_law 269 = .ok (.aload_n 2, 1) := by decide +kernel
theorem dLW_law_270 : decode cLW_law 270 = .ok (.aload_n 0, 1) := by decide +kernel
theorem dLW_law_271 : decode cLW_law 271 = .ok (.iload_n 3, 1) := by decide +kernel
theorem dLW_law_272 : decode cLW_law 272 = .ok (.iconst 1, 1) := by decide +kernel
theorem dLW_law_273 : decode cLW_law 273 = .ok (.iadd, 1) := by decide +kernel
theorem dLW_law_274 : decode cLW_law 274 = .ok (.iaload, 1) := by decide +kernel
theorem dLW_law_275 : decode cLW_law 275 = .ok (.aload_n 0, 1) := by decide +kernel
theorem dLW_law_276 : decode cLW_law 276 = .ok (.iload_n 3, 1) := by decide +kernel
theorem dLW_law_277 : decode cLW_law 277 = .ok (.iconst 2, 1) := by decide +kernel
theorem dLW_law_278 : decode cLW_law 278 = .ok (.iadd, 1) := by decide +kernel
theorem dLW_law_279 : decode cLW_law 279 = .ok (.iaload, 1) := by decide +kernel
theorem dLW_law_280 : decode cLW_law 280 = .ok (.aload_n 0, 1) := by decide +kernel
theorem dLW_law_281 : decode cLW_law 281 = .ok (.iload_n 3, 1) := by decide +kernel
theorem dLW_law_282 : decode cLW_law 282 = .ok (.iconst 3, 1) := by decide +kernel
theorem dLW_law_283 : decode cLW_law 283 = .ok (.iadd, 1) := by decide +kernel
theorem dLW_law_284 : decode cLW_law 284 = .ok (.iaload, 1) := by decide +kernel
theorem dLW_law_285 : decode cLW_law 285 = .ok (.ifCond .eq 7, 3) := by decide +kernel
theorem dLW_law_288 : decode cLW_law 288 = .ok (.iconst 1, 1) := by decide +kernel
theorem dLW_law_289 : decode cLW_law 289 = .ok (.goto 4, 3) := by decide +kernel
theorem dLW_law_292 : decode cLW_law 292 = .ok (.iconst 0, 1) := by decide +kernel
theorem dLW_law_293 : decode cLW_law 293 = .ok (.invokevirtual 36, 3) := by decide +kernel
theorem dLW_law_296 : decode cLW_law 296 = .ok (.if_icmp .eq 209, 3) := by decide +kernel
theorem dLW_law_299 : decode cLW_law 299 = .ok (.iconst 0, 1) := by decide +kernel
theorem dLW_law_300 : decode cLW_law 300 = .ok (.ireturn, 1) := by decide +kernel
theorem dLW_law_301 : decode cLW_law 301 = .ok (.aload_n 1, 1) := by decide +kernel
theorem dLW_law_302 : decode cLW_law 302 = .ok (.aload_n 0, 1) := by decide +kernel
theorem dLW_law_303 : decode cLW_law 303 = .ok (.iload_n 3, 1) := by decide +kernel
theorem dLW_law_304 : decode cLW_law 304 = .ok (.iconst 1, 1) := by decide +kernel
theorem dLW_law_305 : decode cLW_law 305 = .ok (.iadd, 1) := by decide +kernel
theorem dLW_law_306 : decode cLW_law 306 = .ok (.iaload, 1) := by decide +kernel
theorem dLW_law_307 : decode cLW_law 307 = .ok (.invokevirtual 37, 3) := by decide +kernel
theorem dLW_law_310 : decode cLW_law 310 = .ok (.aload_n 2, 1) := by decide +kernel
theorem dLW_law_311 : decode cLW_law 311 = .ok (.aload_n 0, 1) := by decide +kernel
theorem dLW_law_312 : decode cLW_law 312 = .ok (.iload_n 3, 1) := by decide +kernel
theorem dLW_law_313 : decode cLW_law 313 = .ok (.iconst 1, 1) := by decide +kernel
theorem dLW_law_314 : decode cLW_law 314 = .ok (.iadd, 1) := by decide +kernel
theorem dLW_law_315 : decode cLW_law 315 = .ok (.iaload, 1) := by decide +kernel
theorem dLW_law_316 : decode cLW_law 316 = .ok (.invokevirtual 41, 3) := by decide +kernel
theorem dLW_law_319 : decode cLW_law 319 = .ok (.if_icmp .eq 186, 3) := by decide +kernel
theorem dLW_law_322 : decode cLW_law 322 = .ok (.iconst 0, 1) := by decide +kernel
theorem dLW_law_323 : decode cLW_law 323 = .ok (.ireturn, 1) := by decide +kernel
theorem dLW_law_324 : decode cLW_law 324 = .ok (.aload_n 1, 1) := by decide +kernel
theorem dLW_law_325 : decode cLW_law 325 = .ok (.aload_n 0, 1) := by decide +kernel
theorem dLW_law_326 : decode cLW_law 326 = .ok (.iload_n 3, 1) := by decide +kernel
theorem dLW_law_327 : decode cLW_law 327 = .ok (.iconst 1, 1) := by decide +kernel
theorem dLW_law_328 : decode cLW_law 328 = .ok (.iadd, 1) := by decide +kernel
theorem dLW_law_329 : decode cLW_law 329 = .ok (.iaload, 1) := by decide +kernel
theorem dLW_law_330 : decode cLW_law 330 = .ok (.aload_n 0, 1) := by decide +kernel
theorem dLW_law_331 : decode cLW_law 331 = .ok (.iload_n 3, 1) := by decide +kernel
theorem dLW_law_332 : decode cLW_law 332 = .ok (.iconst 2, 1) := by decide +kernel
theorem dLW_law_333 : decode cLW_law 333 = .ok (.iadd, 1) := by decide +kernel
theorem dLW_law_334 : decode cLW_law 334 = .ok (.iaload, 1) := by decide +kernel
theorem dLW_law_335 : decode cLW_law 335 = .ok (.invokevirtual 42, 3) := by decide +kernel
theorem dLW_law_338 : decode cLW_law 338 = .ok (.aload_n 2, 1) := by decide +kernel
theorem dLW_law_339 : decode cLW_law 339 = .ok (.aload_n 0, 1) := by decide +kernel
theorem dLW_law_340 : decode cLW_law 340 = .ok (.iload_n 3, 1) := by decide +kernel
theorem dLW_law_341 : decode cLW_law 341 = .ok (.iconst 1, 1) := by decide +kernel
theorem dLW_law_342 : decode cLW_law 342 = .ok (.iadd, 1) := by decide +kernel
theorem dLW_law_343 : decode cLW_law 343 = .ok (.iaload, 1) := by decide +kernel
theorem dLW_law_344 : decode cLW_law 344 = .ok (.aload_n 0, 1) := by decide +kernel
theorem dLW_law_345 : decode cLW_law 345 = .ok (.iload_n 3, 1) := by decide +kernel
theorem dLW_law_346 : decode cLW_law 346 = .ok (.iconst 2, 1) := by decide +kernel
theorem dLW_law_347 : decode cLW_law 347 = .ok (.iadd, 1) := by decide +kernel
theorem dLW_law_348 : decode cLW_law 348 = .ok (.iaload, 1) := by decide +kernel
theorem dLW_law_349 : decode cLW_law 349 = .ok (.invokevirtual 45, 3) := by decide +kernel
theorem dLW_law_352 : decode cLW_law 352 = .ok (.if_icmp .eq 153, 3) := by decide +kernel
theorem dLW_law_355 : decode cLW_law 355 = .ok (.iconst 0, 1) := by decide +kernel
theorem dLW_law_356 : decode cLW_law 356 = .ok (.ireturn, 1) := by decide +kernel
theorem dLW_law_357 : decode cLW_law 357 = .ok (.aload_n 1, 1) := by decide +kernel
theorem dLW_law_358 : decode cLW_law 358 = .ok (.aload_n 0, 1) := by decide +kernel
theorem dLW_law_359 : decode cLW_law 359 = .ok (.iload_n 3, 1) := by decide +kernel
theorem dLW_law_360 : decode cLW_law 360 = .ok (.iconst 1, 1) := by decide +kernel
theorem dLW_law_361 : decode cLW_law 361 = .ok (.iadd, 1) := by decide +kernel
theorem dLW_law_362 : decode cLW_law 362 = .ok (.iaload, 1) := by decide +kernel
theorem dLW_law_363 : decode cLW_law 363 = .ok (.invokevirtual 46, 3) := by decide +kernel
theorem dLW_law_366 : decode cLW_law 366 = .ok (.aload_n 2, 1) := by decide +kernel
theorem dLW_law_367 : decode cLW_law 367 = .ok (.aload_n 0, 1) := by decide +kernel
theorem dLW_law_368 : decode cLW_law 368 = .ok (.iload_n 3, 1) := by decide +kernel
theorem dLW_law_369 : decode cLW_law 369 = .ok (.iconst 1, 1) := by decide +kernel
theorem dLW_law_370 : decode cLW_law 370 = .ok (.iadd, 1) := by decide +kernel
theorem dLW_law_371 : decode cLW_law 371 = .ok (.iaload, 1) := by decide +kernel
theorem dLW_law_372 : decode cLW_law 372 = .ok (.invokevirtual 49, 3) := by decide +kernel
theorem dLW_law_375 : decode cLW_law 375 = .ok (.if_icmp .eq 130, 3) := by decide +kernel
theorem dLW_law_378 : decode cLW_law 378 = .ok (.iconst 0, 1) := by decide +kernel
theorem dLW_law_379 : decode cLW_law 379 = .ok (.ireturn, 1) := by decide +kernel
theorem dLW_law_380 : decode cLW_law 380 = .ok (.aload_n 1, 1) := by decide +kernel
theorem dLW_law_381 : decode cLW_law 381 = .ok (.aload_n 0, 1) := by decide +kernel
theorem dLW_law_382 : decode cLW_law 382 = .ok (.iload_n 3, 1) := by decide +kernel
theorem dLW_law_383 : decode cLW_law 383 = .ok (.iconst 1, 1) := by decide +kernel
theorem dLW_law_384 : decode cLW_law 384 = .ok (.iadd, 1) := by decide +kernel
theorem dLW_law_385 : decode cLW_law 385 = .ok (.iaload, 1) := by decide +kernel
theorem dLW_law_386 : decode cLW_law 386 = .ok (.invokevirtual 50, 3) := by decide +kernel
theorem dLW_law_389 : decode cLW_law 389 = .ok (.aload_n 2, 1) := by decide +kernel
theorem dLW_law_390 : decode cLW_law 390 = .ok (.aload_n 0, 1) := by decide +kernel
theorem dLW_law_391 : decode cLW_law 391 = .ok (.iload_n 3, 1) := by decide +kernel
theorem dLW_law_392 : decode cLW_law 392 = .ok (.iconst 1, 1) := by decide +kernel
theorem dLW_law_393 : decode cLW_law 393 = .ok (.iadd, 1) := by decide +kernel
theorem dLW_law_394 : decode cLW_law 394 = .ok (.iaload, 1) := by decide +kernel
theorem dLW_law_395 : decode cLW_law 395 = .ok (.invokevirtual 53, 3) := by decide +kernel
theorem dLW_law_398 : decode cLW_law 398 = .ok (.if_icmp .eq 107, 3) := by decide +kernel
theorem dLW_law_401 : decode cLW_law 401 = .ok (.iconst 0, 1) := by decide +kernel
theorem dLW_law_402 : decode cLW_law 402 = .ok (.ireturn, 1) := by decide +kernel
theorem dLW_law_403 : decode cLW_law 403 = .ok (.aload_n 1, 1) := by decide +kernel
theorem dLW_law_404 : decode cLW_law 404 = .ok (.invokevirtual 54, 3) := by decide +kernel
theorem dLW_law_407 : decode cLW_law 407 = .ok (.aload_n 2, 1) := by decide +kernel
theorem dLW_law_408 : decode cLW_law 408 = .ok (.invokevirtual 58, 3) := by decide +kernel
theorem dLW_law_411 : decode cLW_law 411 = .ok (.if_icmp .eq 94, 3) := by decide +kernel
theorem dLW_law_414 : decode cLW_law 414 = .ok (.iconst 0, 1) := by decide +kernel
theorem dLW_law_415 : decode cLW_law 415 = .ok (.ireturn, 1) := by decide +kernel
theorem dLW_law_416 : decode cLW_law 416 = .ok (.aload_n 1, 1) := by decide +kernel
theorem dLW_law_417 : decode cLW_law 417 = .ok (.aload_n 0, 1) := by decide +kernel
theorem dLW_law_418 : decode cLW_law 418 = .ok (.iload_n 3, 1) := by decide +kernel
theorem dLW_law_419 : decode cLW_law 419 = .ok (.iconst 1, 1) := by decide +kernel
theorem dLW_law_420 : decode cLW_law 420 = .ok (.iadd, 1) := by decide +kernel
theorem dLW_law_421 : decode cLW_law 421 = .ok (.iaload, 1) := by decide +kernel
theorem dLW_law_422 : decode cLW_law 422 = .ok (.aload_n 0, 1) := by decide +kernel
theorem dLW_law_423 : decode cLW_law 423 = .ok (.iload_n 3, 1) := by decide +kernel
theorem dLW_law_424 : decode cLW_law 424 = .ok (.iconst 2, 1) := by decide +kernel
theorem dLW_law_425 : decode cLW_law 425 = .ok (.iadd, 1) := by decide +kernel
theorem dLW_law_426 : decode cLW_law 426 = .ok (.iaload, 1) := by decide +kernel
theorem dLW_law_427 : decode cLW_law 427 = .ok (.invokevirtual 59, 3) := by decide +kernel
theorem dLW_law_430 : decode cLW_law 430 = .ok (.aload_n 2, 1) := by decide +kernel
theorem dLW_law_431 : decode cLW_law 431 = .ok (.aload_n 0, 1) := by decide +kernel
theorem dLW_law_432 : decode cLW_law 432 = .ok (.iload_n 3, 1) := by decide +kernel
theorem dLW_law_433 : decode cLW_law 433 = .ok (.iconst 1, 1) := by decide +kernel
theorem dLW_law_434 : decode cLW_law 434 = .ok (.iadd, 1) := by decide +kernel
theorem dLW_law_435 : decode cLW_law 435 = .ok (.iaload, 1) := by decide +kernel
theorem dLW_law_436 : decode cLW_law 436 = .ok (.aload_n 0, 1) := by decide +kernel
theorem dLW_law_437 : decode cLW_law 437 = .ok (.iload_n 3, 1) := by decide +kernel
theorem dLW_law_438 : decode cLW_law 438 = .ok (.iconst 2, 1) := by decide +kernel
theorem dLW_law_439 : decode cLW_law 439 = .ok (.iadd, 1) := by decide +kernel
theorem dLW_law_440 : decode cLW_law 440 = .ok (.iaload, 1) := by decide +kernel
theorem dLW_law_441 : decode cLW_law 441 = .ok (.invokevirtual 63, 3) := by decide +kernel
theorem dLW_law_444 : decode cLW_law 444 = .ok (.if_icmp .eq 61, 3) := by decide +kernel
theorem dLW_law_447 : decode cLW_law 447 = .ok (.iconst 0, 1) := by decide +kernel
theorem dLW_law_448 : decode cLW_law 448 = .ok (.ireturn, 1) := by decide +kernel
theorem dLW_law_449 : decode cLW_law 449 = .ok (.aload_n 1, 1) := by decide +kernel
theorem dLW_law_450 : decode cLW_law 450 = .ok (.aload_n 0, 1) := by decide +kernel
theorem dLW_law_451 : decode cLW_law 451 = .ok (.iload_n 3, 1) := by decide +kernel
theorem dLW_law_452 : decode cLW_law 452 = .ok (.iconst 1, 1) := by decide +kernel
theorem dLW_law_453 : decode cLW_law 453 = .ok (.iadd, 1) := by decide +kernel
theorem dLW_law_454 : decode cLW_law 454 = .ok (.iaload, 1) := by decide +kernel
theorem dLW_law_455 : decode cLW_law 455 = .ok (.aload_n 0, 1) := by decide +kernel
theorem dLW_law_456 : decode cLW_law 456 = .ok (.iload_n 3, 1) := by decide +kernel
theorem dLW_law_457 : decode cLW_law 457 = .ok (.iconst 2, 1) := by decide +kernel
theorem dLW_law_458 : decode cLW_law 458 = .ok (.iadd, 1) := by decide +kernel
theorem dLW_law_459 : decode cLW_law 459 = .ok (.iaload, 1) := by decide +kernel
theorem dLW_law_460 : decode cLW_law 460 = .ok (.invokevirtual 64, 3) := by decide +kernel
theorem dLW_law_463 : decode cLW_law 463 = .ok (.aload_n 2, 1) := by decide +kernel
theorem dLW_law_464 : decode cLW_law 464 = .ok (.aload_n 0, 1) := by decide +kernel
theorem dLW_law_465 : decode cLW_law 465 = .ok (.iload_n 3, 1) := by decide +kernel
theorem dLW_law_466 : decode cLW_law 466 = .ok (.iconst 1, 1) := by decide +kernel
theorem dLW_law_467 : decode cLW_law 467 = .ok (.iadd, 1) := by decide +kernel
theorem dLW_law_468 : decode cLW_law 468 = .ok (.iaload, 1) := by decide +kernel
theorem dLW_law_469 : decode cLW_law 469 = .ok (.aload_n 0, 1) := by decide +kernel
theorem dLW_law_470 : decode cLW_law 470 = .ok (.iload_n 3, 1) := by decide +kernel
theorem dLW_law_471 : decode cLW_law 471 = .ok (.iconst 2, 1) := by decide +kernel
theorem dLW_law_472 : decode cLW_law 472 = .ok (.iadd, 1) := by decide +kernel
theorem dLW_law_473 : decode cLW_law 473 = .ok (.iaload, 1) := by decide +kernel
theorem dLW_law_474 : decode cLW_law 474 = .ok (.invokevirtual 67, 3) := by decide +kernel
theorem dLW_law_477 : decode cLW_law 477 = .ok (.if_icmp .eq 28, 3) := by decide +kernel
theorem dLW_law_480 : decode cLW_law 480 = .ok (.iconst 0, 1) := by decide +kernel
theorem dLW_law_481 : decode cLW_law 481 = .ok (.ireturn, 1) := by decide +kernel
theorem dLW_law_482 : decode cLW_law 482 = .ok (.aload_n 1, 1) := by decide +kernel
theorem dLW_law_483 : decode cLW_law 483 = .ok (.aload_n 0, 1) := by decide +kernel
theorem dLW_law_484 : decode cLW_law 484 = .ok (.iload_n 3, 1) := by decide +kernel
theorem dLW_law_485 : decode cLW_law 485 = .ok (.iconst 1, 1) := by decide +kernel
theorem dLW_law_486 : decode cLW_law 486 = .ok (.iadd, 1) := by decide +kernel
theorem dLW_law_487 : decode cLW_law 487 = .ok (.iaload, 1) := by decide +kernel
theorem dLW_law_488 : decode cLW_law 488 = .ok (.invokevirtual 68, 3) := by decide +kernel
theorem dLW_law_491 : decode cLW_law 491 = .ok (.aload_n 2, 1) := by decide +kernel
theorem dLW_law_492 : decode cLW_law 492 = .ok (.aload_n 0, 1) := by decide +kernel
theorem dLW_law_493 : decode cLW_law 493 = .ok (.iload_n 3, 1) := by decide +kernel
theorem dLW_law_494 : decode cLW_law 494 = .ok (.iconst 1, 1) := by decide +kernel
theorem dLW_law_495 : decode cLW_law 495 = .ok (.iadd, 1) := by decide +kernel
theorem dLW_law_496 : decode cLW_law 496 = .ok (.iaload, 1) := by decide +kernel
theorem dLW_law_497 : decode cLW_law 497 = .ok (.invokevirtual 71, 3) := by decide +kernel
theorem dLW_law_500 : decode cLW_law 500 = .ok (.if_icmp .eq 5, 3) := by decide +kernel
theorem dLW_law_503 : decode cLW_law 503 = .ok (.iconst 0, 1) := by decide +kernel
theorem dLW_law_504 : decode cLW_law 504 = .ok (.ireturn, 1) := by decide +kernel
theorem dLW_law_505 : decode cLW_law 505 = .ok (.iinc 3 5, 3) := by decide +kernel
theorem dLW_law_508 : decode cLW_law 508 = .ok (.goto (-490), 3) := by decide +kernel
theorem dLW_law_511 : decode cLW_law 511 = .ok (.iconst 1, 1) := by decide +kernel
theorem dLW_law_512 : decode cLW_law 512 = .ok (.ireturn, 1) := by decide +kernel
