theorem d_L_cell_0 : decode b_L_cell 0 = .ok (.iload_n 1, 1) := by decide +kernel
theorem d_L_cell_1 : decode b_L_cell 1 = .ok (.aload_n 0, 1) := by decide +kernel
theorem d_L_cell_2 : decode b_L_cell 2 = .ok (.arraylength, 1) := by decide +kernel
theorem d_L_cell_3 : decode b_L_cell 3 = .ok (.if_icmp .ge 9, 3) := by decide +kernel
theorem d_L_cell_6 : decode b_L_cell 6 = .ok (.aload_n 0, 1) := by decide +kernel
theorem d_L_cell_7 : decode b_L_cell 7 = .ok (.iload_n 1, 1) := by decide +kernel
theorem d_L_cell_8 : decode b_L_cell 8 = .ok (.iaload, 1) := by decide +kernel
theorem d_L_cell_9 : decode b_L_cell 9 = .ok (.goto 4, 3) := by decide +kernel
theorem d_L_cell_12 : decode b_L_cell 12 = .ok (.iconst 0, 1) := by decide +kernel
theorem d_L_cell_13 : decode b_L_cell 13 = .ok (.ireturn, 1) := by decide +kernel
theorem d_L_law_0 : decode b_L_law 0 = .ok (.new 7, 3) := by decide +kernel
theorem d_L_law_3 : decode b_L_law 3 = .ok (.dup, 1) := by decide +kernel
theorem d_L_law_4 : decode b_L_law 4 = .ok (.aload_n 0, 1) := by decide +kernel
theorem d_L_law_5 : decode b_L_law 5 = .ok (.iconst 0, 1) := by decide +kernel
theorem d_L_law_6 : decode b_L_law 6 = .ok (.invokestatic 9, 3) := by decide +kernel
theorem d_L_law_9 : decode b_L_law 9 = .ok (.invokespecial 15, 3) := by decide +kernel
theorem d_L_law_12 : decode b_L_law 12 = .ok (.astore_n 1, 1) := by decide +kernel
theorem d_L_law_13 : decode b_L_law 13 = .ok (.new 18, 3) := by decide +kernel
theorem d_L_law_16 : decode b_L_law 16 = .ok (.dup, 1) := by decide +kernel
theorem d_L_law_17 : decode b_L_law 17 = .ok (.aload_n 0, 1) := by decide +kernel
theorem d_L_law_18 : decode b_L_law 18 = .ok (.iconst 0, 1) := by decide +kernel
theorem d_L_law_19 : decode b_L_law 19 = .ok (.invokestatic 9, 3) := by decide +kernel
theorem d_L_law_22 : decode b_L_law 22 = .ok (.invokespecial 20, 3) := by decide +kernel
theorem d_L_law_25 : decode b_L_law 25 = .ok (.astore_n 2, 1) := by decide +kernel
theorem d_L_law_26 : decode b_L_law 26 = .ok (.iconst 1, 1) := by decide +kernel
theorem d_L_law_27 : decode b_L_law 27 = .ok (.istore_n 3, 1) := by decide +kernel
theorem d_L_law_28 : decode b_L_law 28 = .ok (.iload_n 3, 1) := by decide +kernel
theorem d_L_law_29 : decode b_L_law 29 = .ok (.aload_n 0, 1) := by decide +kernel
theorem d_L_law_30 : decode b_L_law 30 = .ok (.arraylength, 1) := by decide +kernel
theorem d_L_law_31 : decode b_L_law 31 = .ok (.iconst 5, 1) := by decide +kernel
theorem d_L_law_32 : decode b_L_law 32 = .ok (.isub, 1) := by decide +kernel
theorem d_L_law_33 : decode b_L_law 33 = .ok (.if_icmp .gt 538, 3) := by decide +kernel
theorem d_L_law_36 : decode b_L_law 36 = .ok (.aload_n 0, 1) := by decide +kernel
theorem d_L_law_37 : decode b_L_law 37 = .ok (.iload_n 3, 1) := by decide +kernel
theorem d_L_law_38 : decode b_L_law 38 = .ok (.iaload, 1) := by decide +kernel
theorem d_L_law_39 : decode b_L_law 39 = .ok (.bipush 15, 2) := by decide +kernel
theorem d_L_law_41 : decode b_L_law 41 = .ok (.iand, 1) := by decide +kernel
theorem d_L_law_42 : decode b_L_law 42 = .ok (.tableswitch 523 0 13 #[70, 103, 126, 149, 172, 205, 238, 281, 334, 367, 400, 453, 496, 510], 70) := by decide +kernel
theorem d_L_law_112 : decode b_L_law 112 = .ok (.aload_n 1, 1) := by decide +kernel
theorem d_L_law_113 : decode b_L_law 113 = .ok (.aload_n 0, 1) := by decide +kernel
theorem d_L_law_114 : decode b_L_law 114 = .ok (.iload_n 3, 1) := by decide +kernel
theorem d_L_law_115 : decode b_L_law 115 = .ok (.iconst 1, 1) := by decide +kernel
theorem d_L_law_116 : decode b_L_law 116 = .ok (.iadd, 1) := by decide +kernel
theorem d_L_law_117 : decode b_L_law 117 = .ok (.iaload, 1) := by decide +kernel
theorem d_L_law_118 : decode b_L_law 118 = .ok (.aload_n 0, 1) := by decide +kernel
theorem d_L_law_119 : decode b_L_law 119 = .ok (.iload_n 3, 1) := by decide +kernel
theorem d_L_law_120 : decode b_L_law 120 = .ok (.iconst 2, 1) := by decide +kernel
theorem d_L_law_121 : decode b_L_law 121 = .ok (.iadd, 1) := by decide +kernel
theorem d_L_law_122 : decode b_L_law 122 = .ok (.iaload, 1) := by decide +kernel
theorem d_L_law_123 : decode b_L_law 123 = .ok (.invokevirtual 21, 3) := by decide +kernel
theorem d_L_law_126 : decode b_L_law 126 = .ok (.aload_n 2, 1) := by decide +kernel
theorem d_L_law_127 : decode b_L_law 127 = .ok (.aload_n 0, 1) := by decide +kernel
theorem d_L_law_128 : decode b_L_law 128 = .ok (.iload_n 3, 1) := by decide +kernel
theorem d_L_law_129 : decode b_L_law 129 = .ok (.iconst 1, 1) := by decide +kernel
theorem d_L_law_130 : decode b_L_law 130 = .ok (.iadd, 1) := by decide +kernel
theorem d_L_law_131 : decode b_L_law 131 = .ok (.iaload, 1) := by decide +kernel
theorem d_L_law_132 : decode b_L_law 132 = .ok (.aload_n 0, 1) := by decide +kernel
theorem d_L_law_133 : decode b_L_law 133 = .ok (.iload_n 3, 1) := by decide +kernel
theorem d_L_law_134 : decode b_L_law 134 = .ok (.iconst 2, 1) := by decide +kernel
theorem d_L_law_135 : decode b_L_law 135 = .ok (.iadd, 1) := by decide +kernel
theorem d_L_law_136 : decode b_L_law 136 = .ok (.iaload, 1) := by decide +kernel
theorem d_L_law_137 : decode b_L_law 137 = .ok (.invokevirtual 25, 3) := by decide +kernel
theorem d_L_law_140 : decode b_L_law 140 = .ok (.if_icmp .eq 425, 3) := by decide +kernel
theorem d_L_law_143 : decode b_L_law 143 = .ok (.iconst 0, 1) := by decide +kernel
theorem d_L_law_144 : decode b_L_law 144 = .ok (.ireturn, 1) := by decide +kernel
theorem d_L_law_145 : decode b_L_law 145 = .ok (.aload_n 1, 1) := by decide +kernel
theorem d_L_law_146 : decode b_L_law 146 = .ok (.aload_n 0, 1) := by decide +kernel
theorem d_L_law_147 : decode b_L_law 147 = .ok (.iload_n 3, 1) := by decide +kernel
theorem d_L_law_148 : decode b_L_law 148 = .ok (.iconst 1, 1) := by decide +kernel
theorem d_L_law_149 : decode b_L_law 149 = .ok (.iadd, 1) := by decide +kernel
theorem d_L_law_150 : decode b_L_law 150 = .ok (.iaload, 1) := by decide +kernel
theorem d_L_law_151 : decode b_L_law 151 = .ok (.invokevirtual 26, 3) := by decide +kernel
theorem d_L_law_154 : decode b_L_law 154 = .ok (.aload_n 2, 1) := by decide +kernel
theorem d_L_law_155 : decode b_L_law 155 = .ok (.aload_n 0, 1) := by decide +kernel
theorem d_L_law_156 : decode b_L_law 156 = .ok (.iload_n 3, 1) := by decide +kernel
theorem d_L_law_157 : decode b_L_law 157 = .ok (.iconst 1, 1) := by decide +kernel
theorem d_L_law_158 : decode b_L_law 158 = .ok (.iadd, 1) := by decide +kernel
theorem d_L_law_159 : decode b_L_law 159 = .ok (.iaload, 1) := by decide +kernel
theorem d_L_law_160 : decode b_L_law 160 = .ok (.invokevirtual 30, 3) := by decide +kernel
theorem d_L_law_163 : decode b_L_law 163 = .ok (.if_icmp .eq 402, 3) := by decide +kernel
theorem d_L_law_166 : decode b_L_law 166 = .ok (.iconst 0, 1) := by decide +kernel
theorem d_L_law_167 : decode b_L_law 167 = .ok (.ireturn, 1) := by decide +kernel
theorem d_L_law_168 : decode b_L_law 168 = .ok (.aload_n 1, 1) := by decide +kernel
theorem d_L_law_169 : decode b_L_law 169 = .ok (.aload_n 0, 1) := by decide +kernel
theorem d_L_law_170 : decode b_L_law 170 = .ok (.iload_n 3, 1) := by decide +kernel
theorem d_L_law_171 : decode b_L_law 171 = .ok (.iconst 1, 1) := by decide +kernel
theorem d_L_law_172 : decode b_L_law 172 = .ok (.iadd, 1) := by decide +kernel
theorem d_L_law_173 : decode b_L_law 173 = .ok (.iaload, 1) := by decide +kernel
theorem d_L_law_174 : decode b_L_law 174 = .ok (.invokevirtual 31, 3) := by decide +kernel
theorem d_L_law_177 : decode b_L_law 177 = .ok (.aload_n 2, 1) := by decide +kernel
theorem d_L_law_178 : decode b_L_law 178 = .ok (.aload_n 0, 1) := by decide +kernel
theorem d_L_law_179 : decode b_L_law 179 = .ok (.iload_n 3, 1) := by decide +kernel
theorem d_L_law_180 : decode b_L_law 180 = .ok (.iconst 1, 1) := by decide +kernel
theorem d_L_law_181 : decode b_L_law 181 = .ok (.iadd, 1) := by decide +kernel
theorem d_L_law_182 : decode b_L_law 182 = .ok (.iaload, 1) := by decide +kernel
theorem d_L_law_183 : decode b_L_law 183 = .ok (.invokevirtual 34, 3) := by decide +kernel
theorem d_L_law_186 : decode b_L_law 186 = .ok (.if_icmp .eq 379, 3) := by decide +kernel
theorem d_L_law_189 : decode b_L_law 189 = .ok (.iconst 0, 1) := by decide +kernel
theorem d_L_law_190 : decode b_L_law 190 = .ok (.ireturn, 1) := by decide +kernel
theorem d_L_law_191 : decode b_L_law 191 = .ok (.aload_n 1, 1) := by decide +kernel
theorem d_L_law_192 : decode b_L_law 192 = .ok (.aload_n 0, 1) := by decide +kernel
theorem d_L_law_193 : decode b_L_law 193 = .ok (.iload_n 3, 1) := by decide +kernel
theorem d_L_law_194 : decode b_L_law 194 = .ok (.iconst 1, 1) := by decide +kernel
theorem d_L_law_195 : decode b_L_law 195 = .ok (.iadd, 1) := by decide +kernel
theorem d_L_law_196 : decode b_L_law 196 = .ok (.iaload, 1) := by decide +kernel
theorem d_L_law_197 : decode b_L_law 197 = .ok (.invokevirtual 35, 3) := by decide +kernel
theorem d_L_law_200 : decode b_L_law 200 = .ok (.aload_n 2, 1) := by decide +kernel
theorem d_L_law_201 : decode b_L_law 201 = .ok (.aload_n 0, 1) := by decide +kernel
theorem d_L_law_202 : decode b_L_law 202 = .ok (.iload_n 3, 1) := by decide +kernel
theorem d_L_law_203 : decode b_L_law 203 = .ok (.iconst 1, 1) := by decide +kernel
theorem d_L_law_204 : decode b_L_law 204 = .ok (.iadd, 1) := by decide +kernel
theorem d_L_law_205 : decode b_L_law 205 = .ok (.iaload, 1) := by decide +kernel
theorem d_L_law_206 : decode b_L_law 206 = .ok (.invokevirtual 38, 3) := by decide +kernel
theorem d_L_law_209 : decode b_L_law 209 = .ok (.if_icmp .eq 356, 3) := by decide +kernel
theorem d_L_law_212 : decode b_L_law 212 = .ok (.iconst 0, 1) := by decide +kernel
theorem d_L_law_213 : decode b_L_law 213 = .ok (.ireturn, 1) := by decide +kernel
theorem d_L_law_214 : decode b_L_law 214 = .ok (.aload_n 1, 1) := by decide +kernel
theorem d_L_law_215 : decode b_L_law 215 = .ok (.aload_n 0, 1) := by decide +kernel
theorem d_L_law_216 : decode b_L_law 216 = .ok (.iload_n 3, 1) := by decide +kernel
theorem d_L_law_217 : decode b_L_law 217 = .ok (.iconst 1, 1) := by decide +kernel
theorem d_L_law_218 : decode b_L_law 218 = .ok (.iadd, 1) := by decide +kernel
theorem d_L_law_219 : decode b_L_law 219 = .ok (.iaload, 1) := by decide +kernel
theorem d_L_law_220 : decode b_L_law 220 = .ok (.aload_n 0, 1) := by decide +kernel
theorem d_L_law_221 : decode b_L_law 221 = .ok (.iload_n 3, 1) := by decide +kernel
theorem d_L_law_222 : decode b_L_law 222 = .ok (.iconst 2, 1) := by decide +kernel
theorem d_L_law_223 : decode b_L_law 223 = .ok (.iadd, 1) := by decide +kernel
theorem d_L_law_224 : decode b_L_law 224 = .ok (.iaload, 1) := by decide +kernel
theorem d_L_law_225 : decode b_L_law 225 = .ok (.invokevirtual 39, 3) := by decide +kernel
theorem d_L_law_228 : decode b_L_law 228 = .ok (.aload_n 2, 1) := by decide +kernel
theorem d_L_law_229 : decode b_L_law 229 = .ok (.aload_n 0, 1) := by decide +kernel
theorem d_L_law_230 : decode b_L_law 230 = .ok (.iload_n 3, 1) := by decide +kernel
theorem d_L_law_231 : decode b_L_law 231 = .ok (.iconst 1, 1) := by decide +kernel
theorem d_L_law_232 : decode b_L_law 232 = .ok (.iadd, 1) := by decide +kernel
theorem d_L_law_233 : decode b_L_law 233 = .ok (.iaload, 1) := by decide +kernel
theorem d_L_law_234 : decode b_L_law 234 = .ok (.aload_n 0, 1) := by decide +kernel
theorem d_L_law_235 : decode b_L_law 235 = .ok (.iload_n 3, 1) := by decide +kernel
theorem d_L_law_236 : decode b_L_law 236 = .ok (.iconst 2, 1) := by decide +kernel
theorem d_L_law_237 : decode b_L_law 237 = .ok (.iadd, 1) := by decide +kernel
theorem d_L_law_238 : decode b_L_law 238 = .ok (.iaload, 1) := by decide +kernel
theorem d_L_law_239 : decode b_L_law 239 = .ok (.invokevirtual 43, 3) := by decide +kernel
theorem d_L_law_242 : decode b_L_law 242 = .ok (.if_icmp .eq 323, 3) := by decide +kernel
theorem d_L_law_245 : decode b_L_law 245 = .ok (.iconst 0, 1) := by decide +kernel
theorem d_L_law_246 : decode b_L_law 246 = .ok (.ireturn, 1) := by decide +kernel
theorem d_L_law_247 : decode b_L_law 247 = .ok (.aload_n 1, 1) := by decide +kernel
theorem d_L_law_248 : decode b_L_law 248 = .ok (.aload_n 0, 1) := by decide +kernel
theorem d_L_law_249 : decode b_L_law 249 = .ok (.iload_n 3, 1) := by decide +kernel
theorem d_L_law_250 : decode b_L_law 250 = .ok (.iconst 1, 1) := by decide +kernel
theorem d_L_law_251 : decode b_L_law 251 = .ok (.iadd, 1) := by decide +kernel
theorem d_L_law_252 : decode b_L_law 252 = .ok (.iaload, 1) := by decide +kernel
theorem d_L_law_253 : decode b_L_law 253 = .ok (.aload_n 0, 1) := by decide +kernel
theorem d_L_law_254 : decode b_L_law 254 = .ok (.iload_n 3, 1) := by decide +kernel
theorem d_L_law_255 : decode b_L_law 255 = .ok (.iconst 2, 1) := by decide +kernel
theorem d_L_law_256 : decode b_L_law 256 = .ok (.iadd, 1) := by decide +kernel
theorem d_L_law_257 : decode b_L_law 257 = .ok (.iaload, 1) := by decide +kernel
theorem d_L_law_258 : decode b_L_law 258 = .ok (.invokevirtual 44, 3) := by decide +kernel
theorem d_L_law_261 : decode b_L_law 261 = .ok (.aload_n 2, 1) := by decide +kernel
theorem d_L_law_262 : decode b_L_law 262 = .ok (.aload_n 0, 1) := by decide +kernel
theorem d_L_law_263 : decode b_L_law 263 = .ok (.iload_n 3, 1) := by decide +kernel
theorem d_L_law_264 : decode b_L_law 264 = .ok (.iconst 1, 1) := by decide +kernel
theorem d_L_law_265 : decode b_L_law 265 = .ok (.iadd, 1) := by decide +kernel
theorem d_L_law_266 : decode b_L_law 266 = .ok (.iaload, 1) := by decide +kernel
theorem d_L_law_267 : decode b_L_law 267 = .ok (.aload_n 0, 1) := by decide +kernel
theorem d_L_law_268 : decode b_L_law 268 = .ok (.iload_n 3, 1) := by decide +kernel
theorem d_L_law_269 : decode b_L_law 269 = .ok (.iconst 2, 1) := by decide +kernel
theorem d_L_law_270 : decode b_L_law 270 = .ok (.iadd, 1) := by decide +kernel
theorem d_L_law_271 : decode b_L_law 271 = .ok (.iaload, 1) := by decide +kernel
theorem d_L_law_272 : decode b_L_law 272 = .ok (.invokevirtual 47, 3) := by decide +kernel
theorem d_L_law_275 : decode b_L_law 275 = .ok (.if_icmp .eq 290, 3) := by decide +kernel
theorem d_L_law_278 : decode b_L_law 278 = .ok (.iconst 0, 1) := by decide +kernel
theorem d_L_law_279 : decode b_L_law 279 = .ok (.ireturn, 1) := by decide +kernel
theorem d_L_law_280 : decode b_L_law 280 = .ok (.aload_n 1, 1) := by decide +kernel
theorem d_L_law_281 : decode b_L_law 281 = .ok (.aload_n 0, 1) := by decide +kernel
theorem d_L_law_282 : decode b_L_law 282 = .ok (.iload_n 3, 1) := by decide +kernel
theorem d_L_law_283 : decode b_L_law 283 = .ok (.iconst 1, 1) := by decide +kernel
theorem d_L_law_284 : decode b_L_law 284 = .ok (.iadd, 1) := by decide +kernel
theorem d_L_law_285 : decode b_L_law 285 = .ok (.iaload, 1) := by decide +kernel
theorem d_L_law_286 : decode b_L_law 286 = .ok (.aload_n 0, 1) := by decide +kernel
theorem d_L_law_287 : decode b_L_law 287 = .ok (.iload_n 3, 1) := by decide +kernel
theorem d_L_law_288 : decode b_L_law 288 = .ok (.iconst 2, 1) := by decide +kernel
theorem d_L_law_289 : decode b_L_law 289 = .ok (.iadd, 1) := by decide +kernel
theorem d_L_law_290 : decode b_L_law 290 = .ok (.iaload, 1) := by decide +kernel
theorem d_L_law_291 : decode b_L_law 291 = .ok (.aload_n 0, 1) := by decide +kernel
theorem d_L_law_292 : decode b_L_law 292 = .ok (.iload_n 3, 1) := by decide +kernel
theorem d_L_law_293 : decode b_L_law 293 = .ok (.iconst 3, 1) := by decide +kernel
theorem d_L_law_294 : decode b_L_law 294 = .ok (.iadd, 1) := by decide +kernel
theorem d_L_law_295 : decode b_L_law 295 = .ok (.iaload, 1) := by decide +kernel
theorem d_L_law_296 : decode b_L_law 296 = .ok (.invokevirtual 48, 3) := by decide +kernel
theorem d_L_law_299 : decode b_L_law 299 = .ok (.aload_n 2, 1) := by decide +kernel
theorem d_L_law_300 : decode b_L_law 300 = .ok (.aload_n 0, 1) := by decide +kernel
theorem d_L_law_301 : decode b_L_law 301 = .ok (.iload_n 3, 1) := by decide +kernel
theorem d_L_law_302 : decode b_L_law 302 = .ok (.iconst 1, 1) := by decide +kernel
theorem d_L_law_303 : decode b_L_law 303 = .ok (.iadd, 1) := by decide +kernel
theorem d_L_law_304 : decode b_L_law 304 = .ok (.iaload, 1) := by decide +kernel
theorem d_L_law_305 : decode b_L_law 305 = .ok (.aload_n 0, 1) := by decide +kernel
theorem d_L_law_306 : decode b_L_law 306 = .ok (.iload_n 3, 1) := by decide +kernel
theorem d_L_law_307 : decode b_L_law 307 = .ok (.iconst 2, 1) := by decide +kernel
theorem d_L_law_308 : decode b_L_law 308 = .ok (.iadd, 1) := by decide +kernel
theorem d_L_law_309 : decode b_L_law 309 = .ok (.iaload, 1) := by decide +kernel
theorem d_L_law_310 : decode b_L_law 310 = .ok (.aload_n 0, 1) := by decide +kernel
theorem d_L_law_311 : decode b_L_law 311 = .ok (.iload_n 3, 1) := by decide +kernel
theorem d_L_law_312 : decode b_L_law 312 = .ok (.iconst 3, 1) := by decide +kernel
theorem d_L_law_313 : decode b_L_law 313 = .ok (.iadd, 1) := by decide +kernel
theorem d_L_law_314 : decode b_L_law 314 = .ok (.iaload, 1) := by decide +kernel
theorem d_L_law_315 : decode b_L_law 315 = .ok (.invokevirtual 52, 3) := by decide +kernel
theorem d_L_law_318 : decode b_L_law 318 = .ok (.if_icmp .eq 247, 3) := by decide +kernel
theorem d_L_law_321 : decode b_L_law 321 = .ok (.iconst 0, 1) := by decide +kernel
theorem d_L_law_322 : decode b_L_law 322 = .ok (.ireturn, 1) := by decide +kernel
theorem d_L_law_323 : decode b_L_law 323 = .ok (.aload_n 1, 1) := by decide +kernel
theorem d_L_law_324 : decode b_L_law 324 = .ok (.aload_n 0, 1) := by decide +kernel
theorem d_L_law_325 : decode b_L_law 325 = .ok (.iload_n 3, 1) := by decide +kernel
theorem d_L_law_326 : decode b_L_law 326 = .ok (.iconst 1, 1) := by decide +kernel
theorem d_L_law_327 : decode b_L_law 327 = .ok (.iadd, 1) := by decide +kernel
theorem d_L_law_328 : decode b_L_law 328 = .ok (.iaload, 1) := by decide +kernel
theorem d_L_law_329 : decode b_L_law 329 = .ok (.aload_n 0, 1) := by decide +kernel
theorem d_L_law_330 : decode b_L_law 330 = .ok (.iload_n 3, 1) := by decide +kernel
theorem d_L_law_331 : decode b_L_law 331 = .ok (.iconst 2, 1) := by decide +kernel
theorem d_L_law_332 : decode b_L_law 332 = .ok (.iadd, 1) := by decide +kernel
theorem d_L_law_333 : decode b_L_law 333 = .ok (.iaload, 1) := by decide +kernel
theorem d_L_law_334 : decode b_L_law 334 = .ok (.aload_n 0, 1) := by decide +kernel
theorem d_L_law_335 : decode b_L_law 335 = .ok (.iload_n 3, 1) := by decide +kernel
theorem d_L_law_336 : decode b_L_law 336 = .ok (.iconst 3, 1) := by decide +kernel
theorem d_L_law_337 : decode b_L_law 337 = .ok (.iadd, 1) := by decide +kernel
theorem d_L_law_338 : decode b_L_law 338 = .ok (.iaload, 1) := by decide +kernel
theorem d_L_law_339 : decode b_L_law 339 = .ok (.aload_n 0, 1) := by decide +kernel
theorem d_L_law_340 : decode b_L_law 340 = .ok (.iload_n 3, 1) := by decide +kernel
theorem d_L_law_341 : decode b_L_law 341 = .ok (.iconst 4, 1) := by decide +kernel
theorem d_L_law_342 : decode b_L_law 342 = .ok (.iadd, 1) := by decide +kernel
theorem d_L_law_343 : decode b_L_law 343 = .ok (.iaload, 1) := by decide +kernel
theorem d_L_law_344 : decode b_L_law 344 = .ok (.invokevirtual 53, 3) := by decide +kernel
theorem d_L_law_347 : decode b_L_law 347 = .ok (.aload_n 2, 1) := by decide +kernel
theorem d_L_law_348 : decode b_L_law 348 = .ok (.aload_n 0, 1) := by decide +kernel
theorem d_L_law_349 : decode b_L_law 349 = .ok (.iload_n 3, 1) := by decide +kernel
theorem d_L_law_350 : decode b_L_law 350 = .ok (.iconst 1, 1) := by decide +kernel
theorem d_L_law_351 : decode b_L_law 351 = .ok (.iadd, 1) := by decide +kernel
theorem d_L_law_352 : decode b_L_law 352 = .ok (.iaload, 1) := by decide +kernel
theorem d_L_law_353 : decode b_L_law 353 = .ok (.aload_n 0, 1) := by decide +kernel
theorem d_L_law_354 : decode b_L_law 354 = .ok (.iload_n 3, 1) := by decide +kernel
theorem d_L_law_355 : decode b_L_law 355 = .ok (.iconst 2, 1) := by decide +kernel
theorem d_L_law_356 : decode b_L_law 356 = .ok (.iadd, 1) := by decide +kernel
theorem d_L_law_357 : decode b_L_law 357 = .ok (.iaload, 1) := by decide +kernel
theorem d_L_law_358 : decode b_L_law 358 = .ok (.aload_n 0, 1) := by decide +kernel
theorem d_L_law_359 : decode b_L_law 359 = .ok (.iload_n 3, 1) := by decide +kernel
theorem d_L_law_360 : decode b_L_law 360 = .ok (.iconst 3, 1) := by decide +kernel
theorem d_L_law_361 : decode b_L_law 361 = .ok (.iadd, 1) := by decide +kernel
theorem d_L_law_362 : decode b_L_law 362 = .ok (.iaload, 1) := by decide +kernel
theorem d_L_law_363 : decode b_L_law 363 = .ok (.aload_n 0, 1) := by decide +kernel
theorem d_L_law_364 : decode b_L_law 364 = .ok (.iload_n 3, 1) := by decide +kernel
theorem d_L_law_365 : decode b_L_law 365 = .ok (.iconst 4, 1) := by decide +kernel
theorem d_L_law_366 : decode b_L_law 366 = .ok (.iadd, 1) := by decide +kernel
theorem d_L_law_367 : decode b_L_law 367 = .ok (.iaload, 1) := by decide +kernel
theorem d_L_law_368 : decode b_L_law 368 = .ok (.invokevirtual 57, 3) := by decide +kernel
theorem d_L_law_371 : decode b_L_law 371 = .ok (.if_icmp .eq 194, 3) := by decide +kernel
theorem d_L_law_374 : decode b_L_law 374 = .ok (.iconst 0, 1) := by decide +kernel
theorem d_L_law_375 : decode b_L_law 375 = .ok (.ireturn, 1) := by decide +kernel
theorem d_L_law_376 : decode b_L_law 376 = .ok (.aload_n 1, 1) := by decide +kernel
theorem d_L_law_377 : decode b_L_law 377 = .ok (.aload_n 0, 1) := by decide +kernel
theorem d_L_law_378 : decode b_L_law 378 = .ok (.iload_n 3, 1) := by decide +kernel
theorem d_L_law_379 : decode b_L_law 379 = .ok (.iconst 1, 1) := by decide +kernel
theorem d_L_law_380 : decode b_L_law 380 = .ok (.iadd, 1) := by decide +kernel
theorem d_L_law_381 : decode b_L_law 381 = .ok (.iaload, 1) := by decide +kernel
theorem d_L_law_382 : decode b_L_law 382 = .ok (.aload_n 0, 1) := by decide +kernel
theorem d_L_law_383 : decode b_L_law 383 = .ok (.iload_n 3, 1) := by decide +kernel
theorem d_L_law_384 : decode b_L_law 384 = .ok (.iconst 2, 1) := by decide +kernel
theorem d_L_law_385 : decode b_L_law 385 = .ok (.iadd, 1) := by decide +kernel
theorem d_L_law_386 : decode b_L_law 386 = .ok (.iaload, 1) := by decide +kernel
theorem d_L_law_387 : decode b_L_law 387 = .ok (.invokevirtual 58, 3) := by decide +kernel
theorem d_L_law_390 : decode b_L_law 390 = .ok (.aload_n 2, 1) := by decide +kernel
theorem d_L_law_391 : decode b_L_law 391 = .ok (.aload_n 0, 1) := by decide +kernel
theorem d_L_law_392 : decode b_L_law 392 = .ok (.iload_n 3, 1) := by decide +kernel
theorem d_L_law_393 : decode b_L_law 393 = .ok (.iconst 1, 1) := by decide +kernel
theorem d_L_law_394 : decode b_L_law 394 = .ok (.iadd, 1) := by decide +kernel
theorem d_L_law_395 : decode b_L_law 395 = .ok (.iaload, 1) := by decide +kernel
theorem d_L_law_396 : decode b_L_law 396 = .ok (.aload_n 0, 1) := by decide +kernel
theorem d_L_law_397 : decode b_L_law 397 = .ok (.iload_n 3, 1) := by decide +kernel
theorem d_L_law_398 : decode b_L_law 398 = .ok (.iconst 2, 1) := by decide +kernel
theorem d_L_law_399 : decode b_L_law 399 = .ok (.iadd, 1) := by decide +kernel
theorem d_L_law_400 : decode b_L_law 400 = .ok (.iaload, 1) := by decide +kernel
theorem d_L_law_401 : decode b_L_law 401 = .ok (.invokevirtual 61, 3) := by decide +kernel
theorem d_L_law_404 : decode b_L_law 404 = .ok (.if_icmp .eq 161, 3) := by decide +kernel
theorem d_L_law_407 : decode b_L_law 407 = .ok (.iconst 0, 1) := by decide +kernel
theorem d_L_law_408 : decode b_L_law 408 = .ok (.ireturn, 1) := by decide +kernel
theorem d_L_law_409 : decode b_L_law 409 = .ok (.aload_n 1, 1) := by decide +kernel
theorem d_L_law_410 : decode b_L_law 410 = .ok (.aload_n 0, 1) := by decide +kernel
theorem d_L_law_411 : decode b_L_law 411 = .ok (.iload_n 3, 1) := by decide +kernel
theorem d_L_law_412 : decode b_L_law 412 = .ok (.iconst 1, 1) := by decide +kernel
theorem d_L_law_413 : decode b_L_law 413 = .ok (.iadd, 1) := by decide +kernel
theorem d_L_law_414 : decode b_L_law 414 = .ok (.iaload, 1) := by decide +kernel
theorem d_L_law_415 : decode b_L_law 415 = .ok (.aload_n 0, 1) := by decide +kernel
theorem d_L_law_416 : decode b_L_law 416 = .ok (.iload_n 3, 1) := by decide +kernel
theorem d_L_law_417 : decode b_L_law 417 = .ok (.iconst 2, 1) := by decide +kernel
theorem d_L_law_418 : decode b_L_law 418 = .ok (.iadd, 1) := by decide +kernel
theorem d_L_law_419 : decode b_L_law 419 = .ok (.iaload, 1) := by decide +kernel
theorem d_L_law_420 : decode b_L_law 420 = .ok (.invokevirtual 62, 3) := by decide +kernel
theorem d_L_law_423 : decode b_L_law 423 = .ok (.aload_n 2, 1) := by decide +kernel
theorem d_L_law_424 : decode b_L_law 424 = .ok (.aload_n 0, 1) := by decide +kernel
theorem d_L_law_425 : decode b_L_law 425 = .ok (.iload_n 3, 1) := by decide +kernel
theorem d_L_law_426 : decode b_L_law 426 = .ok (.iconst 1, 1) := by decide +kernel
theorem d_L_law_427 : decode b_L_law 427 = .ok (.iadd, 1) := by decide +kernel
theorem d_L_law_428 : decode b_L_law 428 = .ok (.iaload, 1) := by decide +kernel
theorem d_L_law_429 : decode b_L_law 429 = .ok (.aload_n 0, 1) := by decide +kernel
theorem d_L_law_430 : decode b_L_law 430 = .ok (.iload_n 3, 1) := by decide +kernel
theorem d_L_law_431 : decode b_L_law 431 = .ok (.iconst 2, 1) := by decide +kernel
theorem d_L_law_432 : decode b_L_law 432 = .ok (.iadd, 1) := by decide +kernel
theorem d_L_law_433 : decode b_L_law 433 = .ok (.iaload, 1) := by decide +kernel
theorem d_L_law_434 : decode b_L_law 434 = .ok (.invokevirtual 65, 3) := by decide +kernel
theorem d_L_law_437 : decode b_L_law 437 = .ok (.if_icmp .eq 128, 3) := by decide +kernel
theorem d_L_law_440 : decode b_L_law 440 = .ok (.iconst 0, 1) := by decide +kernel
theorem d_L_law_441 : decode b_L_law 441 = .ok (.ireturn, 1) := by decide +kernel
theorem d_L_law_442 : decode b_L_law 442 = .ok (.aload_n 1, 1) := by decide +kernel
theorem d_L_law_443 : decode b_L_law 443 = .ok (.aload_n 0, 1) := by decide +kernel
theorem d_L_law_444 : decode b_L_law 444 = .ok (.iload_n 3, 1) := by decide +kernel
theorem d_L_law_445 : decode b_L_law 445 = .ok (.iconst 1, 1) := by decide +kernel
theorem d_L_law_446 : decode b_L_law 446 = .ok (.iadd, 1) := by decide +kernel
theorem d_L_law_447 : decode b_L_law 447 = .ok (.iaload, 1) := by decide +kernel
theorem d_L_law_448 : decode b_L_law 448 = .ok (.aload_n 0, 1) := by decide +kernel
theorem d_L_law_449 : decode b_L_law 449 = .ok (.iload_n 3, 1) := by decide +kernel
theorem d_L_law_450 : decode b_L_law 450 = .ok (.iconst 2, 1) := by decide +kernel
theorem d_L_law_451 : decode b_L_law 451 = .ok (.iadd, 1) := by decide +kernel
theorem d_L_law_452 : decode b_L_law 452 = .ok (.iaload, 1) := by decide +kernel
theorem d_L_law_453 : decode b_L_law 453 = .ok (.aload_n 0, 1) := by decide +kernel
theorem d_L_law_454 : decode b_L_law 454 = .ok (.iload_n 3, 1) := by decide +kernel
theorem d_L_law_455 : decode b_L_law 455 = .ok (.iconst 3, 1) := by decide +kernel
theorem d_L_law_456 : decode b_L_law 456 = .ok (.iadd, 1) := by decide +kernel
theorem d_L_law_457 : decode b_L_law 457 = .ok (.iaload, 1) := by decide +kernel
theorem d_L_law_458 : decode b_L_law 458 = .ok (.aload_n 0, 1) := by decide +kernel
theorem d_L_law_459 : decode b_L_law 459 = .ok (.iload_n 3, 1) := by decide +kernel
theorem d_L_law_460 : decode b_L_law 460 = .ok (.iconst 4, 1) := by decide +kernel
theorem d_L_law_461 : decode b_L_law 461 = .ok (.iadd, 1) := by decide +kernel
theorem d_L_law_462 : decode b_L_law 462 = .ok (.iaload, 1) := by decide +kernel
theorem d_L_law_463 : decode b_L_law 463 = .ok (.invokevirtual 66, 3) := by decide +kernel
theorem d_L_law_466 : decode b_L_law 466 = .ok (.aload_n 2, 1) := by decide +kernel
theorem d_L_law_467 : decode b_L_law 467 = .ok (.aload_n 0, 1) := by decide +kernel
theorem d_L_law_468 : decode b_L_law 468 = .ok (.iload_n 3, 1) := by decide +kernel
theorem d_L_law_469 : decode b_L_law 469 = .ok (.iconst 1, 1) := by decide +kernel
theorem d_L_law_470 : decode b_L_law 470 = .ok (.iadd, 1) := by decide +kernel
theorem d_L_law_471 : decode b_L_law 471 = .ok (.iaload, 1) := by decide +kernel
theorem d_L_law_472 : decode b_L_law 472 = .ok (.aload_n 0, 1) := by decide +kernel
theorem d_L_law_473 : decode b_L_law 473 = .ok (.iload_n 3, 1) := by decide +kernel
theorem d_L_law_474 : decode b_L_law 474 = .ok (.iconst 2, 1) := by decide +kernel
theorem d_L_law_475 : decode b_L_law 475 = .ok (.iadd, 1) := by decide +kernel
theorem d_L_law_476 : decode b_L_law 476 = .ok (.iaload, 1) := by decide +kernel
theorem d_L_law_477 : decode b_L_law 477 = .ok (.aload_n 0, 1) := by decide +kernel
theorem d_L_law_478 : decode b_L_law 478 = .ok (.iload_n 3, 1) := by decide +kernel
theorem d_L_law_479 : decode b_L_law 479 = .ok (.iconst 3, 1) := by decide +kernel
theorem d_L_law_480 : decode b_L_law 480 = .ok (.iadd, 1) := by decide +kernel
theorem d_L_law_481 : decode b_L_law 481 = .ok (.iaload, 1) := by decide +kernel
theorem d_L_law_482 : decode b_L_law 482 = .ok (.aload_n 0, 1) := by decide +kernel
theorem d_L_law_483 : decode b_L_law 483 = .ok (.iload_n 3, 1) := by decide +kernel
theorem d_L_law_484 : decode b_L_law 484 = .ok (.iconst 4, 1) := by decide +kernel
theorem d_L_law_485 : decode b_L_law 485 = .ok (.iadd, 1) := by decide +kernel
theorem d_L_law_486 : decode b_L_law 486 = .ok (.iaload, 1) := by decide +kernel
theorem d_L_law_487 : decode b_L_law 487 = .ok (.invokevirtual 69, 3) := by decide +kernel
theorem d_L_law_490 : decode b_L_law 490 = .ok (.if_icmp .eq 75, 3) := by decide +kernel
theorem d_L_law_493 : decode b_L_law 493 = .ok (.iconst 0, 1) := by decide +kernel
theorem d_L_law_494 : decode b_L_law 494 = .ok (.ireturn, 1) := by decide +kernel
theorem d_L_law_495 : decode b_L_law 495 = .ok (.aload_n 1, 1) := by decide +kernel
theorem d_L_law_496 : decode b_L_law 496 = .ok (.aload_n 0, 1) := by decide +kernel
theorem d_L_law_497 : decode b_L_law 497 = .ok (.iload_n 3, 1) := by decide +kernel
theorem d_L_law_498 : decode b_L_law 498 = .ok (.iconst 1, 1) := by decide +kernel
theorem d_L_law_499 : decode b_L_law 499 = .ok (.iadd, 1) := by decide +kernel
theorem d_L_law_500 : decode b_L_law 500 = .ok (.iaload, 1) := by decide +kernel
theorem d_L_law_501 : decode b_L_law 501 = .ok (.aload_n 0, 1) := by decide +kernel
theorem d_L_law_502 : decode b_L_law 502 = .ok (.iload_n 3, 1) := by decide +kernel
theorem d_L_law_503 : decode b_L_law 503 = .ok (.iconst 2, 1) := by decide +kernel
theorem d_L_law_504 : decode b_L_law 504 = .ok (.iadd, 1) := by decide +kernel
theorem d_L_law_505 : decode b_L_law 505 = .ok (.iaload, 1) := by decide +kernel
theorem d_L_law_506 : decode b_L_law 506 = .ok (.aload_n 0, 1) := by decide +kernel
theorem d_L_law_507 : decode b_L_law 507 = .ok (.iload_n 3, 1) := by decide +kernel
theorem d_L_law_508 : decode b_L_law 508 = .ok (.iconst 3, 1) := by decide +kernel
theorem d_L_law_509 : decode b_L_law 509 = .ok (.iadd, 1) := by decide +kernel
theorem d_L_law_510 : decode b_L_law 510 = .ok (.iaload, 1) := by decide +kernel
theorem d_L_law_511 : decode b_L_law 511 = .ok (.invokevirtual 70, 3) := by decide +kernel
theorem d_L_law_514 : decode b_L_law 514 = .ok (.aload_n 2, 1) := by decide +kernel
theorem d_L_law_515 : decode b_L_law 515 = .ok (.aload_n 0, 1) := by decide +kernel
theorem d_L_law_516 : decode b_L_law 516 = .ok (.iload_n 3, 1) := by decide +kernel
theorem d_L_law_517 : decode b_L_law 517 = .ok (.iconst 1, 1) := by decide +kernel
theorem d_L_law_518 : decode b_L_law 518 = .ok (.iadd, 1) := by decide +kernel
theorem d_L_law_519 : decode b_L_law 519 = .ok (.iaload, 1) := by decide +kernel
theorem d_L_law_520 : decode b_L_law 520 = .ok (.aload_n 0, 1) := by decide +kernel
theorem d_L_law_521 : decode b_L_law 521 = .ok (.iload_n 3, 1) := by decide +kernel
theorem d_L_law_522 : decode b_L_law 522 = .ok (.iconst 2, 1) := by decide +kernel
theorem d_L_law_523 : decode b_L_law 523 = .ok (.iadd, 1) := by decide +kernel
theorem d_L_law_524 : decode b_L_law 524 = .ok (.iaload, 1) := by decide +kernel
theorem d_L_law_525 : decode b_L_law 525 = .ok (.aload_n 0, 1) := by decide +kernel
theorem d_L_law_526 : decode b_L_law 526 = .ok (.iload_n 3, 1) := by decide +kernel
theorem d_L_law_527 : decode b_L_law 527 = .ok (.iconst 3, 1) := by decide +kernel
theorem d_L_law_528 : decode b_L_law 528 = .ok (.iadd, 1) := by decide +kernel
theorem d_L_law_529 : decode b_L_law 529 = .ok (.iaload, 1) := by decide +kernel
theorem d_L_law_530 : decode b_L_law 530 = .ok (.invokevirtual 73, 3) := by decide +kernel
theorem d_L_law_533 : decode b_L_law 533 = .ok (.if_icmp .eq 32, 3) := by decide +kernel
theorem d_L_law_536 : decode b_L_law 536 = .ok (.iconst 0, 1) := by decide +kernel
theorem d_L_law_537 : decode b_L_law 537 = .ok (.ireturn, 1) := by decide +kernel
theorem d_L_law_538 : decode b_L_law 538 = .ok (.aload_n 1, 1) := by decide +kernel
theorem d_L_law_539 : decode b_L_law 539 = .ok (.invokevirtual 74, 3) := by decide +kernel
theorem d_L_law_542 : decode b_L_law 542 = .ok (.aload_n 2, 1) := by decide +kernel
theorem d_L_law_543 : decode b_L_law 543 = .ok (.invokevirtual 78, 3) := by decide +kernel
theorem d_L_law_546 : decode b_L_law 546 = .ok (.lcmp, 1) := by decide +kernel
theorem d_L_law_547 : decode b_L_law 547 = .ok (.ifCond .eq 18, 3) := by decide +kernel
theorem d_L_law_550 : decode b_L_law 550 = .ok (.iconst 0, 1) := by decide +kernel
theorem d_L_law_551 : decode b_L_law 551 = .ok (.ireturn, 1) := by decide +kernel
theorem d_L_law_552 : decode b_L_law 552 = .ok (.aload_n 1, 1) := by decide +kernel
theorem d_L_law_553 : decode b_L_law 553 = .ok (.invokevirtual 79, 3) := by decide +kernel
theorem d_L_law_556 : decode b_L_law 556 = .ok (.aload_n 2, 1) := by decide +kernel
theorem d_L_law_557 : decode b_L_law 557 = .ok (.invokevirtual 83, 3) := by decide +kernel
theorem d_L_law_560 : decode b_L_law 560 = .ok (.if_icmp .eq 5, 3) := by decide +kernel
theorem d_L_law_563 : decode b_L_law 563 = .ok (.iconst 0, 1) := by decide +kernel
theorem d_L_law_564 : decode b_L_law 564 = .ok (.ireturn, 1) := by decide +kernel
theorem d_L_law_565 : decode b_L_law 565 = .ok (.iinc 3 5, 3) := by decide +kernel
theorem d_L_law_568 : decode b_L_law 568 = .ok (.goto (-540), 3) := by decide +kernel
theorem d_L_law_571 : decode b_L_law 571 = .ok (.iconst 1, 1) := by decide +kernel
theorem d_L_law_572 : decode b_L_law 572 = .ok (.ireturn, 1) := by decide +kernel
