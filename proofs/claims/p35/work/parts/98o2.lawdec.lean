theorem dL_asks_195 : decode cL_asks 195 = .ok (.lload_n 1, 1) := by decide +kernel
theorem dL_asks_196 : decode cL_asks 196 = .ok (.lmul, 1) := by decide +kernel
theorem dL_asks_197 : decode cL_asks 197 = .ok (.aload_n 0, 1) := by decide +kernel
theorem dL_asks_198 : decode cL_asks 198 = .ok (.iload 4, 2) := by decide +kernel
theorem dL_asks_200 : decode cL_asks 200 = .ok (.invokevirtual 102, 3) := by decide +kernel
theorem dL_asks_203 : decode cL_asks 203 = .ok (.i2l, 1) := by decide +kernel
theorem dL_asks_204 : decode cL_asks 204 = .ok (.ladd, 1) := by decide +kernel
theorem dL_asks_205 : decode cL_asks 205 = .ok (.lmul, 1) := by decide +kernel
theorem dL_asks_206 : decode cL_asks 206 = .ok (.aload_n 0, 1) := by decide +kernel
theorem dL_asks_207 : decode cL_asks 207 = .ok (.iload 4, 2) := by decide +kernel
theorem dL_asks_209 : decode cL_asks 209 = .ok (.invokevirtual 105, 3) := by decide +kernel
theorem dL_asks_212 : decode cL_asks 212 = .ok (.i2l, 1) := by decide +kernel
theorem dL_asks_213 : decode cL_asks 213 = .ok (.ladd, 1) := by decide +kernel
theorem dL_asks_214 : decode cL_asks 214 = .ok (.lstore_n 1, 1) := by decide +kernel
theorem dL_asks_215 : decode cL_asks 215 = .ok (.aload_n 0, 1) := by decide +kernel
theorem dL_asks_216 : decode cL_asks 216 = .ok (.iload 4, 2) := by decide +kernel
theorem dL_asks_218 : decode cL_asks 218 = .ok (.invokevirtual 108, 3) := by decide +kernel
theorem dL_asks_221 : decode cL_asks 221 = .ok (.istore 5, 2) := by decide +kernel
theorem dL_asks_223 : decode cL_asks 223 = .ok (.iconst 0, 1) := by decide +kernel
theorem dL_asks_224 : decode cL_asks 224 = .ok (.istore 6, 2) := by decide +kernel
theorem dL_asks_226 : decode cL_asks 226 = .ok (.iload 6, 2) := by decide +kernel
theorem dL_asks_228 : decode cL_asks 228 = .ok (.iload 5, 2) := by decide +kernel
theorem dL_asks_230 : decode cL_asks 230 = .ok (.if_icmp .ge 23, 3) := by decide +kernel
theorem dL_asks_233 : decode cL_asks 233 = .ok (.ldc2_w 56, 3) := by decide +kernel
theorem dL_asks_236 : decode cL_asks 236 = .ok (.lload_n 1, 1) := by decide +kernel
theorem dL_asks_237 : decode cL_asks 237 = .ok (.lmul, 1) := by decide +kernel
theorem dL_asks_238 : decode cL_asks 238 = .ok (.aload_n 0, 1) := by decide +kernel
theorem dL_asks_239 : decode cL_asks 239 = .ok (.iload 6, 2) := by decide +kernel
theorem dL_asks_241 : decode cL_asks 241 = .ok (.invokevirtual 30, 3) := by decide +kernel
theorem dL_asks_244 : decode cL_asks 244 = .ok (.i2l, 1) := by decide +kernel
theorem dL_asks_245 : decode cL_asks 245 = .ok (.ladd, 1) := by decide +kernel
theorem dL_asks_246 : decode cL_asks 246 = .ok (.lstore_n 1, 1) := by decide +kernel
theorem dL_asks_247 : decode cL_asks 247 = .ok (.iinc 6 1, 3) := by decide +kernel
theorem dL_asks_250 : decode cL_asks 250 = .ok (.goto (-24), 3) := by decide +kernel
theorem dL_asks_253 : decode cL_asks 253 = .ok (.iinc 4 1, 3) := by decide +kernel
theorem dL_asks_256 : decode cL_asks 256 = .ok (.goto (-199), 3) := by decide +kernel
theorem dL_asks_259 : decode cL_asks 259 = .ok (.aload_n 0, 1) := by decide +kernel
theorem dL_asks_260 : decode cL_asks 260 = .ok (.invokevirtual 111, 3) := by decide +kernel
theorem dL_asks_263 : decode cL_asks 263 = .ok (.istore 4, 2) := by decide +kernel
theorem dL_asks_265 : decode cL_asks 265 = .ok (.iconst 0, 1) := by decide +kernel
theorem dL_asks_266 : decode cL_asks 266 = .ok (.istore 5, 2) := by decide +kernel
theorem dL_asks_268 : decode cL_asks 268 = .ok (.iload 5, 2) := by decide +kernel
theorem dL_asks_270 : decode cL_asks 270 = .ok (.iload 4, 2) := by decide +kernel
theorem dL_asks_272 : decode cL_asks 272 = .ok (.if_icmp .ge 23, 3) := by decide +kernel
theorem dL_asks_275 : decode cL_asks 275 = .ok (.ldc2_w 56, 3) := by decide +kernel
theorem dL_asks_278 : decode cL_asks 278 = .ok (.lload_n 1, 1) := by decide +kernel
theorem dL_asks_279 : decode cL_asks 279 = .ok (.lmul, 1) := by decide +kernel
theorem dL_asks_280 : decode cL_asks 280 = .ok (.aload_n 0, 1) := by decide +kernel
theorem dL_asks_281 : decode cL_asks 281 = .ok (.iload 5, 2) := by decide +kernel
theorem dL_asks_283 : decode cL_asks 283 = .ok (.invokevirtual 30, 3) := by decide +kernel
theorem dL_asks_286 : decode cL_asks 286 = .ok (.i2l, 1) := by decide +kernel
theorem dL_asks_287 : decode cL_asks 287 = .ok (.ladd, 1) := by decide +kernel
theorem dL_asks_288 : decode cL_asks 288 = .ok (.lstore_n 1, 1) := by decide +kernel
theorem dL_asks_289 : decode cL_asks 289 = .ok (.iinc 5 1, 3) := by decide +kernel
theorem dL_asks_292 : decode cL_asks 292 = .ok (.goto (-24), 3) := by decide +kernel
theorem dL_asks_295 : decode cL_asks 295 = .ok (.ldc2_w 56, 3) := by decide +kernel
theorem dL_asks_298 : decode cL_asks 298 = .ok (.ldc2_w 56, 3) := by decide +kernel
theorem dL_asks_301 : decode cL_asks 301 = .ok (.ldc2_w 56, 3) := by decide +kernel
theorem dL_asks_304 : decode cL_asks 304 = .ok (.ldc2_w 56, 3) := by decide +kernel
theorem dL_asks_307 : decode cL_asks 307 = .ok (.ldc2_w 56, 3) := by decide +kernel
theorem dL_asks_310 : decode cL_asks 310 = .ok (.lload_n 1, 1) := by decide +kernel
theorem dL_asks_311 : decode cL_asks 311 = .ok (.lmul, 1) := by decide +kernel
theorem dL_asks_312 : decode cL_asks 312 = .ok (.aload_n 0, 1) := by decide +kernel
theorem dL_asks_313 : decode cL_asks 313 = .ok (.invokevirtual 114, 3) := by decide +kernel
theorem dL_asks_316 : decode cL_asks 316 = .ok (.i2l, 1) := by decide +kernel
theorem dL_asks_317 : decode cL_asks 317 = .ok (.ladd, 1) := by decide +kernel
theorem dL_asks_318 : decode cL_asks 318 = .ok (.lmul, 1) := by decide +kernel
theorem dL_asks_319 : decode cL_asks 319 = .ok (.aload_n 0, 1) := by decide +kernel
theorem dL_asks_320 : decode cL_asks 320 = .ok (.invokevirtual 117, 3) := by decide +kernel
theorem dL_asks_323 : decode cL_asks 323 = .ok (.i2l, 1) := by decide +kernel
theorem dL_asks_324 : decode cL_asks 324 = .ok (.ladd, 1) := by decide +kernel
theorem dL_asks_325 : decode cL_asks 325 = .ok (.lmul, 1) := by decide +kernel
theorem dL_asks_326 : decode cL_asks 326 = .ok (.aload_n 0, 1) := by decide +kernel
theorem dL_asks_327 : decode cL_asks 327 = .ok (.invokevirtual 120, 3) := by decide +kernel
theorem dL_asks_330 : decode cL_asks 330 = .ok (.i2l, 1) := by decide +kernel
theorem dL_asks_331 : decode cL_asks 331 = .ok (.ladd, 1) := by decide +kernel
theorem dL_asks_332 : decode cL_asks 332 = .ok (.lmul, 1) := by decide +kernel
theorem dL_asks_333 : decode cL_asks 333 = .ok (.aload_n 0, 1) := by decide +kernel
theorem dL_asks_334 : decode cL_asks 334 = .ok (.invokevirtual 123, 3) := by decide +kernel
theorem dL_asks_337 : decode cL_asks 337 = .ok (.i2l, 1) := by decide +kernel
theorem dL_asks_338 : decode cL_asks 338 = .ok (.ladd, 1) := by decide +kernel
theorem dL_asks_339 : decode cL_asks 339 = .ok (.lmul, 1) := by decide +kernel
theorem dL_asks_340 : decode cL_asks 340 = .ok (.aload_n 0, 1) := by decide +kernel
theorem dL_asks_341 : decode cL_asks 341 = .ok (.invokevirtual 126, 3) := by decide +kernel
theorem dL_asks_344 : decode cL_asks 344 = .ok (.i2l, 1) := by decide +kernel
theorem dL_asks_345 : decode cL_asks 345 = .ok (.ladd, 1) := by decide +kernel
theorem dL_asks_346 : decode cL_asks 346 = .ok (.lreturn, 1) := by decide +kernel
theorem dL_changes_0 : decode cL_changes 0 = .ok (.iload_n 1, 1) := by decide +kernel
theorem dL_changes_1 : decode cL_changes 1 = .ok (.iconst 4, 1) := by decide +kernel
theorem dL_changes_2 : decode cL_changes 2 = .ok (.ishr, 1) := by decide +kernel
theorem dL_changes_3 : decode cL_changes 3 = .ok (.aload_n 0, 1) := by decide +kernel
theorem dL_changes_4 : decode cL_changes 4 = .ok (.iconst 1, 1) := by decide +kernel
theorem dL_changes_5 : decode cL_changes 5 = .ok (.invokevirtual 78, 3) := by decide +kernel
theorem dL_changes_8 : decode cL_changes 8 = .ok (.iconst 1, 1) := by decide +kernel
theorem dL_changes_9 : decode cL_changes 9 = .ok (.iadd, 1) := by decide +kernel
theorem dL_changes_10 : decode cL_changes 10 = .ok (.invokestatic 43, 3) := by decide +kernel
theorem dL_changes_13 : decode cL_changes 13 = .ok (.istore_n 2, 1) := by decide +kernel
theorem dL_changes_14 : decode cL_changes 14 = .ok (.iload_n 1, 1) := by decide +kernel
theorem dL_changes_15 : decode cL_changes 15 = .ok (.bipush 7, 2) := by decide +kernel
theorem dL_changes_17 : decode cL_changes 17 = .ok (.ishr, 1) := by decide +kernel
theorem dL_changes_18 : decode cL_changes 18 = .ok (.iconst 4, 1) := by decide +kernel
theorem dL_changes_19 : decode cL_changes 19 = .ok (.invokestatic 43, 3) := by decide +kernel
theorem dL_changes_22 : decode cL_changes 22 = .ok (.istore_n 3, 1) := by decide +kernel
theorem dL_changes_23 : decode cL_changes 23 = .ok (.iload_n 1, 1) := by decide +kernel
theorem dL_changes_24 : decode cL_changes 24 = .ok (.bipush 16, 2) := by decide +kernel
theorem dL_changes_26 : decode cL_changes 26 = .ok (.invokestatic 43, 3) := by decide +kernel
theorem dL_changes_29 : decode cL_changes 29 = .ok (.tableswitch 222 0 12 #[67, 97, 97, 97, 126, 126, 141, 141, 141, 175, 201, 201, 201], 67) := by decide +kernel
theorem dL_changes_96 : decode cL_changes 96 = .ok (.aload_n 0, 1) := by decide +kernel
theorem dL_changes_97 : decode cL_changes 97 = .ok (.iload_n 1, 1) := by decide +kernel
theorem dL_changes_98 : decode cL_changes 98 = .ok (.iconst 4, 1) := by decide +kernel
theorem dL_changes_99 : decode cL_changes 99 = .ok (.ishr, 1) := by decide +kernel
theorem dL_changes_100 : decode cL_changes 100 = .ok (.bipush 8, 2) := by decide +kernel
theorem dL_changes_102 : decode cL_changes 102 = .ok (.invokestatic 43, 3) := by decide +kernel
theorem dL_changes_105 : decode cL_changes 105 = .ok (.iload_n 1, 1) := by decide +kernel
theorem dL_changes_106 : decode cL_changes 106 = .ok (.bipush 7, 2) := by decide +kernel
theorem dL_changes_108 : decode cL_changes 108 = .ok (.ishr, 1) := by decide +kernel
theorem dL_changes_109 : decode cL_changes 109 = .ok (.bipush 6, 2) := by decide +kernel
theorem dL_changes_111 : decode cL_changes 111 = .ok (.invokestatic 43, 3) := by decide +kernel
theorem dL_changes_114 : decode cL_changes 114 = .ok (.invokevirtual 33, 3) := by decide +kernel
theorem dL_changes_117 : decode cL_changes 117 = .ok (.ifCond .lt 7, 3) := by decide +kernel
theorem dL_changes_120 : decode cL_changes 120 = .ok (.iconst 1, 1) := by decide +kernel
theorem dL_changes_121 : decode cL_changes 121 = .ok (.goto 4, 3) := by decide +kernel
theorem dL_changes_124 : decode cL_changes 124 = .ok (.iconst 0, 1) := by decide +kernel
theorem dL_changes_125 : decode cL_changes 125 = .ok (.ireturn, 1) := by decide +kernel
theorem dL_changes_126 : decode cL_changes 126 = .ok (.aload_n 0, 1) := by decide +kernel
theorem dL_changes_127 : decode cL_changes 127 = .ok (.iload_n 2, 1) := by decide +kernel
theorem dL_changes_128 : decode cL_changes 128 = .ok (.iload_n 3, 1) := by decide +kernel
theorem dL_changes_129 : decode cL_changes 129 = .ok (.iload_n 1, 1) := by decide +kernel
theorem dL_changes_130 : decode cL_changes 130 = .ok (.bipush 9, 2) := by decide +kernel
theorem dL_changes_132 : decode cL_changes 132 = .ok (.ishr, 1) := by decide +kernel
theorem dL_changes_133 : decode cL_changes 133 = .ok (.aload_n 0, 1) := by decide +kernel
theorem dL_changes_134 : decode cL_changes 134 = .ok (.iconst 1, 1) := by decide +kernel
theorem dL_changes_135 : decode cL_changes 135 = .ok (.invokevirtual 78, 3) := by decide +kernel
theorem dL_changes_138 : decode cL_changes 138 = .ok (.iconst 1, 1) := by decide +kernel
theorem dL_changes_139 : decode cL_changes 139 = .ok (.iadd, 1) := by decide +kernel
theorem dL_changes_140 : decode cL_changes 140 = .ok (.invokestatic 43, 3) := by decide +kernel
theorem dL_changes_143 : decode cL_changes 143 = .ok (.invokevirtual 46, 3) := by decide +kernel
theorem dL_changes_146 : decode cL_changes 146 = .ok (.ifCond .lt 7, 3) := by decide +kernel
theorem dL_changes_149 : decode cL_changes 149 = .ok (.iconst 1, 1) := by decide +kernel
theorem dL_changes_150 : decode cL_changes 150 = .ok (.goto 4, 3) := by decide +kernel
theorem dL_changes_153 : decode cL_changes 153 = .ok (.iconst 0, 1) := by decide +kernel
theorem dL_changes_154 : decode cL_changes 154 = .ok (.ireturn, 1) := by decide +kernel
theorem dL_changes_155 : decode cL_changes 155 = .ok (.aload_n 0, 1) := by decide +kernel
theorem dL_changes_156 : decode cL_changes 156 = .ok (.iload_n 2, 1) := by decide +kernel
theorem dL_changes_157 : decode cL_changes 157 = .ok (.iload_n 3, 1) := by decide +kernel
theorem dL_changes_158 : decode cL_changes 158 = .ok (.invokevirtual 129, 3) := by decide +kernel
theorem dL_changes_161 : decode cL_changes 161 = .ok (.ifCond .lt 7, 3) := by decide +kernel
theorem dL_changes_164 : decode cL_changes 164 = .ok (.iconst 1, 1) := by decide +kernel
theorem dL_changes_165 : decode cL_changes 165 = .ok (.goto 4, 3) := by decide +kernel
theorem dL_changes_168 : decode cL_changes 168 = .ok (.iconst 0, 1) := by decide +kernel
theorem dL_changes_169 : decode cL_changes 169 = .ok (.ireturn, 1) := by decide +kernel
theorem dL_changes_170 : decode cL_changes 170 = .ok (.aload_n 0, 1) := by decide +kernel
theorem dL_changes_171 : decode cL_changes 171 = .ok (.iload_n 1, 1) := by decide +kernel
theorem dL_changes_172 : decode cL_changes 172 = .ok (.iconst 4, 1) := by decide +kernel
theorem dL_changes_173 : decode cL_changes 173 = .ok (.ishr, 1) := by decide +kernel
theorem dL_changes_174 : decode cL_changes 174 = .ok (.iconst 4, 1) := by decide +kernel
theorem dL_changes_175 : decode cL_changes 175 = .ok (.invokestatic 43, 3) := by decide +kernel
theorem dL_changes_178 : decode cL_changes 178 = .ok (.iload_n 1, 1) := by decide +kernel
theorem dL_changes_179 : decode cL_changes 179 = .ok (.bipush 8, 2) := by decide +kernel
theorem dL_changes_181 : decode cL_changes 181 = .ok (.ishr, 1) := by decide +kernel
theorem dL_changes_182 : decode cL_changes 182 = .ok (.iconst 1, 1) := by decide +kernel
theorem dL_changes_183 : decode cL_changes 183 = .ok (.iand, 1) := by decide +kernel
theorem dL_changes_184 : decode cL_changes 184 = .ok (.ifCond .ne 7, 3) := by decide +kernel
theorem dL_changes_187 : decode cL_changes 187 = .ok (.iconst 1, 1) := by decide +kernel
theorem dL_changes_188 : decode cL_changes 188 = .ok (.goto 4, 3) := by decide +kernel
theorem dL_changes_191 : decode cL_changes 191 = .ok (.iconst 0, 1) := by decide +kernel
theorem dL_changes_192 : decode cL_changes 192 = .ok (.invokevirtual 50, 3) := by decide +kernel
theorem dL_changes_195 : decode cL_changes 195 = .ok (.ifCond .lt 7, 3) := by decide +kernel
theorem dL_changes_198 : decode cL_changes 198 = .ok (.iconst 1, 1) := by decide +kernel
theorem dL_changes_199 : decode cL_changes 199 = .ok (.goto 4, 3) := by decide +kernel
theorem dL_changes_202 : decode cL_changes 202 = .ok (.iconst 0, 1) := by decide +kernel
theorem dL_changes_203 : decode cL_changes 203 = .ok (.ireturn, 1) := by decide +kernel
theorem dL_changes_204 : decode cL_changes 204 = .ok (.aload_n 0, 1) := by decide +kernel
theorem dL_changes_205 : decode cL_changes 205 = .ok (.iload_n 1, 1) := by decide +kernel
theorem dL_changes_206 : decode cL_changes 206 = .ok (.iconst 5, 1) := by decide +kernel
theorem dL_changes_207 : decode cL_changes 207 = .ok (.ishr, 1) := by decide +kernel
theorem dL_changes_208 : decode cL_changes 208 = .ok (.iconst 1, 1) := by decide +kernel
theorem dL_changes_209 : decode cL_changes 209 = .ok (.iand, 1) := by decide +kernel
theorem dL_changes_210 : decode cL_changes 210 = .ok (.ifCond .ne 7, 3) := by decide +kernel
theorem dL_changes_213 : decode cL_changes 213 = .ok (.iconst 1, 1) := by decide +kernel
theorem dL_changes_214 : decode cL_changes 214 = .ok (.goto 4, 3) := by decide +kernel
theorem dL_changes_217 : decode cL_changes 217 = .ok (.iconst 0, 1) := by decide +kernel
theorem dL_changes_218 : decode cL_changes 218 = .ok (.invokevirtual 132, 3) := by decide +kernel
theorem dL_changes_221 : decode cL_changes 221 = .ok (.ifCond .lt 7, 3) := by decide +kernel
theorem dL_changes_224 : decode cL_changes 224 = .ok (.iconst 1, 1) := by decide +kernel
theorem dL_changes_225 : decode cL_changes 225 = .ok (.goto 4, 3) := by decide +kernel
theorem dL_changes_228 : decode cL_changes 228 = .ok (.iconst 0, 1) := by decide +kernel
theorem dL_changes_229 : decode cL_changes 229 = .ok (.ireturn, 1) := by decide +kernel
theorem dL_changes_230 : decode cL_changes 230 = .ok (.aload_n 0, 1) := by decide +kernel
theorem dL_changes_231 : decode cL_changes 231 = .ok (.iload_n 1, 1) := by decide +kernel
theorem dL_changes_232 : decode cL_changes 232 = .ok (.iconst 4, 1) := by decide +kernel
theorem dL_changes_233 : decode cL_changes 233 = .ok (.ishr, 1) := by decide +kernel
theorem dL_changes_234 : decode cL_changes 234 = .ok (.bipush 101, 2) := by decide +kernel
theorem dL_changes_236 : decode cL_changes 236 = .ok (.invokestatic 43, 3) := by decide +kernel
theorem dL_changes_239 : decode cL_changes 239 = .ok (.invokevirtual 53, 3) := by decide +kernel
theorem dL_changes_242 : decode cL_changes 242 = .ok (.ifCond .lt 7, 3) := by decide +kernel
theorem dL_changes_245 : decode cL_changes 245 = .ok (.iconst 1, 1) := by decide +kernel
theorem dL_changes_246 : decode cL_changes 246 = .ok (.goto 4, 3) := by decide +kernel
theorem dL_changes_249 : decode cL_changes 249 = .ok (.iconst 0, 1) := by decide +kernel
theorem dL_changes_250 : decode cL_changes 250 = .ok (.ireturn, 1) := by decide +kernel
theorem dL_changes_251 : decode cL_changes 251 = .ok (.aload_n 0, 1) := by decide +kernel
theorem dL_changes_252 : decode cL_changes 252 = .ok (.iload_n 1, 1) := by decide +kernel
theorem dL_changes_253 : decode cL_changes 253 = .ok (.bipush 6, 2) := by decide +kernel
theorem dL_changes_255 : decode cL_changes 255 = .ok (.ishr, 1) := by decide +kernel
theorem dL_changes_256 : decode cL_changes 256 = .ok (.iconst 1, 1) := by decide +kernel
theorem dL_changes_257 : decode cL_changes 257 = .ok (.iand, 1) := by decide +kernel
theorem dL_changes_258 : decode cL_changes 258 = .ok (.ifCond .ne 52, 3) := by decide +kernel
theorem dL_changes_261 : decode cL_changes 261 = .ok (.new 136, 3) := by decide +kernel
theorem dL_changes_264 : decode cL_changes 264 = .ok (.dup, 1) := by decide +kernel
theorem dL_changes_265 : decode cL_changes 265 = .ok (.invokespecial 138, 3) := by decide +kernel
theorem dL_changes_268 : decode cL_changes 268 = .ok (.ldc 139, 2) := by decide +kernel
theorem dL_changes_270 : decode cL_changes 270 = .ok (.invokevirtual 141, 3) := by decide +kernel
theorem dL_changes_273 : decode cL_changes 273 = .ok (.iload_n 1, 1) := by decide +kernel
theorem dL_changes_274 : decode cL_changes 274 = .ok (.iconst 3, 1) := by decide +kernel
theorem dL_changes_275 : decode cL_changes 275 = .ok (.ishr, 1) := by decide +kernel
theorem dL_changes_276 : decode cL_changes 276 = .ok (.bipush 12, 2) := by decide +kernel
theorem dL_changes_278 : decode cL_changes 278 = .ok (.invokestatic 43, 3) := by decide +kernel
theorem dL_changes_281 : decode cL_changes 281 = .ok (.invokevirtual 144, 3) := by decide +kernel
theorem dL_changes_284 : decode cL_changes 284 = .ok (.ldc 147, 2) := by decide +kernel
theorem dL_changes_286 : decode cL_changes 286 = .ok (.invokevirtual 141, 3) := by decide +kernel
theorem dL_changes_289 : decode cL_changes 289 = .ok (.iload_n 1, 1) := by decide +kernel
theorem dL_changes_290 : decode cL_changes 290 = .ok (.iconst 5, 1) := by decide +kernel
theorem dL_changes_291 : decode cL_changes 291 = .ok (.ishr, 1) := by decide +kernel
theorem dL_changes_292 : decode cL_changes 292 = .ok (.iconst 4, 1) := by decide +kernel
theorem dL_changes_293 : decode cL_changes 293 = .ok (.invokestatic 43, 3) := by decide +kernel
theorem dL_changes_296 : decode cL_changes 296 = .ok (.invokevirtual 144, 3) := by decide +kernel
theorem dL_changes_299 : decode cL_changes 299 = .ok (.ldc 149, 2) := by decide +kernel
theorem dL_changes_301 : decode cL_changes 301 = .ok (.invokevirtual 141, 3) := by decide +kernel
theorem dL_changes_304 : decode cL_changes 304 = .ok (.invokevirtual 151, 3) := by decide +kernel
theorem dL_changes_307 : decode cL_changes 307 = .ok (.goto 66, 3) := by decide +kernel
theorem dL_changes_310 : decode cL_changes 310 = .ok (.new 136, 3) := by decide +kernel
theorem dL_changes_313 : decode cL_changes 313 = .ok (.dup, 1) := by decide +kernel
theorem dL_changes_314 : decode cL_changes 314 = .ok (.invokespecial 138, 3) := by decide +kernel
theorem dL_changes_317 : decode cL_changes 317 = .ok (.ldc 155, 2) := by decide +kernel
theorem dL_changes_319 : decode cL_changes 319 = .ok (.invokevirtual 141, 3) := by decide +kernel
theorem dL_changes_322 : decode cL_changes 322 = .ok (.iload_n 1, 1) := by decide +kernel
theorem dL_changes_323 : decode cL_changes 323 = .ok (.iconst 3, 1) := by decide +kernel
theorem dL_changes_324 : decode cL_changes 324 = .ok (.ishr, 1) := by decide +kernel
theorem dL_changes_325 : decode cL_changes 325 = .ok (.bipush 9, 2) := by decide +kernel
theorem dL_changes_327 : decode cL_changes 327 = .ok (.invokestatic 43, 3) := by decide +kernel
theorem dL_changes_330 : decode cL_changes 330 = .ok (.invokevirtual 144, 3) := by decide +kernel
theorem dL_changes_333 : decode cL_changes 333 = .ok (.ldc 157, 2) := by decide +kernel
theorem dL_changes_335 : decode cL_changes 335 = .ok (.invokevirtual 141, 3) := by decide +kernel
theorem dL_changes_338 : decode cL_changes 338 = .ok (.iload_n 1, 1) := by decide +kernel
theorem dL_changes_339 : decode cL_changes 339 = .ok (.iconst 5, 1) := by decide +kernel
theorem dL_changes_340 : decode cL_changes 340 = .ok (.ishr, 1) := by decide +kernel
theorem dL_changes_341 : decode cL_changes 341 = .ok (.iconst 3, 1) := by decide +kernel
theorem dL_changes_342 : decode cL_changes 342 = .ok (.invokestatic 43, 3) := by decide +kernel
theorem dL_changes_345 : decode cL_changes 345 = .ok (.invokevirtual 144, 3) := by decide +kernel
theorem dL_changes_348 : decode cL_changes 348 = .ok (.ldc 159, 2) := by decide +kernel
theorem dL_changes_350 : decode cL_changes 350 = .ok (.invokevirtual 141, 3) := by decide +kernel
theorem dL_changes_353 : decode cL_changes 353 = .ok (.iload_n 1, 1) := by decide +kernel
theorem dL_changes_354 : decode cL_changes 354 = .ok (.bipush 7, 2) := by decide +kernel
theorem dL_changes_356 : decode cL_changes 356 = .ok (.ishr, 1) := by decide +kernel
theorem dL_changes_357 : decode cL_changes 357 = .ok (.bipush 8, 2) := by decide +kernel
theorem dL_changes_359 : decode cL_changes 359 = .ok (.invokestatic 43, 3) := by decide +kernel
theorem dL_changes_362 : decode cL_changes 362 = .ok (.invokevirtual 144, 3) := by decide +kernel
theorem dL_changes_365 : decode cL_changes 365 = .ok (.ldc 161, 2) := by decide +kernel
theorem dL_changes_367 : decode cL_changes 367 = .ok (.invokevirtual 141, 3) := by decide +kernel
theorem dL_changes_370 : decode cL_changes 370 = .ok (.invokevirtual 151, 3) := by decide +kernel
theorem dL_changes_373 : decode cL_changes 373 = .ok (.invokestatic 163, 3) := by decide +kernel
theorem dL_changes_376 : decode cL_changes 376 = .ok (.ifCond .lt 7, 3) := by decide +kernel
theorem dL_changes_379 : decode cL_changes 379 = .ok (.iconst 1, 1) := by decide +kernel
theorem dL_changes_380 : decode cL_changes 380 = .ok (.goto 4, 3) := by decide +kernel
theorem dL_changes_383 : decode cL_changes 383 = .ok (.iconst 0, 1) := by decide +kernel
theorem dL_changes_384 : decode cL_changes 384 = .ok (.ireturn, 1) := by decide +kernel
theorem dL_refused_0 : decode cL_refused 0 = .ok (.aload_n 0, 1) := by decide +kernel
theorem dL_refused_1 : decode cL_refused 1 = .ok (.invokestatic 167, 3) := by decide +kernel
theorem dL_refused_4 : decode cL_refused 4 = .ok (.lstore_n 1, 1) := by decide +kernel
theorem dL_refused_5 : decode cL_refused 5 = .ok (.aload_n 0, 1) := by decide +kernel
theorem dL_refused_6 : decode cL_refused 6 = .ok (.iconst 1, 1) := by decide +kernel
theorem dL_refused_7 : decode cL_refused 7 = .ok (.invokevirtual 78, 3) := by decide +kernel
theorem dL_refused_10 : decode cL_refused 10 = .ok (.istore_n 3, 1) := by decide +kernel
theorem dL_refused_11 : decode cL_refused 11 = .ok (.aload_n 0, 1) := by decide +kernel
theorem dL_refused_12 : decode cL_refused 12 = .ok (.iconst 0, 1) := by decide +kernel
theorem dL_refused_13 : decode cL_refused 13 = .ok (.iconst 0, 1) := by decide +kernel
theorem dL_refused_14 : decode cL_refused 14 = .ok (.invokevirtual 26, 3) := by decide +kernel
theorem dL_refused_17 : decode cL_refused 17 = .ok (.istore 4, 2) := by decide +kernel
theorem dL_refused_19 : decode cL_refused 19 = .ok (.aload_n 0, 1) := by decide +kernel
theorem dL_refused_20 : decode cL_refused 20 = .ok (.iconst 0, 1) := by decide +kernel
theorem dL_refused_21 : decode cL_refused 21 = .ok (.iconst 1, 1) := by decide +kernel
theorem dL_refused_22 : decode cL_refused 22 = .ok (.invokevirtual 26, 3) := by decide +kernel
theorem dL_refused_25 : decode cL_refused 25 = .ok (.istore 5, 2) := by decide +kernel
theorem dL_refused_27 : decode cL_refused 27 = .ok (.aload_n 0, 1) := by decide +kernel
theorem dL_refused_28 : decode cL_refused 28 = .ok (.bipush 7, 2) := by decide +kernel
theorem dL_refused_30 : decode cL_refused 30 = .ok (.iconst 1, 1) := by decide +kernel
theorem dL_refused_31 : decode cL_refused 31 = .ok (.invokevirtual 33, 3) := by decide +kernel
theorem dL_refused_34 : decode cL_refused 34 = .ok (.bipush (-12), 2) := by decide +kernel
theorem dL_refused_36 : decode cL_refused 36 = .ok (.if_icmp .ne 190, 3) := by decide +kernel
theorem dL_refused_39 : decode cL_refused 39 = .ok (.aload_n 0, 1) := by decide +kernel
theorem dL_refused_40 : decode cL_refused 40 = .ok (.iconst (-1), 1) := by decide +kernel
theorem dL_refused_41 : decode cL_refused 41 = .ok (.iconst 1, 1) := by decide +kernel
theorem dL_refused_42 : decode cL_refused 42 = .ok (.invokevirtual 33, 3) := by decide +kernel
theorem dL_refused_45 : decode cL_refused 45 = .ok (.bipush (-12), 2) := by decide +kernel
theorem dL_refused_47 : decode cL_refused 47 = .ok (.if_icmp .ne 179, 3) := by decide +kernel
theorem dL_refused_50 : decode cL_refused 50 = .ok (.aload_n 0, 1) := by decide +kernel
theorem dL_refused_51 : decode cL_refused 51 = .ok (.iconst 0, 1) := by decide +kernel
theorem dL_refused_52 : decode cL_refused 52 = .ok (.iconst 0, 1) := by decide +kernel
theorem dL_refused_53 : decode cL_refused 53 = .ok (.invokevirtual 33, 3) := by decide +kernel
theorem dL_refused_56 : decode cL_refused 56 = .ok (.bipush (-12), 2) := by decide +kernel
theorem dL_refused_58 : decode cL_refused 58 = .ok (.if_icmp .ne 168, 3) := by decide +kernel
theorem dL_refused_61 : decode cL_refused 61 = .ok (.aload_n 0, 1) := by decide +kernel
theorem dL_refused_62 : decode cL_refused 62 = .ok (.iconst 0, 1) := by decide +kernel
theorem dL_refused_63 : decode cL_refused 63 = .ok (.iconst 5, 1) := by decide +kernel
theorem dL_refused_64 : decode cL_refused 64 = .ok (.invokevirtual 33, 3) := by decide +kernel
theorem dL_refused_67 : decode cL_refused 67 = .ok (.bipush (-12), 2) := by decide +kernel
theorem dL_refused_69 : decode cL_refused 69 = .ok (.if_icmp .ne 157, 3) := by decide +kernel
theorem dL_refused_72 : decode cL_refused 72 = .ok (.aload_n 0, 1) := by decide +kernel
theorem dL_refused_73 : decode cL_refused 73 = .ok (.iload_n 3, 1) := by decide +kernel
theorem dL_refused_74 : decode cL_refused 74 = .ok (.bipush 9, 2) := by decide +kernel
theorem dL_refused_76 : decode cL_refused 76 = .ok (.iconst 0, 1) := by decide +kernel
theorem dL_refused_77 : decode cL_refused 77 = .ok (.invokevirtual 46, 3) := by decide +kernel
theorem dL_refused_80 : decode cL_refused 80 = .ok (.bipush (-11), 2) := by decide +kernel
theorem dL_refused_82 : decode cL_refused 82 = .ok (.if_icmp .ne 144, 3) := by decide +kernel
theorem dL_refused_85 : decode cL_refused 85 = .ok (.aload_n 0, 1) := by decide +kernel
theorem dL_refused_86 : decode cL_refused 86 = .ok (.iconst 0, 1) := by decide +kernel
theorem dL_refused_87 : decode cL_refused 87 = .ok (.bipush 9, 2) := by decide +kernel
theorem dL_refused_89 : decode cL_refused 89 = .ok (.iload_n 3, 1) := by decide +kernel
theorem dL_refused_90 : decode cL_refused 90 = .ok (.invokevirtual 46, 3) := by decide +kernel
theorem dL_refused_93 : decode cL_refused 93 = .ok (.bipush (-11), 2) := by decide +kernel
theorem dL_refused_95 : decode cL_refused 95 = .ok (.if_icmp .ne 131, 3) := by decide +kernel
theorem dL_refused_98 : decode cL_refused 98 = .ok (.aload_n 0, 1) := by decide +kernel
theorem dL_refused_99 : decode cL_refused 99 = .ok (.iconst (-1), 1) := by decide +kernel
theorem dL_refused_100 : decode cL_refused 100 = .ok (.iconst 0, 1) := by decide +kernel
theorem dL_refused_101 : decode cL_refused 101 = .ok (.iconst 0, 1) := by decide +kernel
theorem dL_refused_102 : decode cL_refused 102 = .ok (.invokevirtual 46, 3) := by decide +kernel
theorem dL_refused_105 : decode cL_refused 105 = .ok (.bipush (-11), 2) := by decide +kernel
theorem dL_refused_107 : decode cL_refused 107 = .ok (.if_icmp .ne 119, 3) := by decide +kernel
theorem dL_refused_110 : decode cL_refused 110 = .ok (.aload_n 0, 1) := by decide +kernel
theorem dL_refused_111 : decode cL_refused 111 = .ok (.iconst 0, 1) := by decide +kernel
theorem dL_refused_112 : decode cL_refused 112 = .ok (.iconst 3, 1) := by decide +kernel
theorem dL_refused_113 : decode cL_refused 113 = .ok (.iconst 0, 1) := by decide +kernel
theorem dL_refused_114 : decode cL_refused 114 = .ok (.invokevirtual 46, 3) := by decide +kernel
theorem dL_refused_117 : decode cL_refused 117 = .ok (.bipush (-12), 2) := by decide +kernel
theorem dL_refused_119 : decode cL_refused 119 = .ok (.if_icmp .ne 107, 3) := by decide +kernel
theorem dL_refused_122 : decode cL_refused 122 = .ok (.aload_n 0, 1) := by decide +kernel
theorem dL_refused_123 : decode cL_refused 123 = .ok (.iconst 0, 1) := by decide +kernel
theorem dL_refused_124 : decode cL_refused 124 = .ok (.iconst (-1), 1) := by decide +kernel
theorem dL_refused_125 : decode cL_refused 125 = .ok (.iconst 0, 1) := by decide +kernel
theorem dL_refused_126 : decode cL_refused 126 = .ok (.invokevirtual 46, 3) := by decide +kernel
theorem dL_refused_129 : decode cL_refused 129 = .ok (.bipush (-12), 2) := by decide +kernel
theorem dL_refused_131 : decode cL_refused 131 = .ok (.if_icmp .ne 95, 3) := by decide +kernel
theorem dL_refused_134 : decode cL_refused 134 = .ok (.aload_n 0, 1) := by decide +kernel
theorem dL_refused_135 : decode cL_refused 135 = .ok (.iload_n 3, 1) := by decide +kernel
theorem dL_refused_136 : decode cL_refused 136 = .ok (.bipush 9, 2) := by decide +kernel
theorem dL_refused_138 : decode cL_refused 138 = .ok (.invokevirtual 129, 3) := by decide +kernel
theorem dL_refused_141 : decode cL_refused 141 = .ok (.bipush (-11), 2) := by decide +kernel
