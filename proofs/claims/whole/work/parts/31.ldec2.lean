theorem dLaw_199 : decode code 199 = .ok (.i2l, 1) := by decide +kernel
theorem dLaw_200 : decode code 200 = .ok (.bipush 32, 2) := by decide +kernel
theorem dLaw_202 : decode code 202 = .ok (.lshl, 1) := by decide +kernel
theorem dLaw_203 : decode code 203 = .ok (.aload_n 0, 1) := by decide +kernel
theorem dLaw_204 : decode code 204 = .ok (.iload 4, 2) := by decide +kernel
theorem dLaw_206 : decode code 206 = .ok (.iconst 2, 1) := by decide +kernel
theorem dLaw_207 : decode code 207 = .ok (.iadd, 1) := by decide +kernel
theorem dLaw_208 : decode code 208 = .ok (.iaload, 1) := by decide +kernel
theorem dLaw_209 : decode code 209 = .ok (.i2l, 1) := by decide +kernel
theorem dLaw_210 : decode code 210 = .ok (.ldc2_w 51, 3) := by decide +kernel
theorem dLaw_213 : decode code 213 = .ok (.land, 1) := by decide +kernel
theorem dLaw_214 : decode code 214 = .ok (.lor, 1) := by decide +kernel
theorem dLaw_215 : decode code 215 = .ok (.aload_n 0, 1) := by decide +kernel
theorem dLaw_216 : decode code 216 = .ok (.iload 4, 2) := by decide +kernel
theorem dLaw_218 : decode code 218 = .ok (.iconst 3, 1) := by decide +kernel
theorem dLaw_219 : decode code 219 = .ok (.iadd, 1) := by decide +kernel
theorem dLaw_220 : decode code 220 = .ok (.iaload, 1) := by decide +kernel
theorem dLaw_221 : decode code 221 = .ok (.i2l, 1) := by decide +kernel
theorem dLaw_222 : decode code 222 = .ok (.bipush 32, 2) := by decide +kernel
theorem dLaw_224 : decode code 224 = .ok (.lshl, 1) := by decide +kernel
theorem dLaw_225 : decode code 225 = .ok (.aload_n 0, 1) := by decide +kernel
theorem dLaw_226 : decode code 226 = .ok (.iload 4, 2) := by decide +kernel
theorem dLaw_228 : decode code 228 = .ok (.iconst 4, 1) := by decide +kernel
theorem dLaw_229 : decode code 229 = .ok (.iadd, 1) := by decide +kernel
theorem dLaw_230 : decode code 230 = .ok (.iaload, 1) := by decide +kernel
theorem dLaw_231 : decode code 231 = .ok (.i2l, 1) := by decide +kernel
theorem dLaw_232 : decode code 232 = .ok (.ldc2_w 51, 3) := by decide +kernel
theorem dLaw_235 : decode code 235 = .ok (.land, 1) := by decide +kernel
theorem dLaw_236 : decode code 236 = .ok (.lor, 1) := by decide +kernel
theorem dLaw_237 : decode code 237 = .ok (.aload_n 0, 1) := by decide +kernel
theorem dLaw_238 : decode code 238 = .ok (.iload 4, 2) := by decide +kernel
theorem dLaw_240 : decode code 240 = .ok (.iconst 5, 1) := by decide +kernel
theorem dLaw_241 : decode code 241 = .ok (.iadd, 1) := by decide +kernel
theorem dLaw_242 : decode code 242 = .ok (.iaload, 1) := by decide +kernel
theorem dLaw_243 : decode code 243 = .ok (.aload_n 3, 1) := by decide +kernel
theorem dLaw_244 : decode code 244 = .ok (.invokestatic 62, 3) := by decide +kernel
theorem dLaw_247 : decode code 247 = .ok (.istore 5, 2) := by decide +kernel
theorem dLaw_249 : decode code 249 = .ok (.aload_n 2, 1) := by decide +kernel
theorem dLaw_250 : decode code 250 = .ok (.aload_n 0, 1) := by decide +kernel
theorem dLaw_251 : decode code 251 = .ok (.iload 4, 2) := by decide +kernel
theorem dLaw_253 : decode code 253 = .ok (.iconst 1, 1) := by decide +kernel
theorem dLaw_254 : decode code 254 = .ok (.iadd, 1) := by decide +kernel
theorem dLaw_255 : decode code 255 = .ok (.iaload, 1) := by decide +kernel
theorem dLaw_256 : decode code 256 = .ok (.i2l, 1) := by decide +kernel
theorem dLaw_257 : decode code 257 = .ok (.bipush 32, 2) := by decide +kernel
theorem dLaw_259 : decode code 259 = .ok (.lshl, 1) := by decide +kernel
theorem dLaw_260 : decode code 260 = .ok (.aload_n 0, 1) := by decide +kernel
theorem dLaw_261 : decode code 261 = .ok (.iload 4, 2) := by decide +kernel
theorem dLaw_263 : decode code 263 = .ok (.iconst 2, 1) := by decide +kernel
theorem dLaw_264 : decode code 264 = .ok (.iadd, 1) := by decide +kernel
theorem dLaw_265 : decode code 265 = .ok (.iaload, 1) := by decide +kernel
theorem dLaw_266 : decode code 266 = .ok (.i2l, 1) := by decide +kernel
theorem dLaw_267 : decode code 267 = .ok (.ldc2_w 51, 3) := by decide +kernel
theorem dLaw_270 : decode code 270 = .ok (.land, 1) := by decide +kernel
theorem dLaw_271 : decode code 271 = .ok (.lor, 1) := by decide +kernel
theorem dLaw_272 : decode code 272 = .ok (.aload_n 0, 1) := by decide +kernel
theorem dLaw_273 : decode code 273 = .ok (.iload 4, 2) := by decide +kernel
theorem dLaw_275 : decode code 275 = .ok (.iconst 3, 1) := by decide +kernel
theorem dLaw_276 : decode code 276 = .ok (.iadd, 1) := by decide +kernel
theorem dLaw_277 : decode code 277 = .ok (.iaload, 1) := by decide +kernel
theorem dLaw_278 : decode code 278 = .ok (.i2l, 1) := by decide +kernel
theorem dLaw_279 : decode code 279 = .ok (.bipush 32, 2) := by decide +kernel
theorem dLaw_281 : decode code 281 = .ok (.lshl, 1) := by decide +kernel
theorem dLaw_282 : decode code 282 = .ok (.aload_n 0, 1) := by decide +kernel
theorem dLaw_283 : decode code 283 = .ok (.iload 4, 2) := by decide +kernel
theorem dLaw_285 : decode code 285 = .ok (.iconst 4, 1) := by decide +kernel
theorem dLaw_286 : decode code 286 = .ok (.iadd, 1) := by decide +kernel
theorem dLaw_287 : decode code 287 = .ok (.iaload, 1) := by decide +kernel
theorem dLaw_288 : decode code 288 = .ok (.i2l, 1) := by decide +kernel
theorem dLaw_289 : decode code 289 = .ok (.ldc2_w 51, 3) := by decide +kernel
theorem dLaw_292 : decode code 292 = .ok (.land, 1) := by decide +kernel
theorem dLaw_293 : decode code 293 = .ok (.lor, 1) := by decide +kernel
theorem dLaw_294 : decode code 294 = .ok (.aload_n 0, 1) := by decide +kernel
theorem dLaw_295 : decode code 295 = .ok (.iload 4, 2) := by decide +kernel
theorem dLaw_297 : decode code 297 = .ok (.iconst 5, 1) := by decide +kernel
theorem dLaw_298 : decode code 298 = .ok (.iadd, 1) := by decide +kernel
theorem dLaw_299 : decode code 299 = .ok (.iaload, 1) := by decide +kernel
theorem dLaw_300 : decode code 300 = .ok (.invokevirtual 65, 3) := by decide +kernel
theorem dLaw_303 : decode code 303 = .ok (.istore 6, 2) := by decide +kernel
theorem dLaw_305 : decode code 305 = .ok (.aload_n 2, 1) := by decide +kernel
theorem dLaw_306 : decode code 306 = .ok (.invokevirtual 59, 3) := by decide +kernel
theorem dLaw_309 : decode code 309 = .ok (.iload 5, 2) := by decide +kernel
theorem dLaw_311 : decode code 311 = .ok (.if_icmp .eq 5, 3) := by decide +kernel
theorem dLaw_314 : decode code 314 = .ok (.iconst 0, 1) := by decide +kernel
theorem dLaw_315 : decode code 315 = .ok (.ireturn, 1) := by decide +kernel
theorem dLaw_316 : decode code 316 = .ok (.iload 5, 2) := by decide +kernel
theorem dLaw_318 : decode code 318 = .ok (.ifCond .ne 15, 3) := by decide +kernel
theorem dLaw_321 : decode code 321 = .ok (.aload_n 3, 1) := by decide +kernel
theorem dLaw_322 : decode code 322 = .ok (.iconst 0, 1) := by decide +kernel
theorem dLaw_323 : decode code 323 = .ok (.laload, 1) := by decide +kernel
