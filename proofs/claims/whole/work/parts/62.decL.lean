theorem dk_L_law_218 : decode code 218 = .ok (.if_icmp .eq 700, 3) := by decide +kernel
theorem dk_L_law_221 : decode code 221 = .ok (.iconst 0, 1) := by decide +kernel
theorem dk_L_law_222 : decode code 222 = .ok (.ireturn, 1) := by decide +kernel
theorem dk_L_law_223 : decode code 223 = .ok (.aload_n 1, 1) := by decide +kernel
theorem dk_L_law_224 : decode code 224 = .ok (.invokevirtual 27, 3) := by decide +kernel
theorem dk_L_law_227 : decode code 227 = .ok (.aload_n 2, 1) := by decide +kernel
theorem dk_L_law_228 : decode code 228 = .ok (.invokevirtual 31, 3) := by decide +kernel
theorem dk_L_law_231 : decode code 231 = .ok (.if_icmp .eq 687, 3) := by decide +kernel
theorem dk_L_law_234 : decode code 234 = .ok (.iconst 0, 1) := by decide +kernel
theorem dk_L_law_235 : decode code 235 = .ok (.ireturn, 1) := by decide +kernel
theorem dk_L_law_236 : decode code 236 = .ok (.aload_n 1, 1) := by decide +kernel
theorem dk_L_law_237 : decode code 237 = .ok (.aload_n 0, 1) := by decide +kernel
theorem dk_L_law_238 : decode code 238 = .ok (.iload_n 3, 1) := by decide +kernel
theorem dk_L_law_239 : decode code 239 = .ok (.iconst 1, 1) := by decide +kernel
theorem dk_L_law_240 : decode code 240 = .ok (.iadd, 1) := by decide +kernel
theorem dk_L_law_241 : decode code 241 = .ok (.iaload, 1) := by decide +kernel
theorem dk_L_law_242 : decode code 242 = .ok (.aload_n 0, 1) := by decide +kernel
theorem dk_L_law_243 : decode code 243 = .ok (.iload_n 3, 1) := by decide +kernel
theorem dk_L_law_244 : decode code 244 = .ok (.iconst 2, 1) := by decide +kernel
theorem dk_L_law_245 : decode code 245 = .ok (.iadd, 1) := by decide +kernel
theorem dk_L_law_246 : decode code 246 = .ok (.iaload, 1) := by decide +kernel
theorem dk_L_law_247 : decode code 247 = .ok (.aload_n 0, 1) := by decide +kernel
theorem dk_L_law_248 : decode code 248 = .ok (.iload_n 3, 1) := by decide +kernel
theorem dk_L_law_249 : decode code 249 = .ok (.iconst 3, 1) := by decide +kernel
theorem dk_L_law_250 : decode code 250 = .ok (.iadd, 1) := by decide +kernel
theorem dk_L_law_251 : decode code 251 = .ok (.iaload, 1) := by decide +kernel
theorem dk_L_law_252 : decode code 252 = .ok (.invokevirtual 32, 3) := by decide +kernel
theorem dk_L_law_255 : decode code 255 = .ok (.aload_n 2, 1) := by decide +kernel
theorem dk_L_law_256 : decode code 256 = .ok (.aload_n 0, 1) := by decide +kernel
theorem dk_L_law_257 : decode code 257 = .ok (.iload_n 3, 1) := by decide +kernel
theorem dk_L_law_258 : decode code 258 = .ok (.iconst 1, 1) := by decide +kernel
theorem dk_L_law_259 : decode code 259 = .ok (.iadd, 1) := by decide +kernel
theorem dk_L_law_260 : decode code 260 = .ok (.iaload, 1) := by decide +kernel
theorem dk_L_law_261 : decode code 261 = .ok (.aload_n 0, 1) := by decide +kernel
theorem dk_L_law_262 : decode code 262 = .ok (.iload_n 3, 1) := by decide +kernel
theorem dk_L_law_263 : decode code 263 = .ok (.iconst 2, 1) := by decide +kernel
theorem dk_L_law_264 : decode code 264 = .ok (.iadd, 1) := by decide +kernel
theorem dk_L_law_265 : decode code 265 = .ok (.iaload, 1) := by decide +kernel
theorem dk_L_law_266 : decode code 266 = .ok (.aload_n 0, 1) := by decide +kernel
theorem dk_L_law_267 : decode code 267 = .ok (.iload_n 3, 1) := by decide +kernel
theorem dk_L_law_268 : decode code 268 = .ok (.iconst 3, 1) := by decide +kernel
theorem dk_L_law_269 : decode code 269 = .ok (.iadd, 1) := by decide +kernel
theorem dk_L_law_270 : decode code 270 = .ok (.iaload, 1) := by decide +kernel
theorem dk_L_law_271 : decode code 271 = .ok (.invokevirtual 36, 3) := by decide +kernel
theorem dk_L_law_274 : decode code 274 = .ok (.if_icmp .eq 644, 3) := by decide +kernel
theorem dk_L_law_277 : decode code 277 = .ok (.iconst 0, 1) := by decide +kernel
theorem dk_L_law_278 : decode code 278 = .ok (.ireturn, 1) := by decide +kernel
theorem dk_L_law_279 : decode code 279 = .ok (.aload_n 1, 1) := by decide +kernel
theorem dk_L_law_280 : decode code 280 = .ok (.invokevirtual 37, 3) := by decide +kernel
theorem dk_L_law_283 : decode code 283 = .ok (.aload_n 2, 1) := by decide +kernel
theorem dk_L_law_284 : decode code 284 = .ok (.invokevirtual 40, 3) := by decide +kernel
theorem dk_L_law_287 : decode code 287 = .ok (.if_icmp .eq 631, 3) := by decide +kernel
theorem dk_L_law_290 : decode code 290 = .ok (.iconst 0, 1) := by decide +kernel
theorem dk_L_law_291 : decode code 291 = .ok (.ireturn, 1) := by decide +kernel
theorem dk_L_law_292 : decode code 292 = .ok (.aload_n 1, 1) := by decide +kernel
theorem dk_L_law_293 : decode code 293 = .ok (.aload_n 0, 1) := by decide +kernel
theorem dk_L_law_294 : decode code 294 = .ok (.iload_n 3, 1) := by decide +kernel
theorem dk_L_law_295 : decode code 295 = .ok (.iconst 1, 1) := by decide +kernel
theorem dk_L_law_296 : decode code 296 = .ok (.iadd, 1) := by decide +kernel
theorem dk_L_law_297 : decode code 297 = .ok (.iaload, 1) := by decide +kernel
theorem dk_L_law_298 : decode code 298 = .ok (.aload_n 0, 1) := by decide +kernel
theorem dk_L_law_299 : decode code 299 = .ok (.iload_n 3, 1) := by decide +kernel
theorem dk_L_law_300 : decode code 300 = .ok (.iconst 2, 1) := by decide +kernel
theorem dk_L_law_301 : decode code 301 = .ok (.iadd, 1) := by decide +kernel
theorem dk_L_law_302 : decode code 302 = .ok (.iaload, 1) := by decide +kernel
theorem dk_L_law_303 : decode code 303 = .ok (.ifCond .eq 7, 3) := by decide +kernel
theorem dk_L_law_306 : decode code 306 = .ok (.iconst 1, 1) := by decide +kernel
theorem dk_L_law_307 : decode code 307 = .ok (.goto 4, 3) := by decide +kernel
theorem dk_L_law_310 : decode code 310 = .ok (.iconst 0, 1) := by decide +kernel
theorem dk_L_law_311 : decode code 311 = .ok (.aload_n 0, 1) := by decide +kernel
theorem dk_L_law_312 : decode code 312 = .ok (.iload_n 3, 1) := by decide +kernel
theorem dk_L_law_313 : decode code 313 = .ok (.iconst 3, 1) := by decide +kernel
theorem dk_L_law_314 : decode code 314 = .ok (.iadd, 1) := by decide +kernel
theorem dk_L_law_315 : decode code 315 = .ok (.iaload, 1) := by decide +kernel
theorem dk_L_law_316 : decode code 316 = .ok (.aload_n 0, 1) := by decide +kernel
theorem dk_L_law_317 : decode code 317 = .ok (.iload_n 3, 1) := by decide +kernel
theorem dk_L_law_318 : decode code 318 = .ok (.iconst 4, 1) := by decide +kernel
theorem dk_L_law_319 : decode code 319 = .ok (.iadd, 1) := by decide +kernel
theorem dk_L_law_320 : decode code 320 = .ok (.iaload, 1) := by decide +kernel
theorem dk_L_law_321 : decode code 321 = .ok (.invokevirtual 41, 3) := by decide +kernel
