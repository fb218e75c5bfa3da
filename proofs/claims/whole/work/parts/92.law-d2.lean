theorem d_law_234 : decode code 234 = .ok (.aload_n 2, 1) := by decide +kernel
theorem d_law_235 : decode code 235 = .ok (.aload_n 0, 1) := by decide +kernel
theorem d_law_236 : decode code 236 = .ok (.iload 4, 2) := by decide +kernel
theorem d_law_238 : decode code 238 = .ok (.iconst 1, 1) := by decide +kernel
theorem d_law_239 : decode code 239 = .ok (.iadd, 1) := by decide +kernel
theorem d_law_240 : decode code 240 = .ok (.iaload, 1) := by decide +kernel
theorem d_law_241 : decode code 241 = .ok (.aload_n 0, 1) := by decide +kernel
theorem d_law_242 : decode code 242 = .ok (.iload 4, 2) := by decide +kernel
theorem d_law_244 : decode code 244 = .ok (.iconst 2, 1) := by decide +kernel
theorem d_law_245 : decode code 245 = .ok (.iadd, 1) := by decide +kernel
theorem d_law_246 : decode code 246 = .ok (.iaload, 1) := by decide +kernel
theorem d_law_247 : decode code 247 = .ok (.invokevirtual 43, 3) := by decide +kernel
theorem d_law_250 : decode code 250 = .ok (.lstore 6, 2) := by decide +kernel
theorem d_law_252 : decode code 252 = .ok (.aload_n 2, 1) := by decide +kernel
theorem d_law_253 : decode code 253 = .ok (.invokevirtual 44, 3) := by decide +kernel
theorem d_law_256 : decode code 256 = .ok (.iload 5, 2) := by decide +kernel
theorem d_law_258 : decode code 258 = .ok (.if_icmp .eq 5, 3) := by decide +kernel
theorem d_law_261 : decode code 261 = .ok (.iconst 0, 1) := by decide +kernel
theorem d_law_262 : decode code 262 = .ok (.ireturn, 1) := by decide +kernel
theorem d_law_263 : decode code 263 = .ok (.iload 5, 2) := by decide +kernel
theorem d_law_265 : decode code 265 = .ok (.ifCond .ne 14, 3) := by decide +kernel
theorem d_law_268 : decode code 268 = .ok (.aload_n 3, 1) := by decide +kernel
theorem d_law_269 : decode code 269 = .ok (.iconst 0, 1) := by decide +kernel
theorem d_law_270 : decode code 270 = .ok (.laload, 1) := by decide +kernel
theorem d_law_271 : decode code 271 = .ok (.lload 6, 2) := by decide +kernel
theorem d_law_273 : decode code 273 = .ok (.lcmp, 1) := by decide +kernel
theorem d_law_274 : decode code 274 = .ok (.ifCond .eq 5, 3) := by decide +kernel
theorem d_law_277 : decode code 277 = .ok (.iconst 0, 1) := by decide +kernel
theorem d_law_278 : decode code 278 = .ok (.ireturn, 1) := by decide +kernel
theorem d_law_279 : decode code 279 = .ok (.goto 351, 3) := by decide +kernel
theorem d_law_282 : decode code 282 = .ok (.aload_n 1, 1) := by decide +kernel
theorem d_law_283 : decode code 283 = .ok (.aload_n 0, 1) := by decide +kernel
theorem d_law_284 : decode code 284 = .ok (.iload 4, 2) := by decide +kernel
theorem d_law_286 : decode code 286 = .ok (.iconst 1, 1) := by decide +kernel
theorem d_law_287 : decode code 287 = .ok (.iadd, 1) := by decide +kernel
theorem d_law_288 : decode code 288 = .ok (.iaload, 1) := by decide +kernel
theorem d_law_289 : decode code 289 = .ok (.invokevirtual 48, 3) := by decide +kernel
theorem d_law_292 : decode code 292 = .ok (.aload_n 2, 1) := by decide +kernel
theorem d_law_293 : decode code 293 = .ok (.aload_n 0, 1) := by decide +kernel
theorem d_law_294 : decode code 294 = .ok (.iload 4, 2) := by decide +kernel
theorem d_law_296 : decode code 296 = .ok (.iconst 1, 1) := by decide +kernel
theorem d_law_297 : decode code 297 = .ok (.iadd, 1) := by decide +kernel
theorem d_law_298 : decode code 298 = .ok (.iaload, 1) := by decide +kernel
theorem d_law_299 : decode code 299 = .ok (.invokevirtual 52, 3) := by decide +kernel
theorem d_law_302 : decode code 302 = .ok (.if_icmp .eq 328, 3) := by decide +kernel
theorem d_law_305 : decode code 305 = .ok (.iconst 0, 1) := by decide +kernel
theorem d_law_306 : decode code 306 = .ok (.ireturn, 1) := by decide +kernel
theorem d_law_307 : decode code 307 = .ok (.aload_n 1, 1) := by decide +kernel
theorem d_law_308 : decode code 308 = .ok (.aload_n 0, 1) := by decide +kernel
theorem d_law_309 : decode code 309 = .ok (.iload 4, 2) := by decide +kernel
theorem d_law_311 : decode code 311 = .ok (.iconst 1, 1) := by decide +kernel
theorem d_law_312 : decode code 312 = .ok (.iadd, 1) := by decide +kernel
theorem d_law_313 : decode code 313 = .ok (.iaload, 1) := by decide +kernel
theorem d_law_314 : decode code 314 = .ok (.aload_n 0, 1) := by decide +kernel
theorem d_law_315 : decode code 315 = .ok (.iload 4, 2) := by decide +kernel
theorem d_law_317 : decode code 317 = .ok (.iconst 2, 1) := by decide +kernel
theorem d_law_318 : decode code 318 = .ok (.iadd, 1) := by decide +kernel
theorem d_law_319 : decode code 319 = .ok (.iaload, 1) := by decide +kernel
theorem d_law_320 : decode code 320 = .ok (.ifCond .eq 7, 3) := by decide +kernel
theorem d_law_323 : decode code 323 = .ok (.iconst 1, 1) := by decide +kernel
