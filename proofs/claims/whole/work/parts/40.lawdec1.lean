/-! DECODED INSTRUCTIONS OF THE LAW -/
theorem d_W_law_194 : decode code 194 = .ok (.iload 5, 2) := by decide +kernel
theorem d_W_law_196 : decode code 196 = .ok (.iconst 1, 1) := by decide +kernel
theorem d_W_law_197 : decode code 197 = .ok (.iadd, 1) := by decide +kernel
theorem d_W_law_198 : decode code 198 = .ok (.iaload, 1) := by decide +kernel
theorem d_W_law_199 : decode code 199 = .ok (.aload_n 3, 1) := by decide +kernel
theorem d_W_law_200 : decode code 200 = .ok (.invokestatic 81, 3) := by decide +kernel
theorem d_W_law_203 : decode code 203 = .ok (.istore 6, 2) := by decide +kernel
theorem d_W_law_205 : decode code 205 = .ok (.aload_n 2, 1) := by decide +kernel
theorem d_W_law_206 : decode code 206 = .ok (.aload_n 0, 1) := by decide +kernel
theorem d_W_law_207 : decode code 207 = .ok (.iload 5, 2) := by decide +kernel
theorem d_W_law_209 : decode code 209 = .ok (.iconst 1, 1) := by decide +kernel
theorem d_W_law_210 : decode code 210 = .ok (.iadd, 1) := by decide +kernel
theorem d_W_law_211 : decode code 211 = .ok (.iaload, 1) := by decide +kernel
theorem d_W_law_212 : decode code 212 = .ok (.invokevirtual 84, 3) := by decide +kernel
theorem d_W_law_215 : decode code 215 = .ok (.istore 7, 2) := by decide +kernel
theorem d_W_law_217 : decode code 217 = .ok (.aload_n 2, 1) := by decide +kernel
theorem d_W_law_218 : decode code 218 = .ok (.invokevirtual 78, 3) := by decide +kernel
theorem d_W_law_221 : decode code 221 = .ok (.iload 6, 2) := by decide +kernel
theorem d_W_law_223 : decode code 223 = .ok (.if_icmp .eq 5, 3) := by decide +kernel
theorem d_W_law_226 : decode code 226 = .ok (.iconst 0, 1) := by decide +kernel
theorem d_W_law_227 : decode code 227 = .ok (.ireturn, 1) := by decide +kernel
theorem d_W_law_228 : decode code 228 = .ok (.iload 6, 2) := by decide +kernel
theorem d_W_law_230 : decode code 230 = .ok (.ifCond .ne 15, 3) := by decide +kernel
theorem d_W_law_233 : decode code 233 = .ok (.aload_n 3, 1) := by decide +kernel
theorem d_W_law_234 : decode code 234 = .ok (.iconst 0, 1) := by decide +kernel
theorem d_W_law_235 : decode code 235 = .ok (.laload, 1) := by decide +kernel
theorem d_W_law_236 : decode code 236 = .ok (.iload 7, 2) := by decide +kernel
theorem d_W_law_238 : decode code 238 = .ok (.i2l, 1) := by decide +kernel
theorem d_W_law_239 : decode code 239 = .ok (.lcmp, 1) := by decide +kernel
theorem d_W_law_240 : decode code 240 = .ok (.ifCond .eq 5, 3) := by decide +kernel
theorem d_W_law_243 : decode code 243 = .ok (.iconst 0, 1) := by decide +kernel
theorem d_W_law_244 : decode code 244 = .ok (.ireturn, 1) := by decide +kernel
theorem d_W_law_245 : decode code 245 = .ok (.goto 738, 3) := by decide +kernel
theorem d_W_law_248 : decode code 248 = .ok (.aload_n 1, 1) := by decide +kernel
theorem d_W_law_249 : decode code 249 = .ok (.aload_n 3, 1) := by decide +kernel
theorem d_W_law_250 : decode code 250 = .ok (.invokestatic 85, 3) := by decide +kernel
theorem d_W_law_253 : decode code 253 = .ok (.istore 6, 2) := by decide +kernel
theorem d_W_law_255 : decode code 255 = .ok (.aload_n 2, 1) := by decide +kernel
theorem d_W_law_256 : decode code 256 = .ok (.invokevirtual 88, 3) := by decide +kernel
theorem d_W_law_259 : decode code 259 = .ok (.istore 7, 2) := by decide +kernel
theorem d_W_law_261 : decode code 261 = .ok (.aload_n 2, 1) := by decide +kernel
theorem d_W_law_262 : decode code 262 = .ok (.invokevirtual 78, 3) := by decide +kernel
theorem d_W_law_265 : decode code 265 = .ok (.iload 6, 2) := by decide +kernel
theorem d_W_law_267 : decode code 267 = .ok (.if_icmp .eq 5, 3) := by decide +kernel
theorem d_W_law_270 : decode code 270 = .ok (.iconst 0, 1) := by decide +kernel
theorem d_W_law_271 : decode code 271 = .ok (.ireturn, 1) := by decide +kernel
theorem d_W_law_272 : decode code 272 = .ok (.iload 6, 2) := by decide +kernel
theorem d_W_law_274 : decode code 274 = .ok (.ifCond .ne 15, 3) := by decide +kernel
theorem d_W_law_277 : decode code 277 = .ok (.aload_n 3, 1) := by decide +kernel
theorem d_W_law_278 : decode code 278 = .ok (.iconst 0, 1) := by decide +kernel
theorem d_W_law_279 : decode code 279 = .ok (.laload, 1) := by decide +kernel
theorem d_W_law_280 : decode code 280 = .ok (.iload 7, 2) := by decide +kernel
theorem d_W_law_282 : decode code 282 = .ok (.i2l, 1) := by decide +kernel
theorem d_W_law_283 : decode code 283 = .ok (.lcmp, 1) := by decide +kernel
theorem d_W_law_284 : decode code 284 = .ok (.ifCond .eq 5, 3) := by decide +kernel
theorem d_W_law_287 : decode code 287 = .ok (.iconst 0, 1) := by decide +kernel
theorem d_W_law_288 : decode code 288 = .ok (.ireturn, 1) := by decide +kernel
theorem d_W_law_289 : decode code 289 = .ok (.goto 694, 3) := by decide +kernel
theorem d_W_law_292 : decode code 292 = .ok (.aload_n 1, 1) := by decide +kernel
theorem d_W_law_293 : decode code 293 = .ok (.aload_n 0, 1) := by decide +kernel
theorem d_W_law_294 : decode code 294 = .ok (.iload 5, 2) := by decide +kernel
theorem d_W_law_296 : decode code 296 = .ok (.iconst 1, 1) := by decide +kernel
theorem d_W_law_297 : decode code 297 = .ok (.iadd, 1) := by decide +kernel
theorem d_W_law_298 : decode code 298 = .ok (.iaload, 1) := by decide +kernel
theorem d_W_law_299 : decode code 299 = .ok (.ifCond .eq 7, 3) := by decide +kernel
theorem d_W_law_302 : decode code 302 = .ok (.iconst 1, 1) := by decide +kernel
theorem d_W_law_303 : decode code 303 = .ok (.goto 4, 3) := by decide +kernel
theorem d_W_law_306 : decode code 306 = .ok (.iconst 0, 1) := by decide +kernel
theorem d_W_law_307 : decode code 307 = .ok (.aload_n 3, 1) := by decide +kernel
theorem d_W_law_308 : decode code 308 = .ok (.invokestatic 89, 3) := by decide +kernel
theorem d_W_law_311 : decode code 311 = .ok (.istore 6, 2) := by decide +kernel
theorem d_W_law_313 : decode code 313 = .ok (.aload_n 2, 1) := by decide +kernel
theorem d_W_law_314 : decode code 314 = .ok (.aload_n 0, 1) := by decide +kernel
theorem d_W_law_315 : decode code 315 = .ok (.iload 5, 2) := by decide +kernel
theorem d_W_law_317 : decode code 317 = .ok (.iconst 1, 1) := by decide +kernel
