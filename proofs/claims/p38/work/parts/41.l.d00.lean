theorem dq_41_l_0 : (decode cL_law 0 = .ok (.new 7, 3)) ∧ (decode cL_law 3 = .ok (.dup, 1)) ∧ (decode cL_law 4 = .ok (.invokespecial 9, 3)) ∧ (decode cL_law 7 = .ok (.astore_n 1, 1)) ∧ (decode cL_law 8 = .ok (.new 10, 3)) ∧ (decode cL_law 11 = .ok (.dup, 1)) ∧ (decode cL_law 12 = .ok (.invokespecial 12, 3)) ∧ (decode cL_law 15 = .ok (.astore_n 2, 1)) ∧ (decode cL_law 16 = .ok (.iconst 0, 1)) ∧ (decode cL_law 17 = .ok (.istore_n 3, 1)) := by decide +kernel
theorem dL_law_0 : decode cL_law 0 = .ok (.new 7, 3) := dq_41_l_0.1
theorem dL_law_3 : decode cL_law 3 = .ok (.dup, 1) := dq_41_l_0.2.1
theorem dL_law_4 : decode cL_law 4 = .ok (.invokespecial 9, 3) := dq_41_l_0.2.2.1
theorem dL_law_7 : decode cL_law 7 = .ok (.astore_n 1, 1) := dq_41_l_0.2.2.2.1
theorem dL_law_8 : decode cL_law 8 = .ok (.new 10, 3) := dq_41_l_0.2.2.2.2.1
theorem dL_law_11 : decode cL_law 11 = .ok (.dup, 1) := dq_41_l_0.2.2.2.2.2.1
theorem dL_law_12 : decode cL_law 12 = .ok (.invokespecial 12, 3) := dq_41_l_0.2.2.2.2.2.2.1
theorem dL_law_15 : decode cL_law 15 = .ok (.astore_n 2, 1) := dq_41_l_0.2.2.2.2.2.2.2.1
theorem dL_law_16 : decode cL_law 16 = .ok (.iconst 0, 1) := dq_41_l_0.2.2.2.2.2.2.2.2.1
theorem dL_law_17 : decode cL_law 17 = .ok (.istore_n 3, 1) := dq_41_l_0.2.2.2.2.2.2.2.2.2
theorem dq_41_l_10 : (decode cL_law 18 = .ok (.iload_n 3, 1)) ∧ (decode cL_law 19 = .ok (.aload_n 0, 1)) ∧ (decode cL_law 20 = .ok (.arraylength, 1)) ∧ (decode cL_law 21 = .ok (.bipush 7, 2)) ∧ (decode cL_law 23 = .ok (.isub, 1)) ∧ (decode cL_law 24 = .ok (.if_icmp .gt 1860, 3)) ∧ (decode cL_law 27 = .ok (.aload_n 0, 1)) ∧ (decode cL_law 28 = .ok (.iload_n 3, 1)) ∧ (decode cL_law 29 = .ok (.iaload, 1)) ∧ (decode cL_law 30 = .ok (.bipush 63, 2)) := by decide +kernel
theorem dL_law_18 : decode cL_law 18 = .ok (.iload_n 3, 1) := dq_41_l_10.1
theorem dL_law_19 : decode cL_law 19 = .ok (.aload_n 0, 1) := dq_41_l_10.2.1
theorem dL_law_20 : decode cL_law 20 = .ok (.arraylength, 1) := dq_41_l_10.2.2.1
theorem dL_law_21 : decode cL_law 21 = .ok (.bipush 7, 2) := dq_41_l_10.2.2.2.1
theorem dL_law_23 : decode cL_law 23 = .ok (.isub, 1) := dq_41_l_10.2.2.2.2.1
theorem dL_law_24 : decode cL_law 24 = .ok (.if_icmp .gt 1860, 3) := dq_41_l_10.2.2.2.2.2.1
theorem dL_law_27 : decode cL_law 27 = .ok (.aload_n 0, 1) := dq_41_l_10.2.2.2.2.2.2.1
theorem dL_law_28 : decode cL_law 28 = .ok (.iload_n 3, 1) := dq_41_l_10.2.2.2.2.2.2.2.1
theorem dL_law_29 : decode cL_law 29 = .ok (.iaload, 1) := dq_41_l_10.2.2.2.2.2.2.2.2.1
theorem dL_law_30 : decode cL_law 30 = .ok (.bipush 63, 2) := dq_41_l_10.2.2.2.2.2.2.2.2.2
theorem dq_41_l_20 : (decode cL_law 32 = .ok (.iand, 1)) ∧ (decode cL_law 33 = .ok (.tableswitch 1845 0 39 #[175, 218, 261, 294, 317, 360, 383, 426, 517, 580, 603, 626, 689, 764, 817, 840, 873, 906, 949, 1012, 1055, 1098, 1151, 1194, 1257, 1290, 1323, 1366, 1409, 1452, 1485, 1548, 1561, 1594, 1637, 1700, 1743, 1776, 1799, 1822], 175)) ∧ (decode cL_law 208 = .ok (.aload_n 1, 1)) ∧ (decode cL_law 209 = .ok (.aload_n 0, 1)) ∧ (decode cL_law 210 = .ok (.iload_n 3, 1)) ∧ (decode cL_law 211 = .ok (.iconst 1, 1)) ∧ (decode cL_law 212 = .ok (.iadd, 1)) ∧ (decode cL_law 213 = .ok (.iaload, 1)) ∧ (decode cL_law 214 = .ok (.aload_n 0, 1)) ∧ (decode cL_law 215 = .ok (.iload_n 3, 1)) := by decide +kernel
theorem dL_law_32 : decode cL_law 32 = .ok (.iand, 1) := dq_41_l_20.1
theorem dL_law_33 : decode cL_law 33 = .ok (.tableswitch 1845 0 39 #[175, 218, 261, 294, 317, 360, 383, 426, 517, 580, 603, 626, 689, 764, 817, 840, 873, 906, 949, 1012, 1055, 1098, 1151, 1194, 1257, 1290, 1323, 1366, 1409, 1452, 1485, 1548, 1561, 1594, 1637, 1700, 1743, 1776, 1799, 1822], 175) := dq_41_l_20.2.1
theorem dL_law_208 : decode cL_law 208 = .ok (.aload_n 1, 1) := dq_41_l_20.2.2.1
theorem dL_law_209 : decode cL_law 209 = .ok (.aload_n 0, 1) := dq_41_l_20.2.2.2.1
theorem dL_law_210 : decode cL_law 210 = .ok (.iload_n 3, 1) := dq_41_l_20.2.2.2.2.1
theorem dL_law_211 : decode cL_law 211 = .ok (.iconst 1, 1) := dq_41_l_20.2.2.2.2.2.1
theorem dL_law_212 : decode cL_law 212 = .ok (.iadd, 1) := dq_41_l_20.2.2.2.2.2.2.1
theorem dL_law_213 : decode cL_law 213 = .ok (.iaload, 1) := dq_41_l_20.2.2.2.2.2.2.2.1
theorem dL_law_214 : decode cL_law 214 = .ok (.aload_n 0, 1) := dq_41_l_20.2.2.2.2.2.2.2.2.1
theorem dL_law_215 : decode cL_law 215 = .ok (.iload_n 3, 1) := dq_41_l_20.2.2.2.2.2.2.2.2.2
theorem dq_41_l_30 : (decode cL_law 216 = .ok (.iconst 2, 1)) ∧ (decode cL_law 217 = .ok (.iadd, 1)) ∧ (decode cL_law 218 = .ok (.iaload, 1)) ∧ (decode cL_law 219 = .ok (.aload_n 0, 1)) ∧ (decode cL_law 220 = .ok (.iload_n 3, 1)) ∧ (decode cL_law 221 = .ok (.iconst 3, 1)) ∧ (decode cL_law 222 = .ok (.iadd, 1)) ∧ (decode cL_law 223 = .ok (.iaload, 1)) ∧ (decode cL_law 224 = .ok (.invokevirtual 13, 3)) ∧ (decode cL_law 227 = .ok (.pop, 1)) := by decide +kernel
theorem dL_law_216 : decode cL_law 216 = .ok (.iconst 2, 1) := dq_41_l_30.1
theorem dL_law_217 : decode cL_law 217 = .ok (.iadd, 1) := dq_41_l_30.2.1
theorem dL_law_218 : decode cL_law 218 = .ok (.iaload, 1) := dq_41_l_30.2.2.1
theorem dL_law_219 : decode cL_law 219 = .ok (.aload_n 0, 1) := dq_41_l_30.2.2.2.1
theorem dL_law_220 : decode cL_law 220 = .ok (.iload_n 3, 1) := dq_41_l_30.2.2.2.2.1
theorem dL_law_221 : decode cL_law 221 = .ok (.iconst 3, 1) := dq_41_l_30.2.2.2.2.2.1
theorem dL_law_222 : decode cL_law 222 = .ok (.iadd, 1) := dq_41_l_30.2.2.2.2.2.2.1
theorem dL_law_223 : decode cL_law 223 = .ok (.iaload, 1) := dq_41_l_30.2.2.2.2.2.2.2.1
theorem dL_law_224 : decode cL_law 224 = .ok (.invokevirtual 13, 3) := dq_41_l_30.2.2.2.2.2.2.2.2.1
theorem dL_law_227 : decode cL_law 227 = .ok (.pop, 1) := dq_41_l_30.2.2.2.2.2.2.2.2.2
theorem dq_41_l_40 : (decode cL_law 228 = .ok (.aload_n 2, 1)) ∧ (decode cL_law 229 = .ok (.aload_n 0, 1)) ∧ (decode cL_law 230 = .ok (.iload_n 3, 1)) ∧ (decode cL_law 231 = .ok (.iconst 1, 1)) ∧ (decode cL_law 232 = .ok (.iadd, 1)) ∧ (decode cL_law 233 = .ok (.iaload, 1)) ∧ (decode cL_law 234 = .ok (.aload_n 0, 1)) ∧ (decode cL_law 235 = .ok (.iload_n 3, 1)) ∧ (decode cL_law 236 = .ok (.iconst 2, 1)) ∧ (decode cL_law 237 = .ok (.iadd, 1)) := by decide +kernel
theorem dL_law_228 : decode cL_law 228 = .ok (.aload_n 2, 1) := dq_41_l_40.1
theorem dL_law_229 : decode cL_law 229 = .ok (.aload_n 0, 1) := dq_41_l_40.2.1
theorem dL_law_230 : decode cL_law 230 = .ok (.iload_n 3, 1) := dq_41_l_40.2.2.1
theorem dL_law_231 : decode cL_law 231 = .ok (.iconst 1, 1) := dq_41_l_40.2.2.2.1
theorem dL_law_232 : decode cL_law 232 = .ok (.iadd, 1) := dq_41_l_40.2.2.2.2.1
theorem dL_law_233 : decode cL_law 233 = .ok (.iaload, 1) := dq_41_l_40.2.2.2.2.2.1
theorem dL_law_234 : decode cL_law 234 = .ok (.aload_n 0, 1) := dq_41_l_40.2.2.2.2.2.2.1
theorem dL_law_235 : decode cL_law 235 = .ok (.iload_n 3, 1) := dq_41_l_40.2.2.2.2.2.2.2.1
theorem dL_law_236 : decode cL_law 236 = .ok (.iconst 2, 1) := dq_41_l_40.2.2.2.2.2.2.2.2.1
theorem dL_law_237 : decode cL_law 237 = .ok (.iadd, 1) := dq_41_l_40.2.2.2.2.2.2.2.2.2
theorem dq_41_l_50 : (decode cL_law 238 = .ok (.iaload, 1)) ∧ (decode cL_law 239 = .ok (.aload_n 0, 1)) ∧ (decode cL_law 240 = .ok (.iload_n 3, 1)) ∧ (decode cL_law 241 = .ok (.iconst 3, 1)) ∧ (decode cL_law 242 = .ok (.iadd, 1)) ∧ (decode cL_law 243 = .ok (.iaload, 1)) ∧ (decode cL_law 244 = .ok (.invokevirtual 17, 3)) ∧ (decode cL_law 247 = .ok (.pop, 1)) ∧ (decode cL_law 248 = .ok (.goto 1630, 3)) ∧ (decode cL_law 251 = .ok (.aload_n 1, 1)) := by decide +kernel
theorem dL_law_238 : decode cL_law 238 = .ok (.iaload, 1) := dq_41_l_50.1
theorem dL_law_239 : decode cL_law 239 = .ok (.aload_n 0, 1) := dq_41_l_50.2.1
theorem dL_law_240 : decode cL_law 240 = .ok (.iload_n 3, 1) := dq_41_l_50.2.2.1
theorem dL_law_241 : decode cL_law 241 = .ok (.iconst 3, 1) := dq_41_l_50.2.2.2.1
theorem dL_law_242 : decode cL_law 242 = .ok (.iadd, 1) := dq_41_l_50.2.2.2.2.1
theorem dL_law_243 : decode cL_law 243 = .ok (.iaload, 1) := dq_41_l_50.2.2.2.2.2.1
theorem dL_law_244 : decode cL_law 244 = .ok (.invokevirtual 17, 3) := dq_41_l_50.2.2.2.2.2.2.1
theorem dL_law_247 : decode cL_law 247 = .ok (.pop, 1) := dq_41_l_50.2.2.2.2.2.2.2.1
theorem dL_law_248 : decode cL_law 248 = .ok (.goto 1630, 3) := dq_41_l_50.2.2.2.2.2.2.2.2.1
theorem dL_law_251 : decode cL_law 251 = .ok (.aload_n 1, 1) := dq_41_l_50.2.2.2.2.2.2.2.2.2
theorem dq_41_l_60 : (decode cL_law 252 = .ok (.aload_n 0, 1)) ∧ (decode cL_law 253 = .ok (.iload_n 3, 1)) ∧ (decode cL_law 254 = .ok (.iconst 1, 1)) ∧ (decode cL_law 255 = .ok (.iadd, 1)) ∧ (decode cL_law 256 = .ok (.iaload, 1)) ∧ (decode cL_law 257 = .ok (.aload_n 0, 1)) ∧ (decode cL_law 258 = .ok (.iload_n 3, 1)) ∧ (decode cL_law 259 = .ok (.iconst 2, 1)) ∧ (decode cL_law 260 = .ok (.iadd, 1)) ∧ (decode cL_law 261 = .ok (.iaload, 1)) := by decide +kernel
theorem dL_law_252 : decode cL_law 252 = .ok (.aload_n 0, 1) := dq_41_l_60.1
theorem dL_law_253 : decode cL_law 253 = .ok (.iload_n 3, 1) := dq_41_l_60.2.1
theorem dL_law_254 : decode cL_law 254 = .ok (.iconst 1, 1) := dq_41_l_60.2.2.1
theorem dL_law_255 : decode cL_law 255 = .ok (.iadd, 1) := dq_41_l_60.2.2.2.1
theorem dL_law_256 : decode cL_law 256 = .ok (.iaload, 1) := dq_41_l_60.2.2.2.2.1
theorem dL_law_257 : decode cL_law 257 = .ok (.aload_n 0, 1) := dq_41_l_60.2.2.2.2.2.1
theorem dL_law_258 : decode cL_law 258 = .ok (.iload_n 3, 1) := dq_41_l_60.2.2.2.2.2.2.1
theorem dL_law_259 : decode cL_law 259 = .ok (.iconst 2, 1) := dq_41_l_60.2.2.2.2.2.2.2.1
theorem dL_law_260 : decode cL_law 260 = .ok (.iadd, 1) := dq_41_l_60.2.2.2.2.2.2.2.2.1
theorem dL_law_261 : decode cL_law 261 = .ok (.iaload, 1) := dq_41_l_60.2.2.2.2.2.2.2.2.2
theorem dq_41_l_70 : (decode cL_law 262 = .ok (.aload_n 0, 1)) ∧ (decode cL_law 263 = .ok (.iload_n 3, 1)) ∧ (decode cL_law 264 = .ok (.iconst 3, 1)) ∧ (decode cL_law 265 = .ok (.iadd, 1)) ∧ (decode cL_law 266 = .ok (.iaload, 1)) ∧ (decode cL_law 267 = .ok (.invokevirtual 18, 3)) ∧ (decode cL_law 270 = .ok (.pop, 1)) ∧ (decode cL_law 271 = .ok (.aload_n 2, 1)) ∧ (decode cL_law 272 = .ok (.aload_n 0, 1)) ∧ (decode cL_law 273 = .ok (.iload_n 3, 1)) := by decide +kernel
theorem dL_law_262 : decode cL_law 262 = .ok (.aload_n 0, 1) := dq_41_l_70.1
theorem dL_law_263 : decode cL_law 263 = .ok (.iload_n 3, 1) := dq_41_l_70.2.1
theorem dL_law_264 : decode cL_law 264 = .ok (.iconst 3, 1) := dq_41_l_70.2.2.1
theorem dL_law_265 : decode cL_law 265 = .ok (.iadd, 1) := dq_41_l_70.2.2.2.1
theorem dL_law_266 : decode cL_law 266 = .ok (.iaload, 1) := dq_41_l_70.2.2.2.2.1
theorem dL_law_267 : decode cL_law 267 = .ok (.invokevirtual 18, 3) := dq_41_l_70.2.2.2.2.2.1
theorem dL_law_270 : decode cL_law 270 = .ok (.pop, 1) := dq_41_l_70.2.2.2.2.2.2.1
theorem dL_law_271 : decode cL_law 271 = .ok (.aload_n 2, 1) := dq_41_l_70.2.2.2.2.2.2.2.1
theorem dL_law_272 : decode cL_law 272 = .ok (.aload_n 0, 1) := dq_41_l_70.2.2.2.2.2.2.2.2.1
theorem dL_law_273 : decode cL_law 273 = .ok (.iload_n 3, 1) := dq_41_l_70.2.2.2.2.2.2.2.2.2
theorem dq_41_l_80 : (decode cL_law 274 = .ok (.iconst 1, 1)) ∧ (decode cL_law 275 = .ok (.iadd, 1)) ∧ (decode cL_law 276 = .ok (.iaload, 1)) ∧ (decode cL_law 277 = .ok (.aload_n 0, 1)) ∧ (decode cL_law 278 = .ok (.iload_n 3, 1)) ∧ (decode cL_law 279 = .ok (.iconst 2, 1)) ∧ (decode cL_law 280 = .ok (.iadd, 1)) ∧ (decode cL_law 281 = .ok (.iaload, 1)) ∧ (decode cL_law 282 = .ok (.aload_n 0, 1)) ∧ (decode cL_law 283 = .ok (.iload_n 3, 1)) := by decide +kernel
theorem dL_law_274 : decode cL_law 274 = .ok (.iconst 1, 1) := dq_41_l_80.1
theorem dL_law_275 : decode cL_law 275 = .ok (.iadd, 1) := dq_41_l_80.2.1
theorem dL_law_276 : decode cL_law 276 = .ok (.iaload, 1) := dq_41_l_80.2.2.1
theorem dL_law_277 : decode cL_law 277 = .ok (.aload_n 0, 1) := dq_41_l_80.2.2.2.1
theorem dL_law_278 : decode cL_law 278 = .ok (.iload_n 3, 1) := dq_41_l_80.2.2.2.2.1
theorem dL_law_279 : decode cL_law 279 = .ok (.iconst 2, 1) := dq_41_l_80.2.2.2.2.2.1
theorem dL_law_280 : decode cL_law 280 = .ok (.iadd, 1) := dq_41_l_80.2.2.2.2.2.2.1
theorem dL_law_281 : decode cL_law 281 = .ok (.iaload, 1) := dq_41_l_80.2.2.2.2.2.2.2.1
theorem dL_law_282 : decode cL_law 282 = .ok (.aload_n 0, 1) := dq_41_l_80.2.2.2.2.2.2.2.2.1
theorem dL_law_283 : decode cL_law 283 = .ok (.iload_n 3, 1) := dq_41_l_80.2.2.2.2.2.2.2.2.2
theorem dq_41_l_90 : (decode cL_law 284 = .ok (.iconst 3, 1)) ∧ (decode cL_law 285 = .ok (.iadd, 1)) ∧ (decode cL_law 286 = .ok (.iaload, 1)) ∧ (decode cL_law 287 = .ok (.invokevirtual 21, 3)) ∧ (decode cL_law 290 = .ok (.pop, 1)) ∧ (decode cL_law 291 = .ok (.goto 1587, 3)) ∧ (decode cL_law 294 = .ok (.aload_n 1, 1)) ∧ (decode cL_law 295 = .ok (.aload_n 0, 1)) ∧ (decode cL_law 296 = .ok (.iload_n 3, 1)) ∧ (decode cL_law 297 = .ok (.iconst 1, 1)) := by decide +kernel
theorem dL_law_284 : decode cL_law 284 = .ok (.iconst 3, 1) := dq_41_l_90.1
theorem dL_law_285 : decode cL_law 285 = .ok (.iadd, 1) := dq_41_l_90.2.1
theorem dL_law_286 : decode cL_law 286 = .ok (.iaload, 1) := dq_41_l_90.2.2.1
theorem dL_law_287 : decode cL_law 287 = .ok (.invokevirtual 21, 3) := dq_41_l_90.2.2.2.1
theorem dL_law_290 : decode cL_law 290 = .ok (.pop, 1) := dq_41_l_90.2.2.2.2.1
theorem dL_law_291 : decode cL_law 291 = .ok (.goto 1587, 3) := dq_41_l_90.2.2.2.2.2.1
theorem dL_law_294 : decode cL_law 294 = .ok (.aload_n 1, 1) := dq_41_l_90.2.2.2.2.2.2.1
theorem dL_law_295 : decode cL_law 295 = .ok (.aload_n 0, 1) := dq_41_l_90.2.2.2.2.2.2.2.1
theorem dL_law_296 : decode cL_law 296 = .ok (.iload_n 3, 1) := dq_41_l_90.2.2.2.2.2.2.2.2.1
theorem dL_law_297 : decode cL_law 297 = .ok (.iconst 1, 1) := dq_41_l_90.2.2.2.2.2.2.2.2.2
theorem dq_41_l_100 : (decode cL_law 298 = .ok (.iadd, 1)) ∧ (decode cL_law 299 = .ok (.iaload, 1)) ∧ (decode cL_law 300 = .ok (.aload_n 0, 1)) ∧ (decode cL_law 301 = .ok (.iload_n 3, 1)) ∧ (decode cL_law 302 = .ok (.iconst 2, 1)) ∧ (decode cL_law 303 = .ok (.iadd, 1)) ∧ (decode cL_law 304 = .ok (.iaload, 1)) ∧ (decode cL_law 305 = .ok (.invokevirtual 22, 3)) ∧ (decode cL_law 308 = .ok (.pop, 1)) ∧ (decode cL_law 309 = .ok (.aload_n 2, 1)) := by decide +kernel
theorem dL_law_298 : decode cL_law 298 = .ok (.iadd, 1) := dq_41_l_100.1
theorem dL_law_299 : decode cL_law 299 = .ok (.iaload, 1) := dq_41_l_100.2.1
theorem dL_law_300 : decode cL_law 300 = .ok (.aload_n 0, 1) := dq_41_l_100.2.2.1
theorem dL_law_301 : decode cL_law 301 = .ok (.iload_n 3, 1) := dq_41_l_100.2.2.2.1
theorem dL_law_302 : decode cL_law 302 = .ok (.iconst 2, 1) := dq_41_l_100.2.2.2.2.1
theorem dL_law_303 : decode cL_law 303 = .ok (.iadd, 1) := dq_41_l_100.2.2.2.2.2.1
theorem dL_law_304 : decode cL_law 304 = .ok (.iaload, 1) := dq_41_l_100.2.2.2.2.2.2.1
theorem dL_law_305 : decode cL_law 305 = .ok (.invokevirtual 22, 3) := dq_41_l_100.2.2.2.2.2.2.2.1
theorem dL_law_308 : decode cL_law 308 = .ok (.pop, 1) := dq_41_l_100.2.2.2.2.2.2.2.2.1
theorem dL_law_309 : decode cL_law 309 = .ok (.aload_n 2, 1) := dq_41_l_100.2.2.2.2.2.2.2.2.2
theorem dq_41_l_110 : (decode cL_law 310 = .ok (.aload_n 0, 1)) ∧ (decode cL_law 311 = .ok (.iload_n 3, 1)) ∧ (decode cL_law 312 = .ok (.iconst 1, 1)) ∧ (decode cL_law 313 = .ok (.iadd, 1)) ∧ (decode cL_law 314 = .ok (.iaload, 1)) ∧ (decode cL_law 315 = .ok (.aload_n 0, 1)) ∧ (decode cL_law 316 = .ok (.iload_n 3, 1)) ∧ (decode cL_law 317 = .ok (.iconst 2, 1)) ∧ (decode cL_law 318 = .ok (.iadd, 1)) ∧ (decode cL_law 319 = .ok (.iaload, 1)) := by decide +kernel
theorem dL_law_310 : decode cL_law 310 = .ok (.aload_n 0, 1) := dq_41_l_110.1
theorem dL_law_311 : decode cL_law 311 = .ok (.iload_n 3, 1) := dq_41_l_110.2.1
theorem dL_law_312 : decode cL_law 312 = .ok (.iconst 1, 1) := dq_41_l_110.2.2.1
theorem dL_law_313 : decode cL_law 313 = .ok (.iadd, 1) := dq_41_l_110.2.2.2.1
theorem dL_law_314 : decode cL_law 314 = .ok (.iaload, 1) := dq_41_l_110.2.2.2.2.1
theorem dL_law_315 : decode cL_law 315 = .ok (.aload_n 0, 1) := dq_41_l_110.2.2.2.2.2.1
theorem dL_law_316 : decode cL_law 316 = .ok (.iload_n 3, 1) := dq_41_l_110.2.2.2.2.2.2.1
theorem dL_law_317 : decode cL_law 317 = .ok (.iconst 2, 1) := dq_41_l_110.2.2.2.2.2.2.2.1
theorem dL_law_318 : decode cL_law 318 = .ok (.iadd, 1) := dq_41_l_110.2.2.2.2.2.2.2.2.1
theorem dL_law_319 : decode cL_law 319 = .ok (.iaload, 1) := dq_41_l_110.2.2.2.2.2.2.2.2.2
theorem dq_41_l_120 : (decode cL_law 320 = .ok (.invokevirtual 26, 3)) ∧ (decode cL_law 323 = .ok (.pop, 1)) ∧ (decode cL_law 324 = .ok (.goto 1554, 3)) ∧ (decode cL_law 327 = .ok (.aload_n 1, 1)) ∧ (decode cL_law 328 = .ok (.aload_n 0, 1)) ∧ (decode cL_law 329 = .ok (.iload_n 3, 1)) ∧ (decode cL_law 330 = .ok (.iconst 1, 1)) ∧ (decode cL_law 331 = .ok (.iadd, 1)) ∧ (decode cL_law 332 = .ok (.iaload, 1)) ∧ (decode cL_law 333 = .ok (.invokevirtual 27, 3)) := by decide +kernel
theorem dL_law_320 : decode cL_law 320 = .ok (.invokevirtual 26, 3) := dq_41_l_120.1
theorem dL_law_323 : decode cL_law 323 = .ok (.pop, 1) := dq_41_l_120.2.1
theorem dL_law_324 : decode cL_law 324 = .ok (.goto 1554, 3) := dq_41_l_120.2.2.1
theorem dL_law_327 : decode cL_law 327 = .ok (.aload_n 1, 1) := dq_41_l_120.2.2.2.1
theorem dL_law_328 : decode cL_law 328 = .ok (.aload_n 0, 1) := dq_41_l_120.2.2.2.2.1
theorem dL_law_329 : decode cL_law 329 = .ok (.iload_n 3, 1) := dq_41_l_120.2.2.2.2.2.1
theorem dL_law_330 : decode cL_law 330 = .ok (.iconst 1, 1) := dq_41_l_120.2.2.2.2.2.2.1
theorem dL_law_331 : decode cL_law 331 = .ok (.iadd, 1) := dq_41_l_120.2.2.2.2.2.2.2.1
theorem dL_law_332 : decode cL_law 332 = .ok (.iaload, 1) := dq_41_l_120.2.2.2.2.2.2.2.2.1
theorem dL_law_333 : decode cL_law 333 = .ok (.invokevirtual 27, 3) := dq_41_l_120.2.2.2.2.2.2.2.2.2
theorem dq_41_l_130 : (decode cL_law 336 = .ok (.pop, 1)) ∧ (decode cL_law 337 = .ok (.aload_n 2, 1)) ∧ (decode cL_law 338 = .ok (.aload_n 0, 1)) ∧ (decode cL_law 339 = .ok (.iload_n 3, 1)) ∧ (decode cL_law 340 = .ok (.iconst 1, 1)) ∧ (decode cL_law 341 = .ok (.iadd, 1)) ∧ (decode cL_law 342 = .ok (.iaload, 1)) ∧ (decode cL_law 343 = .ok (.invokevirtual 31, 3)) ∧ (decode cL_law 346 = .ok (.pop, 1)) ∧ (decode cL_law 347 = .ok (.goto 1531, 3)) := by decide +kernel
theorem dL_law_336 : decode cL_law 336 = .ok (.pop, 1) := dq_41_l_130.1
theorem dL_law_337 : decode cL_law 337 = .ok (.aload_n 2, 1) := dq_41_l_130.2.1
theorem dL_law_338 : decode cL_law 338 = .ok (.aload_n 0, 1) := dq_41_l_130.2.2.1
theorem dL_law_339 : decode cL_law 339 = .ok (.iload_n 3, 1) := dq_41_l_130.2.2.2.1
theorem dL_law_340 : decode cL_law 340 = .ok (.iconst 1, 1) := dq_41_l_130.2.2.2.2.1
theorem dL_law_341 : decode cL_law 341 = .ok (.iadd, 1) := dq_41_l_130.2.2.2.2.2.1
theorem dL_law_342 : decode cL_law 342 = .ok (.iaload, 1) := dq_41_l_130.2.2.2.2.2.2.1
theorem dL_law_343 : decode cL_law 343 = .ok (.invokevirtual 31, 3) := dq_41_l_130.2.2.2.2.2.2.2.1
theorem dL_law_346 : decode cL_law 346 = .ok (.pop, 1) := dq_41_l_130.2.2.2.2.2.2.2.2.1
theorem dL_law_347 : decode cL_law 347 = .ok (.goto 1531, 3) := dq_41_l_130.2.2.2.2.2.2.2.2.2
theorem dq_41_l_140 : (decode cL_law 350 = .ok (.aload_n 1, 1)) ∧ (decode cL_law 351 = .ok (.aload_n 0, 1)) ∧ (decode cL_law 352 = .ok (.iload_n 3, 1)) ∧ (decode cL_law 353 = .ok (.iconst 1, 1)) ∧ (decode cL_law 354 = .ok (.iadd, 1)) ∧ (decode cL_law 355 = .ok (.iaload, 1)) ∧ (decode cL_law 356 = .ok (.aload_n 0, 1)) ∧ (decode cL_law 357 = .ok (.iload_n 3, 1)) ∧ (decode cL_law 358 = .ok (.iconst 2, 1)) ∧ (decode cL_law 359 = .ok (.iadd, 1)) := by decide +kernel
theorem dL_law_350 : decode cL_law 350 = .ok (.aload_n 1, 1) := dq_41_l_140.1
theorem dL_law_351 : decode cL_law 351 = .ok (.aload_n 0, 1) := dq_41_l_140.2.1
theorem dL_law_352 : decode cL_law 352 = .ok (.iload_n 3, 1) := dq_41_l_140.2.2.1
theorem dL_law_353 : decode cL_law 353 = .ok (.iconst 1, 1) := dq_41_l_140.2.2.2.1
theorem dL_law_354 : decode cL_law 354 = .ok (.iadd, 1) := dq_41_l_140.2.2.2.2.1
theorem dL_law_355 : decode cL_law 355 = .ok (.iaload, 1) := dq_41_l_140.2.2.2.2.2.1
theorem dL_law_356 : decode cL_law 356 = .ok (.aload_n 0, 1) := dq_41_l_140.2.2.2.2.2.2.1
theorem dL_law_357 : decode cL_law 357 = .ok (.iload_n 3, 1) := dq_41_l_140.2.2.2.2.2.2.2.1
theorem dL_law_358 : decode cL_law 358 = .ok (.iconst 2, 1) := dq_41_l_140.2.2.2.2.2.2.2.2.1
theorem dL_law_359 : decode cL_law 359 = .ok (.iadd, 1) := dq_41_l_140.2.2.2.2.2.2.2.2.2
theorem dq_41_l_150 : (decode cL_law 360 = .ok (.iaload, 1)) ∧ (decode cL_law 361 = .ok (.aload_n 0, 1)) ∧ (decode cL_law 362 = .ok (.iload_n 3, 1)) ∧ (decode cL_law 363 = .ok (.iconst 3, 1)) ∧ (decode cL_law 364 = .ok (.iadd, 1)) ∧ (decode cL_law 365 = .ok (.iaload, 1)) ∧ (decode cL_law 366 = .ok (.invokevirtual 32, 3)) ∧ (decode cL_law 369 = .ok (.pop, 1)) ∧ (decode cL_law 370 = .ok (.aload_n 2, 1)) ∧ (decode cL_law 371 = .ok (.aload_n 0, 1)) := by decide +kernel
theorem dL_law_360 : decode cL_law 360 = .ok (.iaload, 1) := dq_41_l_150.1
theorem dL_law_361 : decode cL_law 361 = .ok (.aload_n 0, 1) := dq_41_l_150.2.1
theorem dL_law_362 : decode cL_law 362 = .ok (.iload_n 3, 1) := dq_41_l_150.2.2.1
theorem dL_law_363 : decode cL_law 363 = .ok (.iconst 3, 1) := dq_41_l_150.2.2.2.1
theorem dL_law_364 : decode cL_law 364 = .ok (.iadd, 1) := dq_41_l_150.2.2.2.2.1
theorem dL_law_365 : decode cL_law 365 = .ok (.iaload, 1) := dq_41_l_150.2.2.2.2.2.1
theorem dL_law_366 : decode cL_law 366 = .ok (.invokevirtual 32, 3) := dq_41_l_150.2.2.2.2.2.2.1
theorem dL_law_369 : decode cL_law 369 = .ok (.pop, 1) := dq_41_l_150.2.2.2.2.2.2.2.1
theorem dL_law_370 : decode cL_law 370 = .ok (.aload_n 2, 1) := dq_41_l_150.2.2.2.2.2.2.2.2.1
theorem dL_law_371 : decode cL_law 371 = .ok (.aload_n 0, 1) := dq_41_l_150.2.2.2.2.2.2.2.2.2
theorem dq_41_l_160 : (decode cL_law 372 = .ok (.iload_n 3, 1)) ∧ (decode cL_law 373 = .ok (.iconst 1, 1)) ∧ (decode cL_law 374 = .ok (.iadd, 1)) ∧ (decode cL_law 375 = .ok (.iaload, 1)) ∧ (decode cL_law 376 = .ok (.aload_n 0, 1)) ∧ (decode cL_law 377 = .ok (.iload_n 3, 1)) ∧ (decode cL_law 378 = .ok (.iconst 2, 1)) ∧ (decode cL_law 379 = .ok (.iadd, 1)) ∧ (decode cL_law 380 = .ok (.iaload, 1)) ∧ (decode cL_law 381 = .ok (.aload_n 0, 1)) := by decide +kernel
theorem dL_law_372 : decode cL_law 372 = .ok (.iload_n 3, 1) := dq_41_l_160.1
theorem dL_law_373 : decode cL_law 373 = .ok (.iconst 1, 1) := dq_41_l_160.2.1
theorem dL_law_374 : decode cL_law 374 = .ok (.iadd, 1) := dq_41_l_160.2.2.1
theorem dL_law_375 : decode cL_law 375 = .ok (.iaload, 1) := dq_41_l_160.2.2.2.1
theorem dL_law_376 : decode cL_law 376 = .ok (.aload_n 0, 1) := dq_41_l_160.2.2.2.2.1
theorem dL_law_377 : decode cL_law 377 = .ok (.iload_n 3, 1) := dq_41_l_160.2.2.2.2.2.1
theorem dL_law_378 : decode cL_law 378 = .ok (.iconst 2, 1) := dq_41_l_160.2.2.2.2.2.2.1
theorem dL_law_379 : decode cL_law 379 = .ok (.iadd, 1) := dq_41_l_160.2.2.2.2.2.2.2.1
theorem dL_law_380 : decode cL_law 380 = .ok (.iaload, 1) := dq_41_l_160.2.2.2.2.2.2.2.2.1
theorem dL_law_381 : decode cL_law 381 = .ok (.aload_n 0, 1) := dq_41_l_160.2.2.2.2.2.2.2.2.2
theorem dq_41_l_170 : (decode cL_law 382 = .ok (.iload_n 3, 1)) ∧ (decode cL_law 383 = .ok (.iconst 3, 1)) ∧ (decode cL_law 384 = .ok (.iadd, 1)) ∧ (decode cL_law 385 = .ok (.iaload, 1)) ∧ (decode cL_law 386 = .ok (.invokevirtual 36, 3)) ∧ (decode cL_law 389 = .ok (.pop, 1)) ∧ (decode cL_law 390 = .ok (.goto 1488, 3)) ∧ (decode cL_law 393 = .ok (.aload_n 1, 1)) ∧ (decode cL_law 394 = .ok (.aload_n 0, 1)) ∧ (decode cL_law 395 = .ok (.iload_n 3, 1)) := by decide +kernel
theorem dL_law_382 : decode cL_law 382 = .ok (.iload_n 3, 1) := dq_41_l_170.1
theorem dL_law_383 : decode cL_law 383 = .ok (.iconst 3, 1) := dq_41_l_170.2.1
theorem dL_law_384 : decode cL_law 384 = .ok (.iadd, 1) := dq_41_l_170.2.2.1
theorem dL_law_385 : decode cL_law 385 = .ok (.iaload, 1) := dq_41_l_170.2.2.2.1
theorem dL_law_386 : decode cL_law 386 = .ok (.invokevirtual 36, 3) := dq_41_l_170.2.2.2.2.1
theorem dL_law_389 : decode cL_law 389 = .ok (.pop, 1) := dq_41_l_170.2.2.2.2.2.1
theorem dL_law_390 : decode cL_law 390 = .ok (.goto 1488, 3) := dq_41_l_170.2.2.2.2.2.2.1
theorem dL_law_393 : decode cL_law 393 = .ok (.aload_n 1, 1) := dq_41_l_170.2.2.2.2.2.2.2.1
theorem dL_law_394 : decode cL_law 394 = .ok (.aload_n 0, 1) := dq_41_l_170.2.2.2.2.2.2.2.2.1
theorem dL_law_395 : decode cL_law 395 = .ok (.iload_n 3, 1) := dq_41_l_170.2.2.2.2.2.2.2.2.2
theorem dq_41_l_180 : (decode cL_law 396 = .ok (.iconst 1, 1)) ∧ (decode cL_law 397 = .ok (.iadd, 1)) ∧ (decode cL_law 398 = .ok (.iaload, 1)) ∧ (decode cL_law 399 = .ok (.invokevirtual 37, 3)) ∧ (decode cL_law 402 = .ok (.pop, 1)) ∧ (decode cL_law 403 = .ok (.aload_n 2, 1)) ∧ (decode cL_law 404 = .ok (.aload_n 0, 1)) ∧ (decode cL_law 405 = .ok (.iload_n 3, 1)) ∧ (decode cL_law 406 = .ok (.iconst 1, 1)) ∧ (decode cL_law 407 = .ok (.iadd, 1)) := by decide +kernel
theorem dL_law_396 : decode cL_law 396 = .ok (.iconst 1, 1) := dq_41_l_180.1
theorem dL_law_397 : decode cL_law 397 = .ok (.iadd, 1) := dq_41_l_180.2.1
theorem dL_law_398 : decode cL_law 398 = .ok (.iaload, 1) := dq_41_l_180.2.2.1
theorem dL_law_399 : decode cL_law 399 = .ok (.invokevirtual 37, 3) := dq_41_l_180.2.2.2.1
theorem dL_law_402 : decode cL_law 402 = .ok (.pop, 1) := dq_41_l_180.2.2.2.2.1
theorem dL_law_403 : decode cL_law 403 = .ok (.aload_n 2, 1) := dq_41_l_180.2.2.2.2.2.1
theorem dL_law_404 : decode cL_law 404 = .ok (.aload_n 0, 1) := dq_41_l_180.2.2.2.2.2.2.1
theorem dL_law_405 : decode cL_law 405 = .ok (.iload_n 3, 1) := dq_41_l_180.2.2.2.2.2.2.2.1
theorem dL_law_406 : decode cL_law 406 = .ok (.iconst 1, 1) := dq_41_l_180.2.2.2.2.2.2.2.2.1
theorem dL_law_407 : decode cL_law 407 = .ok (.iadd, 1) := dq_41_l_180.2.2.2.2.2.2.2.2.2
theorem dq_41_l_190 : (decode cL_law 408 = .ok (.iaload, 1)) ∧ (decode cL_law 409 = .ok (.invokevirtual 40, 3)) ∧ (decode cL_law 412 = .ok (.pop, 1)) ∧ (decode cL_law 413 = .ok (.goto 1465, 3)) ∧ (decode cL_law 416 = .ok (.aload_n 1, 1)) ∧ (decode cL_law 417 = .ok (.aload_n 0, 1)) ∧ (decode cL_law 418 = .ok (.iload_n 3, 1)) ∧ (decode cL_law 419 = .ok (.iconst 1, 1)) ∧ (decode cL_law 420 = .ok (.iadd, 1)) ∧ (decode cL_law 421 = .ok (.iaload, 1)) := by decide +kernel
theorem dL_law_408 : decode cL_law 408 = .ok (.iaload, 1) := dq_41_l_190.1
theorem dL_law_409 : decode cL_law 409 = .ok (.invokevirtual 40, 3) := dq_41_l_190.2.1
theorem dL_law_412 : decode cL_law 412 = .ok (.pop, 1) := dq_41_l_190.2.2.1
theorem dL_law_413 : decode cL_law 413 = .ok (.goto 1465, 3) := dq_41_l_190.2.2.2.1
theorem dL_law_416 : decode cL_law 416 = .ok (.aload_n 1, 1) := dq_41_l_190.2.2.2.2.1
theorem dL_law_417 : decode cL_law 417 = .ok (.aload_n 0, 1) := dq_41_l_190.2.2.2.2.2.1
theorem dL_law_418 : decode cL_law 418 = .ok (.iload_n 3, 1) := dq_41_l_190.2.2.2.2.2.2.1
theorem dL_law_419 : decode cL_law 419 = .ok (.iconst 1, 1) := dq_41_l_190.2.2.2.2.2.2.2.1
theorem dL_law_420 : decode cL_law 420 = .ok (.iadd, 1) := dq_41_l_190.2.2.2.2.2.2.2.2.1
theorem dL_law_421 : decode cL_law 421 = .ok (.iaload, 1) := dq_41_l_190.2.2.2.2.2.2.2.2.2
theorem dq_41_l_200 : (decode cL_law 422 = .ok (.aload_n 0, 1)) ∧ (decode cL_law 423 = .ok (.iload_n 3, 1)) ∧ (decode cL_law 424 = .ok (.iconst 2, 1)) ∧ (decode cL_law 425 = .ok (.iadd, 1)) ∧ (decode cL_law 426 = .ok (.iaload, 1)) ∧ (decode cL_law 427 = .ok (.aload_n 0, 1)) ∧ (decode cL_law 428 = .ok (.iload_n 3, 1)) ∧ (decode cL_law 429 = .ok (.iconst 3, 1)) ∧ (decode cL_law 430 = .ok (.iadd, 1)) ∧ (decode cL_law 431 = .ok (.iaload, 1)) := by decide +kernel
theorem dL_law_422 : decode cL_law 422 = .ok (.aload_n 0, 1) := dq_41_l_200.1
theorem dL_law_423 : decode cL_law 423 = .ok (.iload_n 3, 1) := dq_41_l_200.2.1
theorem dL_law_424 : decode cL_law 424 = .ok (.iconst 2, 1) := dq_41_l_200.2.2.1
theorem dL_law_425 : decode cL_law 425 = .ok (.iadd, 1) := dq_41_l_200.2.2.2.1
theorem dL_law_426 : decode cL_law 426 = .ok (.iaload, 1) := dq_41_l_200.2.2.2.2.1
theorem dL_law_427 : decode cL_law 427 = .ok (.aload_n 0, 1) := dq_41_l_200.2.2.2.2.2.1
theorem dL_law_428 : decode cL_law 428 = .ok (.iload_n 3, 1) := dq_41_l_200.2.2.2.2.2.2.1
theorem dL_law_429 : decode cL_law 429 = .ok (.iconst 3, 1) := dq_41_l_200.2.2.2.2.2.2.2.1
theorem dL_law_430 : decode cL_law 430 = .ok (.iadd, 1) := dq_41_l_200.2.2.2.2.2.2.2.2.1
theorem dL_law_431 : decode cL_law 431 = .ok (.iaload, 1) := dq_41_l_200.2.2.2.2.2.2.2.2.2
theorem dq_41_l_210 : (decode cL_law 432 = .ok (.invokevirtual 41, 3)) ∧ (decode cL_law 435 = .ok (.pop, 1)) ∧ (decode cL_law 436 = .ok (.aload_n 2, 1)) ∧ (decode cL_law 437 = .ok (.aload_n 0, 1)) ∧ (decode cL_law 438 = .ok (.iload_n 3, 1)) ∧ (decode cL_law 439 = .ok (.iconst 1, 1)) ∧ (decode cL_law 440 = .ok (.iadd, 1)) ∧ (decode cL_law 441 = .ok (.iaload, 1)) ∧ (decode cL_law 442 = .ok (.aload_n 0, 1)) ∧ (decode cL_law 443 = .ok (.iload_n 3, 1)) := by decide +kernel
theorem dL_law_432 : decode cL_law 432 = .ok (.invokevirtual 41, 3) := dq_41_l_210.1
theorem dL_law_435 : decode cL_law 435 = .ok (.pop, 1) := dq_41_l_210.2.1
theorem dL_law_436 : decode cL_law 436 = .ok (.aload_n 2, 1) := dq_41_l_210.2.2.1
theorem dL_law_437 : decode cL_law 437 = .ok (.aload_n 0, 1) := dq_41_l_210.2.2.2.1
theorem dL_law_438 : decode cL_law 438 = .ok (.iload_n 3, 1) := dq_41_l_210.2.2.2.2.1
theorem dL_law_439 : decode cL_law 439 = .ok (.iconst 1, 1) := dq_41_l_210.2.2.2.2.2.1
theorem dL_law_440 : decode cL_law 440 = .ok (.iadd, 1) := dq_41_l_210.2.2.2.2.2.2.1
theorem dL_law_441 : decode cL_law 441 = .ok (.iaload, 1) := dq_41_l_210.2.2.2.2.2.2.2.1
theorem dL_law_442 : decode cL_law 442 = .ok (.aload_n 0, 1) := dq_41_l_210.2.2.2.2.2.2.2.2.1
theorem dL_law_443 : decode cL_law 443 = .ok (.iload_n 3, 1) := dq_41_l_210.2.2.2.2.2.2.2.2.2
theorem dq_41_l_220 : (decode cL_law 444 = .ok (.iconst 2, 1)) ∧ (decode cL_law 445 = .ok (.iadd, 1)) ∧ (decode cL_law 446 = .ok (.iaload, 1)) ∧ (decode cL_law 447 = .ok (.aload_n 0, 1)) ∧ (decode cL_law 448 = .ok (.iload_n 3, 1)) ∧ (decode cL_law 449 = .ok (.iconst 3, 1)) ∧ (decode cL_law 450 = .ok (.iadd, 1)) ∧ (decode cL_law 451 = .ok (.iaload, 1)) ∧ (decode cL_law 452 = .ok (.invokevirtual 44, 3)) ∧ (decode cL_law 455 = .ok (.pop, 1)) := by decide +kernel
theorem dL_law_444 : decode cL_law 444 = .ok (.iconst 2, 1) := dq_41_l_220.1
theorem dL_law_445 : decode cL_law 445 = .ok (.iadd, 1) := dq_41_l_220.2.1
theorem dL_law_446 : decode cL_law 446 = .ok (.iaload, 1) := dq_41_l_220.2.2.1
theorem dL_law_447 : decode cL_law 447 = .ok (.aload_n 0, 1) := dq_41_l_220.2.2.2.1
theorem dL_law_448 : decode cL_law 448 = .ok (.iload_n 3, 1) := dq_41_l_220.2.2.2.2.1
theorem dL_law_449 : decode cL_law 449 = .ok (.iconst 3, 1) := dq_41_l_220.2.2.2.2.2.1
theorem dL_law_450 : decode cL_law 450 = .ok (.iadd, 1) := dq_41_l_220.2.2.2.2.2.2.1
theorem dL_law_451 : decode cL_law 451 = .ok (.iaload, 1) := dq_41_l_220.2.2.2.2.2.2.2.1
theorem dL_law_452 : decode cL_law 452 = .ok (.invokevirtual 44, 3) := dq_41_l_220.2.2.2.2.2.2.2.2.1
theorem dL_law_455 : decode cL_law 455 = .ok (.pop, 1) := dq_41_l_220.2.2.2.2.2.2.2.2.2
theorem dq_41_l_230 : (decode cL_law 456 = .ok (.goto 1422, 3)) ∧ (decode cL_law 459 = .ok (.aload_n 1, 1)) ∧ (decode cL_law 460 = .ok (.aload_n 0, 1)) ∧ (decode cL_law 461 = .ok (.iload_n 3, 1)) ∧ (decode cL_law 462 = .ok (.iconst 1, 1)) ∧ (decode cL_law 463 = .ok (.iadd, 1)) ∧ (decode cL_law 464 = .ok (.iaload, 1)) ∧ (decode cL_law 465 = .ok (.aload_n 0, 1)) ∧ (decode cL_law 466 = .ok (.iload_n 3, 1)) ∧ (decode cL_law 467 = .ok (.iconst 2, 1)) := by decide +kernel
theorem dL_law_456 : decode cL_law 456 = .ok (.goto 1422, 3) := dq_41_l_230.1
theorem dL_law_459 : decode cL_law 459 = .ok (.aload_n 1, 1) := dq_41_l_230.2.1
theorem dL_law_460 : decode cL_law 460 = .ok (.aload_n 0, 1) := dq_41_l_230.2.2.1
theorem dL_law_461 : decode cL_law 461 = .ok (.iload_n 3, 1) := dq_41_l_230.2.2.2.1
theorem dL_law_462 : decode cL_law 462 = .ok (.iconst 1, 1) := dq_41_l_230.2.2.2.2.1
theorem dL_law_463 : decode cL_law 463 = .ok (.iadd, 1) := dq_41_l_230.2.2.2.2.2.1
theorem dL_law_464 : decode cL_law 464 = .ok (.iaload, 1) := dq_41_l_230.2.2.2.2.2.2.1
theorem dL_law_465 : decode cL_law 465 = .ok (.aload_n 0, 1) := dq_41_l_230.2.2.2.2.2.2.2.1
theorem dL_law_466 : decode cL_law 466 = .ok (.iload_n 3, 1) := dq_41_l_230.2.2.2.2.2.2.2.2.1
theorem dL_law_467 : decode cL_law 467 = .ok (.iconst 2, 1) := dq_41_l_230.2.2.2.2.2.2.2.2.2
theorem dq_41_l_240 : (decode cL_law 468 = .ok (.iadd, 1)) ∧ (decode cL_law 469 = .ok (.iaload, 1)) ∧ (decode cL_law 470 = .ok (.aload_n 0, 1)) ∧ (decode cL_law 471 = .ok (.iload_n 3, 1)) ∧ (decode cL_law 472 = .ok (.iconst 3, 1)) ∧ (decode cL_law 473 = .ok (.iadd, 1)) ∧ (decode cL_law 474 = .ok (.iaload, 1)) ∧ (decode cL_law 475 = .ok (.aload_n 0, 1)) ∧ (decode cL_law 476 = .ok (.iload_n 3, 1)) ∧ (decode cL_law 477 = .ok (.iconst 4, 1)) := by decide +kernel
theorem dL_law_468 : decode cL_law 468 = .ok (.iadd, 1) := dq_41_l_240.1
theorem dL_law_469 : decode cL_law 469 = .ok (.iaload, 1) := dq_41_l_240.2.1
theorem dL_law_470 : decode cL_law 470 = .ok (.aload_n 0, 1) := dq_41_l_240.2.2.1
theorem dL_law_471 : decode cL_law 471 = .ok (.iload_n 3, 1) := dq_41_l_240.2.2.2.1
theorem dL_law_472 : decode cL_law 472 = .ok (.iconst 3, 1) := dq_41_l_240.2.2.2.2.1
theorem dL_law_473 : decode cL_law 473 = .ok (.iadd, 1) := dq_41_l_240.2.2.2.2.2.1
theorem dL_law_474 : decode cL_law 474 = .ok (.iaload, 1) := dq_41_l_240.2.2.2.2.2.2.1
theorem dL_law_475 : decode cL_law 475 = .ok (.aload_n 0, 1) := dq_41_l_240.2.2.2.2.2.2.2.1
theorem dL_law_476 : decode cL_law 476 = .ok (.iload_n 3, 1) := dq_41_l_240.2.2.2.2.2.2.2.2.1
theorem dL_law_477 : decode cL_law 477 = .ok (.iconst 4, 1) := dq_41_l_240.2.2.2.2.2.2.2.2.2
theorem dq_41_l_250 : (decode cL_law 478 = .ok (.iadd, 1)) ∧ (decode cL_law 479 = .ok (.iaload, 1)) ∧ (decode cL_law 480 = .ok (.aload_n 0, 1)) ∧ (decode cL_law 481 = .ok (.iload_n 3, 1)) ∧ (decode cL_law 482 = .ok (.iconst 5, 1)) ∧ (decode cL_law 483 = .ok (.iadd, 1)) ∧ (decode cL_law 484 = .ok (.iaload, 1)) ∧ (decode cL_law 485 = .ok (.aload_n 0, 1)) ∧ (decode cL_law 486 = .ok (.iload_n 3, 1)) ∧ (decode cL_law 487 = .ok (.bipush 6, 2)) := by decide +kernel
theorem dL_law_478 : decode cL_law 478 = .ok (.iadd, 1) := dq_41_l_250.1
theorem dL_law_479 : decode cL_law 479 = .ok (.iaload, 1) := dq_41_l_250.2.1
theorem dL_law_480 : decode cL_law 480 = .ok (.aload_n 0, 1) := dq_41_l_250.2.2.1
theorem dL_law_481 : decode cL_law 481 = .ok (.iload_n 3, 1) := dq_41_l_250.2.2.2.1
theorem dL_law_482 : decode cL_law 482 = .ok (.iconst 5, 1) := dq_41_l_250.2.2.2.2.1
theorem dL_law_483 : decode cL_law 483 = .ok (.iadd, 1) := dq_41_l_250.2.2.2.2.2.1
theorem dL_law_484 : decode cL_law 484 = .ok (.iaload, 1) := dq_41_l_250.2.2.2.2.2.2.1
theorem dL_law_485 : decode cL_law 485 = .ok (.aload_n 0, 1) := dq_41_l_250.2.2.2.2.2.2.2.1
theorem dL_law_486 : decode cL_law 486 = .ok (.iload_n 3, 1) := dq_41_l_250.2.2.2.2.2.2.2.2.1
theorem dL_law_487 : decode cL_law 487 = .ok (.bipush 6, 2) := dq_41_l_250.2.2.2.2.2.2.2.2.2
theorem dq_41_l_260 : (decode cL_law 489 = .ok (.iadd, 1)) ∧ (decode cL_law 490 = .ok (.iaload, 1)) ∧ (decode cL_law 491 = .ok (.ifCond .eq 7, 3)) ∧ (decode cL_law 494 = .ok (.iconst 1, 1)) ∧ (decode cL_law 495 = .ok (.goto 4, 3)) ∧ (decode cL_law 498 = .ok (.iconst 0, 1)) ∧ (decode cL_law 499 = .ok (.invokevirtual 45, 3)) ∧ (decode cL_law 502 = .ok (.pop, 1)) ∧ (decode cL_law 503 = .ok (.aload_n 2, 1)) ∧ (decode cL_law 504 = .ok (.aload_n 0, 1)) := by decide +kernel
theorem dL_law_489 : decode cL_law 489 = .ok (.iadd, 1) := dq_41_l_260.1
theorem dL_law_490 : decode cL_law 490 = .ok (.iaload, 1) := dq_41_l_260.2.1
theorem dL_law_491 : decode cL_law 491 = .ok (.ifCond .eq 7, 3) := dq_41_l_260.2.2.1
theorem dL_law_494 : decode cL_law 494 = .ok (.iconst 1, 1) := dq_41_l_260.2.2.2.1
theorem dL_law_495 : decode cL_law 495 = .ok (.goto 4, 3) := dq_41_l_260.2.2.2.2.1
theorem dL_law_498 : decode cL_law 498 = .ok (.iconst 0, 1) := dq_41_l_260.2.2.2.2.2.1
theorem dL_law_499 : decode cL_law 499 = .ok (.invokevirtual 45, 3) := dq_41_l_260.2.2.2.2.2.2.1
theorem dL_law_502 : decode cL_law 502 = .ok (.pop, 1) := dq_41_l_260.2.2.2.2.2.2.2.1
theorem dL_law_503 : decode cL_law 503 = .ok (.aload_n 2, 1) := dq_41_l_260.2.2.2.2.2.2.2.2.1
theorem dL_law_504 : decode cL_law 504 = .ok (.aload_n 0, 1) := dq_41_l_260.2.2.2.2.2.2.2.2.2
theorem dq_41_l_270 : (decode cL_law 505 = .ok (.iload_n 3, 1)) ∧ (decode cL_law 506 = .ok (.iconst 1, 1)) ∧ (decode cL_law 507 = .ok (.iadd, 1)) ∧ (decode cL_law 508 = .ok (.iaload, 1)) ∧ (decode cL_law 509 = .ok (.aload_n 0, 1)) ∧ (decode cL_law 510 = .ok (.iload_n 3, 1)) ∧ (decode cL_law 511 = .ok (.iconst 2, 1)) ∧ (decode cL_law 512 = .ok (.iadd, 1)) ∧ (decode cL_law 513 = .ok (.iaload, 1)) ∧ (decode cL_law 514 = .ok (.aload_n 0, 1)) := by decide +kernel
theorem dL_law_505 : decode cL_law 505 = .ok (.iload_n 3, 1) := dq_41_l_270.1
theorem dL_law_506 : decode cL_law 506 = .ok (.iconst 1, 1) := dq_41_l_270.2.1
theorem dL_law_507 : decode cL_law 507 = .ok (.iadd, 1) := dq_41_l_270.2.2.1
theorem dL_law_508 : decode cL_law 508 = .ok (.iaload, 1) := dq_41_l_270.2.2.2.1
theorem dL_law_509 : decode cL_law 509 = .ok (.aload_n 0, 1) := dq_41_l_270.2.2.2.2.1
theorem dL_law_510 : decode cL_law 510 = .ok (.iload_n 3, 1) := dq_41_l_270.2.2.2.2.2.1
theorem dL_law_511 : decode cL_law 511 = .ok (.iconst 2, 1) := dq_41_l_270.2.2.2.2.2.2.1
theorem dL_law_512 : decode cL_law 512 = .ok (.iadd, 1) := dq_41_l_270.2.2.2.2.2.2.2.1
theorem dL_law_513 : decode cL_law 513 = .ok (.iaload, 1) := dq_41_l_270.2.2.2.2.2.2.2.2.1
theorem dL_law_514 : decode cL_law 514 = .ok (.aload_n 0, 1) := dq_41_l_270.2.2.2.2.2.2.2.2.2
theorem dq_41_l_280 : (decode cL_law 515 = .ok (.iload_n 3, 1)) ∧ (decode cL_law 516 = .ok (.iconst 3, 1)) ∧ (decode cL_law 517 = .ok (.iadd, 1)) ∧ (decode cL_law 518 = .ok (.iaload, 1)) ∧ (decode cL_law 519 = .ok (.aload_n 0, 1)) ∧ (decode cL_law 520 = .ok (.iload_n 3, 1)) ∧ (decode cL_law 521 = .ok (.iconst 4, 1)) ∧ (decode cL_law 522 = .ok (.iadd, 1)) ∧ (decode cL_law 523 = .ok (.iaload, 1)) ∧ (decode cL_law 524 = .ok (.aload_n 0, 1)) := by decide +kernel
theorem dL_law_515 : decode cL_law 515 = .ok (.iload_n 3, 1) := dq_41_l_280.1
theorem dL_law_516 : decode cL_law 516 = .ok (.iconst 3, 1) := dq_41_l_280.2.1
theorem dL_law_517 : decode cL_law 517 = .ok (.iadd, 1) := dq_41_l_280.2.2.1
theorem dL_law_518 : decode cL_law 518 = .ok (.iaload, 1) := dq_41_l_280.2.2.2.1
theorem dL_law_519 : decode cL_law 519 = .ok (.aload_n 0, 1) := dq_41_l_280.2.2.2.2.1
theorem dL_law_520 : decode cL_law 520 = .ok (.iload_n 3, 1) := dq_41_l_280.2.2.2.2.2.1
theorem dL_law_521 : decode cL_law 521 = .ok (.iconst 4, 1) := dq_41_l_280.2.2.2.2.2.2.1
theorem dL_law_522 : decode cL_law 522 = .ok (.iadd, 1) := dq_41_l_280.2.2.2.2.2.2.2.1
theorem dL_law_523 : decode cL_law 523 = .ok (.iaload, 1) := dq_41_l_280.2.2.2.2.2.2.2.2.1
theorem dL_law_524 : decode cL_law 524 = .ok (.aload_n 0, 1) := dq_41_l_280.2.2.2.2.2.2.2.2.2
theorem dq_41_l_290 : (decode cL_law 525 = .ok (.iload_n 3, 1)) ∧ (decode cL_law 526 = .ok (.iconst 5, 1)) ∧ (decode cL_law 527 = .ok (.iadd, 1)) ∧ (decode cL_law 528 = .ok (.iaload, 1)) ∧ (decode cL_law 529 = .ok (.aload_n 0, 1)) ∧ (decode cL_law 530 = .ok (.iload_n 3, 1)) ∧ (decode cL_law 531 = .ok (.bipush 6, 2)) ∧ (decode cL_law 533 = .ok (.iadd, 1)) ∧ (decode cL_law 534 = .ok (.iaload, 1)) ∧ (decode cL_law 535 = .ok (.ifCond .eq 7, 3)) := by decide +kernel
theorem dL_law_525 : decode cL_law 525 = .ok (.iload_n 3, 1) := dq_41_l_290.1
theorem dL_law_526 : decode cL_law 526 = .ok (.iconst 5, 1) := dq_41_l_290.2.1
theorem dL_law_527 : decode cL_law 527 = .ok (.iadd, 1) := dq_41_l_290.2.2.1
theorem dL_law_528 : decode cL_law 528 = .ok (.iaload, 1) := dq_41_l_290.2.2.2.1
theorem dL_law_529 : decode cL_law 529 = .ok (.aload_n 0, 1) := dq_41_l_290.2.2.2.2.1
theorem dL_law_530 : decode cL_law 530 = .ok (.iload_n 3, 1) := dq_41_l_290.2.2.2.2.2.1
theorem dL_law_531 : decode cL_law 531 = .ok (.bipush 6, 2) := dq_41_l_290.2.2.2.2.2.2.1
theorem dL_law_533 : decode cL_law 533 = .ok (.iadd, 1) := dq_41_l_290.2.2.2.2.2.2.2.1
theorem dL_law_534 : decode cL_law 534 = .ok (.iaload, 1) := dq_41_l_290.2.2.2.2.2.2.2.2.1
theorem dL_law_535 : decode cL_law 535 = .ok (.ifCond .eq 7, 3) := dq_41_l_290.2.2.2.2.2.2.2.2.2
theorem dq_41_l_300 : (decode cL_law 538 = .ok (.iconst 1, 1)) ∧ (decode cL_law 539 = .ok (.goto 4, 3)) ∧ (decode cL_law 542 = .ok (.iconst 0, 1)) ∧ (decode cL_law 543 = .ok (.invokevirtual 49, 3)) ∧ (decode cL_law 546 = .ok (.pop, 1)) ∧ (decode cL_law 547 = .ok (.goto 1331, 3)) ∧ (decode cL_law 550 = .ok (.aload_n 1, 1)) ∧ (decode cL_law 551 = .ok (.aload_n 0, 1)) ∧ (decode cL_law 552 = .ok (.iload_n 3, 1)) ∧ (decode cL_law 553 = .ok (.iconst 1, 1)) := by decide +kernel
theorem dL_law_538 : decode cL_law 538 = .ok (.iconst 1, 1) := dq_41_l_300.1
theorem dL_law_539 : decode cL_law 539 = .ok (.goto 4, 3) := dq_41_l_300.2.1
theorem dL_law_542 : decode cL_law 542 = .ok (.iconst 0, 1) := dq_41_l_300.2.2.1
theorem dL_law_543 : decode cL_law 543 = .ok (.invokevirtual 49, 3) := dq_41_l_300.2.2.2.1
theorem dL_law_546 : decode cL_law 546 = .ok (.pop, 1) := dq_41_l_300.2.2.2.2.1
theorem dL_law_547 : decode cL_law 547 = .ok (.goto 1331, 3) := dq_41_l_300.2.2.2.2.2.1
theorem dL_law_550 : decode cL_law 550 = .ok (.aload_n 1, 1) := dq_41_l_300.2.2.2.2.2.2.1
theorem dL_law_551 : decode cL_law 551 = .ok (.aload_n 0, 1) := dq_41_l_300.2.2.2.2.2.2.2.1
theorem dL_law_552 : decode cL_law 552 = .ok (.iload_n 3, 1) := dq_41_l_300.2.2.2.2.2.2.2.2.1
theorem dL_law_553 : decode cL_law 553 = .ok (.iconst 1, 1) := dq_41_l_300.2.2.2.2.2.2.2.2.2
theorem dq_41_l_310 : (decode cL_law 554 = .ok (.iadd, 1)) ∧ (decode cL_law 555 = .ok (.iaload, 1)) ∧ (decode cL_law 556 = .ok (.aload_n 0, 1)) ∧ (decode cL_law 557 = .ok (.iload_n 3, 1)) ∧ (decode cL_law 558 = .ok (.iconst 2, 1)) ∧ (decode cL_law 559 = .ok (.iadd, 1)) ∧ (decode cL_law 560 = .ok (.iaload, 1)) ∧ (decode cL_law 561 = .ok (.aload_n 0, 1)) ∧ (decode cL_law 562 = .ok (.iload_n 3, 1)) ∧ (decode cL_law 563 = .ok (.iconst 3, 1)) := by decide +kernel
theorem dL_law_554 : decode cL_law 554 = .ok (.iadd, 1) := dq_41_l_310.1
theorem dL_law_555 : decode cL_law 555 = .ok (.iaload, 1) := dq_41_l_310.2.1
theorem dL_law_556 : decode cL_law 556 = .ok (.aload_n 0, 1) := dq_41_l_310.2.2.1
theorem dL_law_557 : decode cL_law 557 = .ok (.iload_n 3, 1) := dq_41_l_310.2.2.2.1
theorem dL_law_558 : decode cL_law 558 = .ok (.iconst 2, 1) := dq_41_l_310.2.2.2.2.1
theorem dL_law_559 : decode cL_law 559 = .ok (.iadd, 1) := dq_41_l_310.2.2.2.2.2.1
theorem dL_law_560 : decode cL_law 560 = .ok (.iaload, 1) := dq_41_l_310.2.2.2.2.2.2.1
theorem dL_law_561 : decode cL_law 561 = .ok (.aload_n 0, 1) := dq_41_l_310.2.2.2.2.2.2.2.1
theorem dL_law_562 : decode cL_law 562 = .ok (.iload_n 3, 1) := dq_41_l_310.2.2.2.2.2.2.2.2.1
theorem dL_law_563 : decode cL_law 563 = .ok (.iconst 3, 1) := dq_41_l_310.2.2.2.2.2.2.2.2.2
theorem dq_41_l_320 : (decode cL_law 564 = .ok (.iadd, 1)) ∧ (decode cL_law 565 = .ok (.iaload, 1)) ∧ (decode cL_law 566 = .ok (.aload_n 0, 1)) ∧ (decode cL_law 567 = .ok (.iload_n 3, 1)) ∧ (decode cL_law 568 = .ok (.iconst 4, 1)) ∧ (decode cL_law 569 = .ok (.iadd, 1)) ∧ (decode cL_law 570 = .ok (.iaload, 1)) ∧ (decode cL_law 571 = .ok (.aload_n 0, 1)) ∧ (decode cL_law 572 = .ok (.iload_n 3, 1)) ∧ (decode cL_law 573 = .ok (.iconst 5, 1)) := by decide +kernel
theorem dL_law_564 : decode cL_law 564 = .ok (.iadd, 1) := dq_41_l_320.1
theorem dL_law_565 : decode cL_law 565 = .ok (.iaload, 1) := dq_41_l_320.2.1
theorem dL_law_566 : decode cL_law 566 = .ok (.aload_n 0, 1) := dq_41_l_320.2.2.1
theorem dL_law_567 : decode cL_law 567 = .ok (.iload_n 3, 1) := dq_41_l_320.2.2.2.1
theorem dL_law_568 : decode cL_law 568 = .ok (.iconst 4, 1) := dq_41_l_320.2.2.2.2.1
theorem dL_law_569 : decode cL_law 569 = .ok (.iadd, 1) := dq_41_l_320.2.2.2.2.2.1
theorem dL_law_570 : decode cL_law 570 = .ok (.iaload, 1) := dq_41_l_320.2.2.2.2.2.2.1
theorem dL_law_571 : decode cL_law 571 = .ok (.aload_n 0, 1) := dq_41_l_320.2.2.2.2.2.2.2.1
theorem dL_law_572 : decode cL_law 572 = .ok (.iload_n 3, 1) := dq_41_l_320.2.2.2.2.2.2.2.2.1
theorem dL_law_573 : decode cL_law 573 = .ok (.iconst 5, 1) := dq_41_l_320.2.2.2.2.2.2.2.2.2
theorem dq_41_l_330 : (decode cL_law 574 = .ok (.iadd, 1)) ∧ (decode cL_law 575 = .ok (.iaload, 1)) ∧ (decode cL_law 576 = .ok (.invokevirtual 50, 3)) ∧ (decode cL_law 579 = .ok (.pop, 1)) ∧ (decode cL_law 580 = .ok (.aload_n 2, 1)) ∧ (decode cL_law 581 = .ok (.aload_n 0, 1)) ∧ (decode cL_law 582 = .ok (.iload_n 3, 1)) ∧ (decode cL_law 583 = .ok (.iconst 1, 1)) ∧ (decode cL_law 584 = .ok (.iadd, 1)) ∧ (decode cL_law 585 = .ok (.iaload, 1)) := by decide +kernel
theorem dL_law_574 : decode cL_law 574 = .ok (.iadd, 1) := dq_41_l_330.1
theorem dL_law_575 : decode cL_law 575 = .ok (.iaload, 1) := dq_41_l_330.2.1
theorem dL_law_576 : decode cL_law 576 = .ok (.invokevirtual 50, 3) := dq_41_l_330.2.2.1
theorem dL_law_579 : decode cL_law 579 = .ok (.pop, 1) := dq_41_l_330.2.2.2.1
theorem dL_law_580 : decode cL_law 580 = .ok (.aload_n 2, 1) := dq_41_l_330.2.2.2.2.1
theorem dL_law_581 : decode cL_law 581 = .ok (.aload_n 0, 1) := dq_41_l_330.2.2.2.2.2.1
theorem dL_law_582 : decode cL_law 582 = .ok (.iload_n 3, 1) := dq_41_l_330.2.2.2.2.2.2.1
theorem dL_law_583 : decode cL_law 583 = .ok (.iconst 1, 1) := dq_41_l_330.2.2.2.2.2.2.2.1
theorem dL_law_584 : decode cL_law 584 = .ok (.iadd, 1) := dq_41_l_330.2.2.2.2.2.2.2.2.1
theorem dL_law_585 : decode cL_law 585 = .ok (.iaload, 1) := dq_41_l_330.2.2.2.2.2.2.2.2.2
theorem dq_41_l_340 : (decode cL_law 586 = .ok (.aload_n 0, 1)) ∧ (decode cL_law 587 = .ok (.iload_n 3, 1)) ∧ (decode cL_law 588 = .ok (.iconst 2, 1)) ∧ (decode cL_law 589 = .ok (.iadd, 1)) ∧ (decode cL_law 590 = .ok (.iaload, 1)) ∧ (decode cL_law 591 = .ok (.aload_n 0, 1)) ∧ (decode cL_law 592 = .ok (.iload_n 3, 1)) ∧ (decode cL_law 593 = .ok (.iconst 3, 1)) ∧ (decode cL_law 594 = .ok (.iadd, 1)) ∧ (decode cL_law 595 = .ok (.iaload, 1)) := by decide +kernel
theorem dL_law_586 : decode cL_law 586 = .ok (.aload_n 0, 1) := dq_41_l_340.1
theorem dL_law_587 : decode cL_law 587 = .ok (.iload_n 3, 1) := dq_41_l_340.2.1
theorem dL_law_588 : decode cL_law 588 = .ok (.iconst 2, 1) := dq_41_l_340.2.2.1
theorem dL_law_589 : decode cL_law 589 = .ok (.iadd, 1) := dq_41_l_340.2.2.2.1
theorem dL_law_590 : decode cL_law 590 = .ok (.iaload, 1) := dq_41_l_340.2.2.2.2.1
theorem dL_law_591 : decode cL_law 591 = .ok (.aload_n 0, 1) := dq_41_l_340.2.2.2.2.2.1
theorem dL_law_592 : decode cL_law 592 = .ok (.iload_n 3, 1) := dq_41_l_340.2.2.2.2.2.2.1
theorem dL_law_593 : decode cL_law 593 = .ok (.iconst 3, 1) := dq_41_l_340.2.2.2.2.2.2.2.1
theorem dL_law_594 : decode cL_law 594 = .ok (.iadd, 1) := dq_41_l_340.2.2.2.2.2.2.2.2.1
theorem dL_law_595 : decode cL_law 595 = .ok (.iaload, 1) := dq_41_l_340.2.2.2.2.2.2.2.2.2
theorem dq_41_l_350 : (decode cL_law 596 = .ok (.aload_n 0, 1)) ∧ (decode cL_law 597 = .ok (.iload_n 3, 1)) ∧ (decode cL_law 598 = .ok (.iconst 4, 1)) ∧ (decode cL_law 599 = .ok (.iadd, 1)) ∧ (decode cL_law 600 = .ok (.iaload, 1)) ∧ (decode cL_law 601 = .ok (.aload_n 0, 1)) ∧ (decode cL_law 602 = .ok (.iload_n 3, 1)) ∧ (decode cL_law 603 = .ok (.iconst 5, 1)) ∧ (decode cL_law 604 = .ok (.iadd, 1)) ∧ (decode cL_law 605 = .ok (.iaload, 1)) := by decide +kernel
theorem dL_law_596 : decode cL_law 596 = .ok (.aload_n 0, 1) := dq_41_l_350.1
theorem dL_law_597 : decode cL_law 597 = .ok (.iload_n 3, 1) := dq_41_l_350.2.1
theorem dL_law_598 : decode cL_law 598 = .ok (.iconst 4, 1) := dq_41_l_350.2.2.1
theorem dL_law_599 : decode cL_law 599 = .ok (.iadd, 1) := dq_41_l_350.2.2.2.1
theorem dL_law_600 : decode cL_law 600 = .ok (.iaload, 1) := dq_41_l_350.2.2.2.2.1
theorem dL_law_601 : decode cL_law 601 = .ok (.aload_n 0, 1) := dq_41_l_350.2.2.2.2.2.1
theorem dL_law_602 : decode cL_law 602 = .ok (.iload_n 3, 1) := dq_41_l_350.2.2.2.2.2.2.1
theorem dL_law_603 : decode cL_law 603 = .ok (.iconst 5, 1) := dq_41_l_350.2.2.2.2.2.2.2.1
theorem dL_law_604 : decode cL_law 604 = .ok (.iadd, 1) := dq_41_l_350.2.2.2.2.2.2.2.2.1
theorem dL_law_605 : decode cL_law 605 = .ok (.iaload, 1) := dq_41_l_350.2.2.2.2.2.2.2.2.2
theorem dq_41_l_360 : (decode cL_law 606 = .ok (.invokevirtual 54, 3)) ∧ (decode cL_law 609 = .ok (.pop, 1)) ∧ (decode cL_law 610 = .ok (.goto 1268, 3)) ∧ (decode cL_law 613 = .ok (.aload_n 1, 1)) ∧ (decode cL_law 614 = .ok (.aload_n 0, 1)) ∧ (decode cL_law 615 = .ok (.iload_n 3, 1)) ∧ (decode cL_law 616 = .ok (.iconst 1, 1)) ∧ (decode cL_law 617 = .ok (.iadd, 1)) ∧ (decode cL_law 618 = .ok (.iaload, 1)) ∧ (decode cL_law 619 = .ok (.invokevirtual 55, 3)) := by decide +kernel
theorem dL_law_606 : decode cL_law 606 = .ok (.invokevirtual 54, 3) := dq_41_l_360.1
theorem dL_law_609 : decode cL_law 609 = .ok (.pop, 1) := dq_41_l_360.2.1
theorem dL_law_610 : decode cL_law 610 = .ok (.goto 1268, 3) := dq_41_l_360.2.2.1
theorem dL_law_613 : decode cL_law 613 = .ok (.aload_n 1, 1) := dq_41_l_360.2.2.2.1
theorem dL_law_614 : decode cL_law 614 = .ok (.aload_n 0, 1) := dq_41_l_360.2.2.2.2.1
theorem dL_law_615 : decode cL_law 615 = .ok (.iload_n 3, 1) := dq_41_l_360.2.2.2.2.2.1
theorem dL_law_616 : decode cL_law 616 = .ok (.iconst 1, 1) := dq_41_l_360.2.2.2.2.2.2.1
theorem dL_law_617 : decode cL_law 617 = .ok (.iadd, 1) := dq_41_l_360.2.2.2.2.2.2.2.1
theorem dL_law_618 : decode cL_law 618 = .ok (.iaload, 1) := dq_41_l_360.2.2.2.2.2.2.2.2.1
theorem dL_law_619 : decode cL_law 619 = .ok (.invokevirtual 55, 3) := dq_41_l_360.2.2.2.2.2.2.2.2.2
theorem dq_41_l_370 : (decode cL_law 622 = .ok (.pop, 1)) ∧ (decode cL_law 623 = .ok (.aload_n 2, 1)) ∧ (decode cL_law 624 = .ok (.aload_n 0, 1)) ∧ (decode cL_law 625 = .ok (.iload_n 3, 1)) ∧ (decode cL_law 626 = .ok (.iconst 1, 1)) ∧ (decode cL_law 627 = .ok (.iadd, 1)) ∧ (decode cL_law 628 = .ok (.iaload, 1)) ∧ (decode cL_law 629 = .ok (.invokevirtual 58, 3)) ∧ (decode cL_law 632 = .ok (.pop, 1)) ∧ (decode cL_law 633 = .ok (.goto 1245, 3)) := by decide +kernel
theorem dL_law_622 : decode cL_law 622 = .ok (.pop, 1) := dq_41_l_370.1
theorem dL_law_623 : decode cL_law 623 = .ok (.aload_n 2, 1) := dq_41_l_370.2.1
theorem dL_law_624 : decode cL_law 624 = .ok (.aload_n 0, 1) := dq_41_l_370.2.2.1
theorem dL_law_625 : decode cL_law 625 = .ok (.iload_n 3, 1) := dq_41_l_370.2.2.2.1
theorem dL_law_626 : decode cL_law 626 = .ok (.iconst 1, 1) := dq_41_l_370.2.2.2.2.1
theorem dL_law_627 : decode cL_law 627 = .ok (.iadd, 1) := dq_41_l_370.2.2.2.2.2.1
theorem dL_law_628 : decode cL_law 628 = .ok (.iaload, 1) := dq_41_l_370.2.2.2.2.2.2.1
theorem dL_law_629 : decode cL_law 629 = .ok (.invokevirtual 58, 3) := dq_41_l_370.2.2.2.2.2.2.2.1
theorem dL_law_632 : decode cL_law 632 = .ok (.pop, 1) := dq_41_l_370.2.2.2.2.2.2.2.2.1
theorem dL_law_633 : decode cL_law 633 = .ok (.goto 1245, 3) := dq_41_l_370.2.2.2.2.2.2.2.2.2
theorem dq_41_l_380 : (decode cL_law 636 = .ok (.aload_n 1, 1)) ∧ (decode cL_law 637 = .ok (.aload_n 0, 1)) ∧ (decode cL_law 638 = .ok (.iload_n 3, 1)) ∧ (decode cL_law 639 = .ok (.iconst 1, 1)) ∧ (decode cL_law 640 = .ok (.iadd, 1)) ∧ (decode cL_law 641 = .ok (.iaload, 1)) ∧ (decode cL_law 642 = .ok (.invokevirtual 59, 3)) ∧ (decode cL_law 645 = .ok (.pop, 1)) ∧ (decode cL_law 646 = .ok (.aload_n 2, 1)) ∧ (decode cL_law 647 = .ok (.aload_n 0, 1)) := by decide +kernel
theorem dL_law_636 : decode cL_law 636 = .ok (.aload_n 1, 1) := dq_41_l_380.1
theorem dL_law_637 : decode cL_law 637 = .ok (.aload_n 0, 1) := dq_41_l_380.2.1
theorem dL_law_638 : decode cL_law 638 = .ok (.iload_n 3, 1) := dq_41_l_380.2.2.1
theorem dL_law_639 : decode cL_law 639 = .ok (.iconst 1, 1) := dq_41_l_380.2.2.2.1
theorem dL_law_640 : decode cL_law 640 = .ok (.iadd, 1) := dq_41_l_380.2.2.2.2.1
theorem dL_law_641 : decode cL_law 641 = .ok (.iaload, 1) := dq_41_l_380.2.2.2.2.2.1
theorem dL_law_642 : decode cL_law 642 = .ok (.invokevirtual 59, 3) := dq_41_l_380.2.2.2.2.2.2.1
theorem dL_law_645 : decode cL_law 645 = .ok (.pop, 1) := dq_41_l_380.2.2.2.2.2.2.2.1
theorem dL_law_646 : decode cL_law 646 = .ok (.aload_n 2, 1) := dq_41_l_380.2.2.2.2.2.2.2.2.1
theorem dL_law_647 : decode cL_law 647 = .ok (.aload_n 0, 1) := dq_41_l_380.2.2.2.2.2.2.2.2.2
theorem dq_41_l_390 : (decode cL_law 648 = .ok (.iload_n 3, 1)) ∧ (decode cL_law 649 = .ok (.iconst 1, 1)) ∧ (decode cL_law 650 = .ok (.iadd, 1)) ∧ (decode cL_law 651 = .ok (.iaload, 1)) ∧ (decode cL_law 652 = .ok (.invokevirtual 62, 3)) ∧ (decode cL_law 655 = .ok (.pop, 1)) ∧ (decode cL_law 656 = .ok (.goto 1222, 3)) ∧ (decode cL_law 659 = .ok (.aload_n 1, 1)) ∧ (decode cL_law 660 = .ok (.aload_n 0, 1)) ∧ (decode cL_law 661 = .ok (.iload_n 3, 1)) := by decide +kernel
theorem dL_law_648 : decode cL_law 648 = .ok (.iload_n 3, 1) := dq_41_l_390.1
theorem dL_law_649 : decode cL_law 649 = .ok (.iconst 1, 1) := dq_41_l_390.2.1
theorem dL_law_650 : decode cL_law 650 = .ok (.iadd, 1) := dq_41_l_390.2.2.1
theorem dL_law_651 : decode cL_law 651 = .ok (.iaload, 1) := dq_41_l_390.2.2.2.1
theorem dL_law_652 : decode cL_law 652 = .ok (.invokevirtual 62, 3) := dq_41_l_390.2.2.2.2.1
theorem dL_law_655 : decode cL_law 655 = .ok (.pop, 1) := dq_41_l_390.2.2.2.2.2.1
theorem dL_law_656 : decode cL_law 656 = .ok (.goto 1222, 3) := dq_41_l_390.2.2.2.2.2.2.1
theorem dL_law_659 : decode cL_law 659 = .ok (.aload_n 1, 1) := dq_41_l_390.2.2.2.2.2.2.2.1
theorem dL_law_660 : decode cL_law 660 = .ok (.aload_n 0, 1) := dq_41_l_390.2.2.2.2.2.2.2.2.1
theorem dL_law_661 : decode cL_law 661 = .ok (.iload_n 3, 1) := dq_41_l_390.2.2.2.2.2.2.2.2.2
theorem dq_41_l_400 : (decode cL_law 662 = .ok (.iconst 1, 1)) ∧ (decode cL_law 663 = .ok (.iadd, 1)) ∧ (decode cL_law 664 = .ok (.iaload, 1)) ∧ (decode cL_law 665 = .ok (.aload_n 0, 1)) ∧ (decode cL_law 666 = .ok (.iload_n 3, 1)) ∧ (decode cL_law 667 = .ok (.iconst 2, 1)) ∧ (decode cL_law 668 = .ok (.iadd, 1)) ∧ (decode cL_law 669 = .ok (.iaload, 1)) ∧ (decode cL_law 670 = .ok (.aload_n 0, 1)) ∧ (decode cL_law 671 = .ok (.iload_n 3, 1)) := by decide +kernel
theorem dL_law_662 : decode cL_law 662 = .ok (.iconst 1, 1) := dq_41_l_400.1
theorem dL_law_663 : decode cL_law 663 = .ok (.iadd, 1) := dq_41_l_400.2.1
theorem dL_law_664 : decode cL_law 664 = .ok (.iaload, 1) := dq_41_l_400.2.2.1
theorem dL_law_665 : decode cL_law 665 = .ok (.aload_n 0, 1) := dq_41_l_400.2.2.2.1
theorem dL_law_666 : decode cL_law 666 = .ok (.iload_n 3, 1) := dq_41_l_400.2.2.2.2.1
theorem dL_law_667 : decode cL_law 667 = .ok (.iconst 2, 1) := dq_41_l_400.2.2.2.2.2.1
theorem dL_law_668 : decode cL_law 668 = .ok (.iadd, 1) := dq_41_l_400.2.2.2.2.2.2.1
theorem dL_law_669 : decode cL_law 669 = .ok (.iaload, 1) := dq_41_l_400.2.2.2.2.2.2.2.1
theorem dL_law_670 : decode cL_law 670 = .ok (.aload_n 0, 1) := dq_41_l_400.2.2.2.2.2.2.2.2.1
theorem dL_law_671 : decode cL_law 671 = .ok (.iload_n 3, 1) := dq_41_l_400.2.2.2.2.2.2.2.2.2
theorem dq_41_l_410 : (decode cL_law 672 = .ok (.iconst 3, 1)) ∧ (decode cL_law 673 = .ok (.iadd, 1)) ∧ (decode cL_law 674 = .ok (.iaload, 1)) ∧ (decode cL_law 675 = .ok (.aload_n 0, 1)) ∧ (decode cL_law 676 = .ok (.iload_n 3, 1)) ∧ (decode cL_law 677 = .ok (.iconst 4, 1)) ∧ (decode cL_law 678 = .ok (.iadd, 1)) ∧ (decode cL_law 679 = .ok (.iaload, 1)) ∧ (decode cL_law 680 = .ok (.aload_n 0, 1)) ∧ (decode cL_law 681 = .ok (.iload_n 3, 1)) := by decide +kernel
theorem dL_law_672 : decode cL_law 672 = .ok (.iconst 3, 1) := dq_41_l_410.1
theorem dL_law_673 : decode cL_law 673 = .ok (.iadd, 1) := dq_41_l_410.2.1
theorem dL_law_674 : decode cL_law 674 = .ok (.iaload, 1) := dq_41_l_410.2.2.1
theorem dL_law_675 : decode cL_law 675 = .ok (.aload_n 0, 1) := dq_41_l_410.2.2.2.1
theorem dL_law_676 : decode cL_law 676 = .ok (.iload_n 3, 1) := dq_41_l_410.2.2.2.2.1
theorem dL_law_677 : decode cL_law 677 = .ok (.iconst 4, 1) := dq_41_l_410.2.2.2.2.2.1
theorem dL_law_678 : decode cL_law 678 = .ok (.iadd, 1) := dq_41_l_410.2.2.2.2.2.2.1
theorem dL_law_679 : decode cL_law 679 = .ok (.iaload, 1) := dq_41_l_410.2.2.2.2.2.2.2.1
theorem dL_law_680 : decode cL_law 680 = .ok (.aload_n 0, 1) := dq_41_l_410.2.2.2.2.2.2.2.2.1
theorem dL_law_681 : decode cL_law 681 = .ok (.iload_n 3, 1) := dq_41_l_410.2.2.2.2.2.2.2.2.2
theorem dq_41_l_420 : (decode cL_law 682 = .ok (.iconst 5, 1)) ∧ (decode cL_law 683 = .ok (.iadd, 1)) ∧ (decode cL_law 684 = .ok (.iaload, 1)) ∧ (decode cL_law 685 = .ok (.invokevirtual 63, 3)) ∧ (decode cL_law 688 = .ok (.pop, 1)) ∧ (decode cL_law 689 = .ok (.aload_n 2, 1)) ∧ (decode cL_law 690 = .ok (.aload_n 0, 1)) ∧ (decode cL_law 691 = .ok (.iload_n 3, 1)) ∧ (decode cL_law 692 = .ok (.iconst 1, 1)) ∧ (decode cL_law 693 = .ok (.iadd, 1)) := by decide +kernel
theorem dL_law_682 : decode cL_law 682 = .ok (.iconst 5, 1) := dq_41_l_420.1
theorem dL_law_683 : decode cL_law 683 = .ok (.iadd, 1) := dq_41_l_420.2.1
theorem dL_law_684 : decode cL_law 684 = .ok (.iaload, 1) := dq_41_l_420.2.2.1
theorem dL_law_685 : decode cL_law 685 = .ok (.invokevirtual 63, 3) := dq_41_l_420.2.2.2.1
theorem dL_law_688 : decode cL_law 688 = .ok (.pop, 1) := dq_41_l_420.2.2.2.2.1
theorem dL_law_689 : decode cL_law 689 = .ok (.aload_n 2, 1) := dq_41_l_420.2.2.2.2.2.1
theorem dL_law_690 : decode cL_law 690 = .ok (.aload_n 0, 1) := dq_41_l_420.2.2.2.2.2.2.1
theorem dL_law_691 : decode cL_law 691 = .ok (.iload_n 3, 1) := dq_41_l_420.2.2.2.2.2.2.2.1
theorem dL_law_692 : decode cL_law 692 = .ok (.iconst 1, 1) := dq_41_l_420.2.2.2.2.2.2.2.2.1
theorem dL_law_693 : decode cL_law 693 = .ok (.iadd, 1) := dq_41_l_420.2.2.2.2.2.2.2.2.2
theorem dq_41_l_430 : (decode cL_law 694 = .ok (.iaload, 1)) ∧ (decode cL_law 695 = .ok (.aload_n 0, 1)) ∧ (decode cL_law 696 = .ok (.iload_n 3, 1)) ∧ (decode cL_law 697 = .ok (.iconst 2, 1)) ∧ (decode cL_law 698 = .ok (.iadd, 1)) ∧ (decode cL_law 699 = .ok (.iaload, 1)) ∧ (decode cL_law 700 = .ok (.aload_n 0, 1)) ∧ (decode cL_law 701 = .ok (.iload_n 3, 1)) ∧ (decode cL_law 702 = .ok (.iconst 3, 1)) ∧ (decode cL_law 703 = .ok (.iadd, 1)) := by decide +kernel
theorem dL_law_694 : decode cL_law 694 = .ok (.iaload, 1) := dq_41_l_430.1
theorem dL_law_695 : decode cL_law 695 = .ok (.aload_n 0, 1) := dq_41_l_430.2.1
theorem dL_law_696 : decode cL_law 696 = .ok (.iload_n 3, 1) := dq_41_l_430.2.2.1
theorem dL_law_697 : decode cL_law 697 = .ok (.iconst 2, 1) := dq_41_l_430.2.2.2.1
theorem dL_law_698 : decode cL_law 698 = .ok (.iadd, 1) := dq_41_l_430.2.2.2.2.1
theorem dL_law_699 : decode cL_law 699 = .ok (.iaload, 1) := dq_41_l_430.2.2.2.2.2.1
theorem dL_law_700 : decode cL_law 700 = .ok (.aload_n 0, 1) := dq_41_l_430.2.2.2.2.2.2.1
theorem dL_law_701 : decode cL_law 701 = .ok (.iload_n 3, 1) := dq_41_l_430.2.2.2.2.2.2.2.1
theorem dL_law_702 : decode cL_law 702 = .ok (.iconst 3, 1) := dq_41_l_430.2.2.2.2.2.2.2.2.1
theorem dL_law_703 : decode cL_law 703 = .ok (.iadd, 1) := dq_41_l_430.2.2.2.2.2.2.2.2.2
theorem dq_41_l_440 : (decode cL_law 704 = .ok (.iaload, 1)) ∧ (decode cL_law 705 = .ok (.aload_n 0, 1)) ∧ (decode cL_law 706 = .ok (.iload_n 3, 1)) ∧ (decode cL_law 707 = .ok (.iconst 4, 1)) ∧ (decode cL_law 708 = .ok (.iadd, 1)) ∧ (decode cL_law 709 = .ok (.iaload, 1)) ∧ (decode cL_law 710 = .ok (.aload_n 0, 1)) ∧ (decode cL_law 711 = .ok (.iload_n 3, 1)) ∧ (decode cL_law 712 = .ok (.iconst 5, 1)) ∧ (decode cL_law 713 = .ok (.iadd, 1)) := by decide +kernel
theorem dL_law_704 : decode cL_law 704 = .ok (.iaload, 1) := dq_41_l_440.1
theorem dL_law_705 : decode cL_law 705 = .ok (.aload_n 0, 1) := dq_41_l_440.2.1
theorem dL_law_706 : decode cL_law 706 = .ok (.iload_n 3, 1) := dq_41_l_440.2.2.1
theorem dL_law_707 : decode cL_law 707 = .ok (.iconst 4, 1) := dq_41_l_440.2.2.2.1
theorem dL_law_708 : decode cL_law 708 = .ok (.iadd, 1) := dq_41_l_440.2.2.2.2.1
theorem dL_law_709 : decode cL_law 709 = .ok (.iaload, 1) := dq_41_l_440.2.2.2.2.2.1
theorem dL_law_710 : decode cL_law 710 = .ok (.aload_n 0, 1) := dq_41_l_440.2.2.2.2.2.2.1
theorem dL_law_711 : decode cL_law 711 = .ok (.iload_n 3, 1) := dq_41_l_440.2.2.2.2.2.2.2.1
theorem dL_law_712 : decode cL_law 712 = .ok (.iconst 5, 1) := dq_41_l_440.2.2.2.2.2.2.2.2.1
theorem dL_law_713 : decode cL_law 713 = .ok (.iadd, 1) := dq_41_l_440.2.2.2.2.2.2.2.2.2
theorem dq_41_l_450 : (decode cL_law 714 = .ok (.iaload, 1)) ∧ (decode cL_law 715 = .ok (.invokevirtual 66, 3)) ∧ (decode cL_law 718 = .ok (.pop, 1)) ∧ (decode cL_law 719 = .ok (.goto 1159, 3)) ∧ (decode cL_law 722 = .ok (.aload_n 1, 1)) ∧ (decode cL_law 723 = .ok (.aload_n 0, 1)) ∧ (decode cL_law 724 = .ok (.iload_n 3, 1)) ∧ (decode cL_law 725 = .ok (.iconst 1, 1)) ∧ (decode cL_law 726 = .ok (.iadd, 1)) ∧ (decode cL_law 727 = .ok (.iaload, 1)) := by decide +kernel
theorem dL_law_714 : decode cL_law 714 = .ok (.iaload, 1) := dq_41_l_450.1
theorem dL_law_715 : decode cL_law 715 = .ok (.invokevirtual 66, 3) := dq_41_l_450.2.1
theorem dL_law_718 : decode cL_law 718 = .ok (.pop, 1) := dq_41_l_450.2.2.1
theorem dL_law_719 : decode cL_law 719 = .ok (.goto 1159, 3) := dq_41_l_450.2.2.2.1
theorem dL_law_722 : decode cL_law 722 = .ok (.aload_n 1, 1) := dq_41_l_450.2.2.2.2.1
theorem dL_law_723 : decode cL_law 723 = .ok (.aload_n 0, 1) := dq_41_l_450.2.2.2.2.2.1
theorem dL_law_724 : decode cL_law 724 = .ok (.iload_n 3, 1) := dq_41_l_450.2.2.2.2.2.2.1
theorem dL_law_725 : decode cL_law 725 = .ok (.iconst 1, 1) := dq_41_l_450.2.2.2.2.2.2.2.1
theorem dL_law_726 : decode cL_law 726 = .ok (.iadd, 1) := dq_41_l_450.2.2.2.2.2.2.2.2.1
theorem dL_law_727 : decode cL_law 727 = .ok (.iaload, 1) := dq_41_l_450.2.2.2.2.2.2.2.2.2
theorem dq_41_l_460 : (decode cL_law 728 = .ok (.aload_n 0, 1)) ∧ (decode cL_law 729 = .ok (.iload_n 3, 1)) ∧ (decode cL_law 730 = .ok (.iconst 2, 1)) ∧ (decode cL_law 731 = .ok (.iadd, 1)) ∧ (decode cL_law 732 = .ok (.iaload, 1)) ∧ (decode cL_law 733 = .ok (.aload_n 0, 1)) ∧ (decode cL_law 734 = .ok (.iload_n 3, 1)) ∧ (decode cL_law 735 = .ok (.iconst 3, 1)) ∧ (decode cL_law 736 = .ok (.iadd, 1)) ∧ (decode cL_law 737 = .ok (.iaload, 1)) := by decide +kernel
theorem dL_law_728 : decode cL_law 728 = .ok (.aload_n 0, 1) := dq_41_l_460.1
theorem dL_law_729 : decode cL_law 729 = .ok (.iload_n 3, 1) := dq_41_l_460.2.1
theorem dL_law_730 : decode cL_law 730 = .ok (.iconst 2, 1) := dq_41_l_460.2.2.1
theorem dL_law_731 : decode cL_law 731 = .ok (.iadd, 1) := dq_41_l_460.2.2.2.1
theorem dL_law_732 : decode cL_law 732 = .ok (.iaload, 1) := dq_41_l_460.2.2.2.2.1
theorem dL_law_733 : decode cL_law 733 = .ok (.aload_n 0, 1) := dq_41_l_460.2.2.2.2.2.1
theorem dL_law_734 : decode cL_law 734 = .ok (.iload_n 3, 1) := dq_41_l_460.2.2.2.2.2.2.1
theorem dL_law_735 : decode cL_law 735 = .ok (.iconst 3, 1) := dq_41_l_460.2.2.2.2.2.2.2.1
theorem dL_law_736 : decode cL_law 736 = .ok (.iadd, 1) := dq_41_l_460.2.2.2.2.2.2.2.2.1
theorem dL_law_737 : decode cL_law 737 = .ok (.iaload, 1) := dq_41_l_460.2.2.2.2.2.2.2.2.2
theorem dq_41_l_470 : (decode cL_law 738 = .ok (.aload_n 0, 1)) ∧ (decode cL_law 739 = .ok (.iload_n 3, 1)) ∧ (decode cL_law 740 = .ok (.iconst 4, 1)) ∧ (decode cL_law 741 = .ok (.iadd, 1)) ∧ (decode cL_law 742 = .ok (.iaload, 1)) ∧ (decode cL_law 743 = .ok (.aload_n 0, 1)) ∧ (decode cL_law 744 = .ok (.iload_n 3, 1)) ∧ (decode cL_law 745 = .ok (.iconst 5, 1)) ∧ (decode cL_law 746 = .ok (.iadd, 1)) ∧ (decode cL_law 747 = .ok (.iaload, 1)) := by decide +kernel
theorem dL_law_738 : decode cL_law 738 = .ok (.aload_n 0, 1) := dq_41_l_470.1
theorem dL_law_739 : decode cL_law 739 = .ok (.iload_n 3, 1) := dq_41_l_470.2.1
theorem dL_law_740 : decode cL_law 740 = .ok (.iconst 4, 1) := dq_41_l_470.2.2.1
theorem dL_law_741 : decode cL_law 741 = .ok (.iadd, 1) := dq_41_l_470.2.2.2.1
theorem dL_law_742 : decode cL_law 742 = .ok (.iaload, 1) := dq_41_l_470.2.2.2.2.1
theorem dL_law_743 : decode cL_law 743 = .ok (.aload_n 0, 1) := dq_41_l_470.2.2.2.2.2.1
theorem dL_law_744 : decode cL_law 744 = .ok (.iload_n 3, 1) := dq_41_l_470.2.2.2.2.2.2.1
theorem dL_law_745 : decode cL_law 745 = .ok (.iconst 5, 1) := dq_41_l_470.2.2.2.2.2.2.2.1
theorem dL_law_746 : decode cL_law 746 = .ok (.iadd, 1) := dq_41_l_470.2.2.2.2.2.2.2.2.1
theorem dL_law_747 : decode cL_law 747 = .ok (.iaload, 1) := dq_41_l_470.2.2.2.2.2.2.2.2.2
theorem dq_41_l_480 : (decode cL_law 748 = .ok (.aload_n 0, 1)) ∧ (decode cL_law 749 = .ok (.iload_n 3, 1)) ∧ (decode cL_law 750 = .ok (.bipush 6, 2)) ∧ (decode cL_law 752 = .ok (.iadd, 1)) ∧ (decode cL_law 753 = .ok (.iaload, 1)) ∧ (decode cL_law 754 = .ok (.invokevirtual 67, 3)) ∧ (decode cL_law 757 = .ok (.pop2, 1)) ∧ (decode cL_law 758 = .ok (.aload_n 2, 1)) ∧ (decode cL_law 759 = .ok (.aload_n 0, 1)) ∧ (decode cL_law 760 = .ok (.iload_n 3, 1)) := by decide +kernel
theorem dL_law_748 : decode cL_law 748 = .ok (.aload_n 0, 1) := dq_41_l_480.1
theorem dL_law_749 : decode cL_law 749 = .ok (.iload_n 3, 1) := dq_41_l_480.2.1
theorem dL_law_750 : decode cL_law 750 = .ok (.bipush 6, 2) := dq_41_l_480.2.2.1
theorem dL_law_752 : decode cL_law 752 = .ok (.iadd, 1) := dq_41_l_480.2.2.2.1
theorem dL_law_753 : decode cL_law 753 = .ok (.iaload, 1) := dq_41_l_480.2.2.2.2.1
theorem dL_law_754 : decode cL_law 754 = .ok (.invokevirtual 67, 3) := dq_41_l_480.2.2.2.2.2.1
theorem dL_law_757 : decode cL_law 757 = .ok (.pop2, 1) := dq_41_l_480.2.2.2.2.2.2.1
theorem dL_law_758 : decode cL_law 758 = .ok (.aload_n 2, 1) := dq_41_l_480.2.2.2.2.2.2.2.1
theorem dL_law_759 : decode cL_law 759 = .ok (.aload_n 0, 1) := dq_41_l_480.2.2.2.2.2.2.2.2.1
theorem dL_law_760 : decode cL_law 760 = .ok (.iload_n 3, 1) := dq_41_l_480.2.2.2.2.2.2.2.2.2
theorem dq_41_l_490 : (decode cL_law 761 = .ok (.iconst 1, 1)) ∧ (decode cL_law 762 = .ok (.iadd, 1)) ∧ (decode cL_law 763 = .ok (.iaload, 1)) ∧ (decode cL_law 764 = .ok (.aload_n 0, 1)) ∧ (decode cL_law 765 = .ok (.iload_n 3, 1)) ∧ (decode cL_law 766 = .ok (.iconst 2, 1)) ∧ (decode cL_law 767 = .ok (.iadd, 1)) ∧ (decode cL_law 768 = .ok (.iaload, 1)) ∧ (decode cL_law 769 = .ok (.aload_n 0, 1)) ∧ (decode cL_law 770 = .ok (.iload_n 3, 1)) := by decide +kernel
theorem dL_law_761 : decode cL_law 761 = .ok (.iconst 1, 1) := dq_41_l_490.1
theorem dL_law_762 : decode cL_law 762 = .ok (.iadd, 1) := dq_41_l_490.2.1
theorem dL_law_763 : decode cL_law 763 = .ok (.iaload, 1) := dq_41_l_490.2.2.1
theorem dL_law_764 : decode cL_law 764 = .ok (.aload_n 0, 1) := dq_41_l_490.2.2.2.1
theorem dL_law_765 : decode cL_law 765 = .ok (.iload_n 3, 1) := dq_41_l_490.2.2.2.2.1
theorem dL_law_766 : decode cL_law 766 = .ok (.iconst 2, 1) := dq_41_l_490.2.2.2.2.2.1
theorem dL_law_767 : decode cL_law 767 = .ok (.iadd, 1) := dq_41_l_490.2.2.2.2.2.2.1
theorem dL_law_768 : decode cL_law 768 = .ok (.iaload, 1) := dq_41_l_490.2.2.2.2.2.2.2.1
theorem dL_law_769 : decode cL_law 769 = .ok (.aload_n 0, 1) := dq_41_l_490.2.2.2.2.2.2.2.2.1
theorem dL_law_770 : decode cL_law 770 = .ok (.iload_n 3, 1) := dq_41_l_490.2.2.2.2.2.2.2.2.2
theorem dq_41_l_500 : (decode cL_law 771 = .ok (.iconst 3, 1)) ∧ (decode cL_law 772 = .ok (.iadd, 1)) ∧ (decode cL_law 773 = .ok (.iaload, 1)) ∧ (decode cL_law 774 = .ok (.aload_n 0, 1)) ∧ (decode cL_law 775 = .ok (.iload_n 3, 1)) ∧ (decode cL_law 776 = .ok (.iconst 4, 1)) ∧ (decode cL_law 777 = .ok (.iadd, 1)) ∧ (decode cL_law 778 = .ok (.iaload, 1)) ∧ (decode cL_law 779 = .ok (.aload_n 0, 1)) ∧ (decode cL_law 780 = .ok (.iload_n 3, 1)) := by decide +kernel
theorem dL_law_771 : decode cL_law 771 = .ok (.iconst 3, 1) := dq_41_l_500.1
theorem dL_law_772 : decode cL_law 772 = .ok (.iadd, 1) := dq_41_l_500.2.1
theorem dL_law_773 : decode cL_law 773 = .ok (.iaload, 1) := dq_41_l_500.2.2.1
theorem dL_law_774 : decode cL_law 774 = .ok (.aload_n 0, 1) := dq_41_l_500.2.2.2.1
theorem dL_law_775 : decode cL_law 775 = .ok (.iload_n 3, 1) := dq_41_l_500.2.2.2.2.1
theorem dL_law_776 : decode cL_law 776 = .ok (.iconst 4, 1) := dq_41_l_500.2.2.2.2.2.1
theorem dL_law_777 : decode cL_law 777 = .ok (.iadd, 1) := dq_41_l_500.2.2.2.2.2.2.1
theorem dL_law_778 : decode cL_law 778 = .ok (.iaload, 1) := dq_41_l_500.2.2.2.2.2.2.2.1
theorem dL_law_779 : decode cL_law 779 = .ok (.aload_n 0, 1) := dq_41_l_500.2.2.2.2.2.2.2.2.1
theorem dL_law_780 : decode cL_law 780 = .ok (.iload_n 3, 1) := dq_41_l_500.2.2.2.2.2.2.2.2.2
theorem dq_41_l_510 : (decode cL_law 781 = .ok (.iconst 5, 1)) ∧ (decode cL_law 782 = .ok (.iadd, 1)) ∧ (decode cL_law 783 = .ok (.iaload, 1)) ∧ (decode cL_law 784 = .ok (.aload_n 0, 1)) ∧ (decode cL_law 785 = .ok (.iload_n 3, 1)) ∧ (decode cL_law 786 = .ok (.bipush 6, 2)) ∧ (decode cL_law 788 = .ok (.iadd, 1)) ∧ (decode cL_law 789 = .ok (.iaload, 1)) ∧ (decode cL_law 790 = .ok (.invokevirtual 71, 3)) ∧ (decode cL_law 793 = .ok (.pop2, 1)) := by decide +kernel
theorem dL_law_781 : decode cL_law 781 = .ok (.iconst 5, 1) := dq_41_l_510.1
theorem dL_law_782 : decode cL_law 782 = .ok (.iadd, 1) := dq_41_l_510.2.1
theorem dL_law_783 : decode cL_law 783 = .ok (.iaload, 1) := dq_41_l_510.2.2.1
theorem dL_law_784 : decode cL_law 784 = .ok (.aload_n 0, 1) := dq_41_l_510.2.2.2.1
theorem dL_law_785 : decode cL_law 785 = .ok (.iload_n 3, 1) := dq_41_l_510.2.2.2.2.1
theorem dL_law_786 : decode cL_law 786 = .ok (.bipush 6, 2) := dq_41_l_510.2.2.2.2.2.1
theorem dL_law_788 : decode cL_law 788 = .ok (.iadd, 1) := dq_41_l_510.2.2.2.2.2.2.1
theorem dL_law_789 : decode cL_law 789 = .ok (.iaload, 1) := dq_41_l_510.2.2.2.2.2.2.2.1
theorem dL_law_790 : decode cL_law 790 = .ok (.invokevirtual 71, 3) := dq_41_l_510.2.2.2.2.2.2.2.2.1
theorem dL_law_793 : decode cL_law 793 = .ok (.pop2, 1) := dq_41_l_510.2.2.2.2.2.2.2.2.2
theorem dq_41_l_520 : (decode cL_law 794 = .ok (.goto 1084, 3)) ∧ (decode cL_law 797 = .ok (.aload_n 1, 1)) ∧ (decode cL_law 798 = .ok (.aload_n 0, 1)) ∧ (decode cL_law 799 = .ok (.iload_n 3, 1)) ∧ (decode cL_law 800 = .ok (.iconst 1, 1)) ∧ (decode cL_law 801 = .ok (.iadd, 1)) ∧ (decode cL_law 802 = .ok (.iaload, 1)) ∧ (decode cL_law 803 = .ok (.aload_n 0, 1)) ∧ (decode cL_law 804 = .ok (.iload_n 3, 1)) ∧ (decode cL_law 805 = .ok (.iconst 2, 1)) := by decide +kernel
theorem dL_law_794 : decode cL_law 794 = .ok (.goto 1084, 3) := dq_41_l_520.1
theorem dL_law_797 : decode cL_law 797 = .ok (.aload_n 1, 1) := dq_41_l_520.2.1
theorem dL_law_798 : decode cL_law 798 = .ok (.aload_n 0, 1) := dq_41_l_520.2.2.1
theorem dL_law_799 : decode cL_law 799 = .ok (.iload_n 3, 1) := dq_41_l_520.2.2.2.1
theorem dL_law_800 : decode cL_law 800 = .ok (.iconst 1, 1) := dq_41_l_520.2.2.2.2.1
theorem dL_law_801 : decode cL_law 801 = .ok (.iadd, 1) := dq_41_l_520.2.2.2.2.2.1
theorem dL_law_802 : decode cL_law 802 = .ok (.iaload, 1) := dq_41_l_520.2.2.2.2.2.2.1
theorem dL_law_803 : decode cL_law 803 = .ok (.aload_n 0, 1) := dq_41_l_520.2.2.2.2.2.2.2.1
theorem dL_law_804 : decode cL_law 804 = .ok (.iload_n 3, 1) := dq_41_l_520.2.2.2.2.2.2.2.2.1
theorem dL_law_805 : decode cL_law 805 = .ok (.iconst 2, 1) := dq_41_l_520.2.2.2.2.2.2.2.2.2
theorem dq_41_l_530 : (decode cL_law 806 = .ok (.iadd, 1)) ∧ (decode cL_law 807 = .ok (.iaload, 1)) ∧ (decode cL_law 808 = .ok (.aload_n 0, 1)) ∧ (decode cL_law 809 = .ok (.iload_n 3, 1)) ∧ (decode cL_law 810 = .ok (.iconst 3, 1)) ∧ (decode cL_law 811 = .ok (.iadd, 1)) ∧ (decode cL_law 812 = .ok (.iaload, 1)) ∧ (decode cL_law 813 = .ok (.aload_n 0, 1)) ∧ (decode cL_law 814 = .ok (.iload_n 3, 1)) ∧ (decode cL_law 815 = .ok (.iconst 4, 1)) := by decide +kernel
theorem dL_law_806 : decode cL_law 806 = .ok (.iadd, 1) := dq_41_l_530.1
theorem dL_law_807 : decode cL_law 807 = .ok (.iaload, 1) := dq_41_l_530.2.1
theorem dL_law_808 : decode cL_law 808 = .ok (.aload_n 0, 1) := dq_41_l_530.2.2.1
theorem dL_law_809 : decode cL_law 809 = .ok (.iload_n 3, 1) := dq_41_l_530.2.2.2.1
theorem dL_law_810 : decode cL_law 810 = .ok (.iconst 3, 1) := dq_41_l_530.2.2.2.2.1
theorem dL_law_811 : decode cL_law 811 = .ok (.iadd, 1) := dq_41_l_530.2.2.2.2.2.1
theorem dL_law_812 : decode cL_law 812 = .ok (.iaload, 1) := dq_41_l_530.2.2.2.2.2.2.1
theorem dL_law_813 : decode cL_law 813 = .ok (.aload_n 0, 1) := dq_41_l_530.2.2.2.2.2.2.2.1
theorem dL_law_814 : decode cL_law 814 = .ok (.iload_n 3, 1) := dq_41_l_530.2.2.2.2.2.2.2.2.1
theorem dL_law_815 : decode cL_law 815 = .ok (.iconst 4, 1) := dq_41_l_530.2.2.2.2.2.2.2.2.2
theorem dq_41_l_540 : (decode cL_law 816 = .ok (.iadd, 1)) ∧ (decode cL_law 817 = .ok (.iaload, 1)) ∧ (decode cL_law 818 = .ok (.invokevirtual 72, 3)) ∧ (decode cL_law 821 = .ok (.pop2, 1)) ∧ (decode cL_law 822 = .ok (.aload_n 2, 1)) ∧ (decode cL_law 823 = .ok (.aload_n 0, 1)) ∧ (decode cL_law 824 = .ok (.iload_n 3, 1)) ∧ (decode cL_law 825 = .ok (.iconst 1, 1)) ∧ (decode cL_law 826 = .ok (.iadd, 1)) ∧ (decode cL_law 827 = .ok (.iaload, 1)) := by decide +kernel
theorem dL_law_816 : decode cL_law 816 = .ok (.iadd, 1) := dq_41_l_540.1
theorem dL_law_817 : decode cL_law 817 = .ok (.iaload, 1) := dq_41_l_540.2.1
theorem dL_law_818 : decode cL_law 818 = .ok (.invokevirtual 72, 3) := dq_41_l_540.2.2.1
theorem dL_law_821 : decode cL_law 821 = .ok (.pop2, 1) := dq_41_l_540.2.2.2.1
theorem dL_law_822 : decode cL_law 822 = .ok (.aload_n 2, 1) := dq_41_l_540.2.2.2.2.1
theorem dL_law_823 : decode cL_law 823 = .ok (.aload_n 0, 1) := dq_41_l_540.2.2.2.2.2.1
theorem dL_law_824 : decode cL_law 824 = .ok (.iload_n 3, 1) := dq_41_l_540.2.2.2.2.2.2.1
theorem dL_law_825 : decode cL_law 825 = .ok (.iconst 1, 1) := dq_41_l_540.2.2.2.2.2.2.2.1
theorem dL_law_826 : decode cL_law 826 = .ok (.iadd, 1) := dq_41_l_540.2.2.2.2.2.2.2.2.1
theorem dL_law_827 : decode cL_law 827 = .ok (.iaload, 1) := dq_41_l_540.2.2.2.2.2.2.2.2.2
theorem dq_41_l_550 : (decode cL_law 828 = .ok (.aload_n 0, 1)) ∧ (decode cL_law 829 = .ok (.iload_n 3, 1)) ∧ (decode cL_law 830 = .ok (.iconst 2, 1)) ∧ (decode cL_law 831 = .ok (.iadd, 1)) ∧ (decode cL_law 832 = .ok (.iaload, 1)) ∧ (decode cL_law 833 = .ok (.aload_n 0, 1)) ∧ (decode cL_law 834 = .ok (.iload_n 3, 1)) ∧ (decode cL_law 835 = .ok (.iconst 3, 1)) ∧ (decode cL_law 836 = .ok (.iadd, 1)) ∧ (decode cL_law 837 = .ok (.iaload, 1)) := by decide +kernel
theorem dL_law_828 : decode cL_law 828 = .ok (.aload_n 0, 1) := dq_41_l_550.1
theorem dL_law_829 : decode cL_law 829 = .ok (.iload_n 3, 1) := dq_41_l_550.2.1
theorem dL_law_830 : decode cL_law 830 = .ok (.iconst 2, 1) := dq_41_l_550.2.2.1
theorem dL_law_831 : decode cL_law 831 = .ok (.iadd, 1) := dq_41_l_550.2.2.2.1
theorem dL_law_832 : decode cL_law 832 = .ok (.iaload, 1) := dq_41_l_550.2.2.2.2.1
theorem dL_law_833 : decode cL_law 833 = .ok (.aload_n 0, 1) := dq_41_l_550.2.2.2.2.2.1
theorem dL_law_834 : decode cL_law 834 = .ok (.iload_n 3, 1) := dq_41_l_550.2.2.2.2.2.2.1
theorem dL_law_835 : decode cL_law 835 = .ok (.iconst 3, 1) := dq_41_l_550.2.2.2.2.2.2.2.1
theorem dL_law_836 : decode cL_law 836 = .ok (.iadd, 1) := dq_41_l_550.2.2.2.2.2.2.2.2.1
theorem dL_law_837 : decode cL_law 837 = .ok (.iaload, 1) := dq_41_l_550.2.2.2.2.2.2.2.2.2
theorem dq_41_l_560 : (decode cL_law 838 = .ok (.aload_n 0, 1)) ∧ (decode cL_law 839 = .ok (.iload_n 3, 1)) ∧ (decode cL_law 840 = .ok (.iconst 4, 1)) ∧ (decode cL_law 841 = .ok (.iadd, 1)) ∧ (decode cL_law 842 = .ok (.iaload, 1)) ∧ (decode cL_law 843 = .ok (.invokevirtual 76, 3)) ∧ (decode cL_law 846 = .ok (.pop2, 1)) ∧ (decode cL_law 847 = .ok (.goto 1031, 3)) ∧ (decode cL_law 850 = .ok (.aload_n 1, 1)) ∧ (decode cL_law 851 = .ok (.aload_n 0, 1)) := by decide +kernel
theorem dL_law_838 : decode cL_law 838 = .ok (.aload_n 0, 1) := dq_41_l_560.1
theorem dL_law_839 : decode cL_law 839 = .ok (.iload_n 3, 1) := dq_41_l_560.2.1
theorem dL_law_840 : decode cL_law 840 = .ok (.iconst 4, 1) := dq_41_l_560.2.2.1
theorem dL_law_841 : decode cL_law 841 = .ok (.iadd, 1) := dq_41_l_560.2.2.2.1
theorem dL_law_842 : decode cL_law 842 = .ok (.iaload, 1) := dq_41_l_560.2.2.2.2.1
theorem dL_law_843 : decode cL_law 843 = .ok (.invokevirtual 76, 3) := dq_41_l_560.2.2.2.2.2.1
theorem dL_law_846 : decode cL_law 846 = .ok (.pop2, 1) := dq_41_l_560.2.2.2.2.2.2.1
theorem dL_law_847 : decode cL_law 847 = .ok (.goto 1031, 3) := dq_41_l_560.2.2.2.2.2.2.2.1
theorem dL_law_850 : decode cL_law 850 = .ok (.aload_n 1, 1) := dq_41_l_560.2.2.2.2.2.2.2.2.1
theorem dL_law_851 : decode cL_law 851 = .ok (.aload_n 0, 1) := dq_41_l_560.2.2.2.2.2.2.2.2.2
theorem dq_41_l_570 : (decode cL_law 852 = .ok (.iload_n 3, 1)) ∧ (decode cL_law 853 = .ok (.iconst 1, 1)) ∧ (decode cL_law 854 = .ok (.iadd, 1)) ∧ (decode cL_law 855 = .ok (.iaload, 1)) ∧ (decode cL_law 856 = .ok (.invokevirtual 77, 3)) ∧ (decode cL_law 859 = .ok (.pop2, 1)) ∧ (decode cL_law 860 = .ok (.aload_n 2, 1)) ∧ (decode cL_law 861 = .ok (.aload_n 0, 1)) ∧ (decode cL_law 862 = .ok (.iload_n 3, 1)) ∧ (decode cL_law 863 = .ok (.iconst 1, 1)) := by decide +kernel
theorem dL_law_852 : decode cL_law 852 = .ok (.iload_n 3, 1) := dq_41_l_570.1
theorem dL_law_853 : decode cL_law 853 = .ok (.iconst 1, 1) := dq_41_l_570.2.1
theorem dL_law_854 : decode cL_law 854 = .ok (.iadd, 1) := dq_41_l_570.2.2.1
theorem dL_law_855 : decode cL_law 855 = .ok (.iaload, 1) := dq_41_l_570.2.2.2.1
theorem dL_law_856 : decode cL_law 856 = .ok (.invokevirtual 77, 3) := dq_41_l_570.2.2.2.2.1
theorem dL_law_859 : decode cL_law 859 = .ok (.pop2, 1) := dq_41_l_570.2.2.2.2.2.1
theorem dL_law_860 : decode cL_law 860 = .ok (.aload_n 2, 1) := dq_41_l_570.2.2.2.2.2.2.1
theorem dL_law_861 : decode cL_law 861 = .ok (.aload_n 0, 1) := dq_41_l_570.2.2.2.2.2.2.2.1
theorem dL_law_862 : decode cL_law 862 = .ok (.iload_n 3, 1) := dq_41_l_570.2.2.2.2.2.2.2.2.1
theorem dL_law_863 : decode cL_law 863 = .ok (.iconst 1, 1) := dq_41_l_570.2.2.2.2.2.2.2.2.2
theorem dq_41_l_580 : (decode cL_law 864 = .ok (.iadd, 1)) ∧ (decode cL_law 865 = .ok (.iaload, 1)) ∧ (decode cL_law 866 = .ok (.invokevirtual 81, 3)) ∧ (decode cL_law 869 = .ok (.pop2, 1)) ∧ (decode cL_law 870 = .ok (.goto 1008, 3)) ∧ (decode cL_law 873 = .ok (.aload_n 1, 1)) ∧ (decode cL_law 874 = .ok (.aload_n 0, 1)) ∧ (decode cL_law 875 = .ok (.iload_n 3, 1)) ∧ (decode cL_law 876 = .ok (.iconst 1, 1)) ∧ (decode cL_law 877 = .ok (.iadd, 1)) := by decide +kernel
theorem dL_law_864 : decode cL_law 864 = .ok (.iadd, 1) := dq_41_l_580.1
theorem dL_law_865 : decode cL_law 865 = .ok (.iaload, 1) := dq_41_l_580.2.1
theorem dL_law_866 : decode cL_law 866 = .ok (.invokevirtual 81, 3) := dq_41_l_580.2.2.1
theorem dL_law_869 : decode cL_law 869 = .ok (.pop2, 1) := dq_41_l_580.2.2.2.1
theorem dL_law_870 : decode cL_law 870 = .ok (.goto 1008, 3) := dq_41_l_580.2.2.2.2.1
theorem dL_law_873 : decode cL_law 873 = .ok (.aload_n 1, 1) := dq_41_l_580.2.2.2.2.2.1
theorem dL_law_874 : decode cL_law 874 = .ok (.aload_n 0, 1) := dq_41_l_580.2.2.2.2.2.2.1
theorem dL_law_875 : decode cL_law 875 = .ok (.iload_n 3, 1) := dq_41_l_580.2.2.2.2.2.2.2.1
theorem dL_law_876 : decode cL_law 876 = .ok (.iconst 1, 1) := dq_41_l_580.2.2.2.2.2.2.2.2.1
theorem dL_law_877 : decode cL_law 877 = .ok (.iadd, 1) := dq_41_l_580.2.2.2.2.2.2.2.2.2
theorem dq_41_l_590 : (decode cL_law 878 = .ok (.iaload, 1)) ∧ (decode cL_law 879 = .ok (.aload_n 0, 1)) ∧ (decode cL_law 880 = .ok (.iload_n 3, 1)) ∧ (decode cL_law 881 = .ok (.iconst 2, 1)) ∧ (decode cL_law 882 = .ok (.iadd, 1)) ∧ (decode cL_law 883 = .ok (.iaload, 1)) ∧ (decode cL_law 884 = .ok (.invokevirtual 82, 3)) ∧ (decode cL_law 887 = .ok (.pop, 1)) ∧ (decode cL_law 888 = .ok (.aload_n 2, 1)) ∧ (decode cL_law 889 = .ok (.aload_n 0, 1)) := by decide +kernel
theorem dL_law_878 : decode cL_law 878 = .ok (.iaload, 1) := dq_41_l_590.1
theorem dL_law_879 : decode cL_law 879 = .ok (.aload_n 0, 1) := dq_41_l_590.2.1
theorem dL_law_880 : decode cL_law 880 = .ok (.iload_n 3, 1) := dq_41_l_590.2.2.1
theorem dL_law_881 : decode cL_law 881 = .ok (.iconst 2, 1) := dq_41_l_590.2.2.2.1
theorem dL_law_882 : decode cL_law 882 = .ok (.iadd, 1) := dq_41_l_590.2.2.2.2.1
theorem dL_law_883 : decode cL_law 883 = .ok (.iaload, 1) := dq_41_l_590.2.2.2.2.2.1
theorem dL_law_884 : decode cL_law 884 = .ok (.invokevirtual 82, 3) := dq_41_l_590.2.2.2.2.2.2.1
theorem dL_law_887 : decode cL_law 887 = .ok (.pop, 1) := dq_41_l_590.2.2.2.2.2.2.2.1
theorem dL_law_888 : decode cL_law 888 = .ok (.aload_n 2, 1) := dq_41_l_590.2.2.2.2.2.2.2.2.1
theorem dL_law_889 : decode cL_law 889 = .ok (.aload_n 0, 1) := dq_41_l_590.2.2.2.2.2.2.2.2.2
theorem dq_41_l_600 : (decode cL_law 890 = .ok (.iload_n 3, 1)) ∧ (decode cL_law 891 = .ok (.iconst 1, 1)) ∧ (decode cL_law 892 = .ok (.iadd, 1)) ∧ (decode cL_law 893 = .ok (.iaload, 1)) ∧ (decode cL_law 894 = .ok (.aload_n 0, 1)) ∧ (decode cL_law 895 = .ok (.iload_n 3, 1)) ∧ (decode cL_law 896 = .ok (.iconst 2, 1)) ∧ (decode cL_law 897 = .ok (.iadd, 1)) ∧ (decode cL_law 898 = .ok (.iaload, 1)) ∧ (decode cL_law 899 = .ok (.invokevirtual 85, 3)) := by decide +kernel
theorem dL_law_890 : decode cL_law 890 = .ok (.iload_n 3, 1) := dq_41_l_600.1
theorem dL_law_891 : decode cL_law 891 = .ok (.iconst 1, 1) := dq_41_l_600.2.1
theorem dL_law_892 : decode cL_law 892 = .ok (.iadd, 1) := dq_41_l_600.2.2.1
theorem dL_law_893 : decode cL_law 893 = .ok (.iaload, 1) := dq_41_l_600.2.2.2.1
theorem dL_law_894 : decode cL_law 894 = .ok (.aload_n 0, 1) := dq_41_l_600.2.2.2.2.1
theorem dL_law_895 : decode cL_law 895 = .ok (.iload_n 3, 1) := dq_41_l_600.2.2.2.2.2.1
theorem dL_law_896 : decode cL_law 896 = .ok (.iconst 2, 1) := dq_41_l_600.2.2.2.2.2.2.1
theorem dL_law_897 : decode cL_law 897 = .ok (.iadd, 1) := dq_41_l_600.2.2.2.2.2.2.2.1
theorem dL_law_898 : decode cL_law 898 = .ok (.iaload, 1) := dq_41_l_600.2.2.2.2.2.2.2.2.1
theorem dL_law_899 : decode cL_law 899 = .ok (.invokevirtual 85, 3) := dq_41_l_600.2.2.2.2.2.2.2.2.2
theorem dq_41_l_610 : (decode cL_law 902 = .ok (.pop, 1)) ∧ (decode cL_law 903 = .ok (.goto 975, 3)) ∧ (decode cL_law 906 = .ok (.aload_n 1, 1)) ∧ (decode cL_law 907 = .ok (.aload_n 0, 1)) ∧ (decode cL_law 908 = .ok (.iload_n 3, 1)) ∧ (decode cL_law 909 = .ok (.iconst 1, 1)) ∧ (decode cL_law 910 = .ok (.iadd, 1)) ∧ (decode cL_law 911 = .ok (.iaload, 1)) ∧ (decode cL_law 912 = .ok (.aload_n 0, 1)) ∧ (decode cL_law 913 = .ok (.iload_n 3, 1)) := by decide +kernel
theorem dL_law_902 : decode cL_law 902 = .ok (.pop, 1) := dq_41_l_610.1
theorem dL_law_903 : decode cL_law 903 = .ok (.goto 975, 3) := dq_41_l_610.2.1
theorem dL_law_906 : decode cL_law 906 = .ok (.aload_n 1, 1) := dq_41_l_610.2.2.1
theorem dL_law_907 : decode cL_law 907 = .ok (.aload_n 0, 1) := dq_41_l_610.2.2.2.1
theorem dL_law_908 : decode cL_law 908 = .ok (.iload_n 3, 1) := dq_41_l_610.2.2.2.2.1
theorem dL_law_909 : decode cL_law 909 = .ok (.iconst 1, 1) := dq_41_l_610.2.2.2.2.2.1
theorem dL_law_910 : decode cL_law 910 = .ok (.iadd, 1) := dq_41_l_610.2.2.2.2.2.2.1
theorem dL_law_911 : decode cL_law 911 = .ok (.iaload, 1) := dq_41_l_610.2.2.2.2.2.2.2.1
theorem dL_law_912 : decode cL_law 912 = .ok (.aload_n 0, 1) := dq_41_l_610.2.2.2.2.2.2.2.2.1
theorem dL_law_913 : decode cL_law 913 = .ok (.iload_n 3, 1) := dq_41_l_610.2.2.2.2.2.2.2.2.2
theorem dq_41_l_620 : (decode cL_law 914 = .ok (.iconst 2, 1)) ∧ (decode cL_law 915 = .ok (.iadd, 1)) ∧ (decode cL_law 916 = .ok (.iaload, 1)) ∧ (decode cL_law 917 = .ok (.invokevirtual 86, 3)) ∧ (decode cL_law 920 = .ok (.pop, 1)) ∧ (decode cL_law 921 = .ok (.aload_n 2, 1)) ∧ (decode cL_law 922 = .ok (.aload_n 0, 1)) ∧ (decode cL_law 923 = .ok (.iload_n 3, 1)) ∧ (decode cL_law 924 = .ok (.iconst 1, 1)) ∧ (decode cL_law 925 = .ok (.iadd, 1)) := by decide +kernel
theorem dL_law_914 : decode cL_law 914 = .ok (.iconst 2, 1) := dq_41_l_620.1
theorem dL_law_915 : decode cL_law 915 = .ok (.iadd, 1) := dq_41_l_620.2.1
theorem dL_law_916 : decode cL_law 916 = .ok (.iaload, 1) := dq_41_l_620.2.2.1
theorem dL_law_917 : decode cL_law 917 = .ok (.invokevirtual 86, 3) := dq_41_l_620.2.2.2.1
theorem dL_law_920 : decode cL_law 920 = .ok (.pop, 1) := dq_41_l_620.2.2.2.2.1
theorem dL_law_921 : decode cL_law 921 = .ok (.aload_n 2, 1) := dq_41_l_620.2.2.2.2.2.1
theorem dL_law_922 : decode cL_law 922 = .ok (.aload_n 0, 1) := dq_41_l_620.2.2.2.2.2.2.1
theorem dL_law_923 : decode cL_law 923 = .ok (.iload_n 3, 1) := dq_41_l_620.2.2.2.2.2.2.2.1
theorem dL_law_924 : decode cL_law 924 = .ok (.iconst 1, 1) := dq_41_l_620.2.2.2.2.2.2.2.2.1
theorem dL_law_925 : decode cL_law 925 = .ok (.iadd, 1) := dq_41_l_620.2.2.2.2.2.2.2.2.2
theorem dq_41_l_630 : (decode cL_law 926 = .ok (.iaload, 1)) ∧ (decode cL_law 927 = .ok (.aload_n 0, 1)) ∧ (decode cL_law 928 = .ok (.iload_n 3, 1)) ∧ (decode cL_law 929 = .ok (.iconst 2, 1)) ∧ (decode cL_law 930 = .ok (.iadd, 1)) ∧ (decode cL_law 931 = .ok (.iaload, 1)) ∧ (decode cL_law 932 = .ok (.invokevirtual 89, 3)) ∧ (decode cL_law 935 = .ok (.pop, 1)) ∧ (decode cL_law 936 = .ok (.goto 942, 3)) ∧ (decode cL_law 939 = .ok (.aload_n 1, 1)) := by decide +kernel
theorem dL_law_926 : decode cL_law 926 = .ok (.iaload, 1) := dq_41_l_630.1
theorem dL_law_927 : decode cL_law 927 = .ok (.aload_n 0, 1) := dq_41_l_630.2.1
theorem dL_law_928 : decode cL_law 928 = .ok (.iload_n 3, 1) := dq_41_l_630.2.2.1
theorem dL_law_929 : decode cL_law 929 = .ok (.iconst 2, 1) := dq_41_l_630.2.2.2.1
theorem dL_law_930 : decode cL_law 930 = .ok (.iadd, 1) := dq_41_l_630.2.2.2.2.1
theorem dL_law_931 : decode cL_law 931 = .ok (.iaload, 1) := dq_41_l_630.2.2.2.2.2.1
theorem dL_law_932 : decode cL_law 932 = .ok (.invokevirtual 89, 3) := dq_41_l_630.2.2.2.2.2.2.1
theorem dL_law_935 : decode cL_law 935 = .ok (.pop, 1) := dq_41_l_630.2.2.2.2.2.2.2.1
theorem dL_law_936 : decode cL_law 936 = .ok (.goto 942, 3) := dq_41_l_630.2.2.2.2.2.2.2.2.1
theorem dL_law_939 : decode cL_law 939 = .ok (.aload_n 1, 1) := dq_41_l_630.2.2.2.2.2.2.2.2.2
theorem dq_41_l_640 : (decode cL_law 940 = .ok (.aload_n 0, 1)) ∧ (decode cL_law 941 = .ok (.iload_n 3, 1)) ∧ (decode cL_law 942 = .ok (.iconst 1, 1)) ∧ (decode cL_law 943 = .ok (.iadd, 1)) ∧ (decode cL_law 944 = .ok (.iaload, 1)) ∧ (decode cL_law 945 = .ok (.aload_n 0, 1)) ∧ (decode cL_law 946 = .ok (.iload_n 3, 1)) ∧ (decode cL_law 947 = .ok (.iconst 2, 1)) ∧ (decode cL_law 948 = .ok (.iadd, 1)) ∧ (decode cL_law 949 = .ok (.iaload, 1)) := by decide +kernel
theorem dL_law_940 : decode cL_law 940 = .ok (.aload_n 0, 1) := dq_41_l_640.1
theorem dL_law_941 : decode cL_law 941 = .ok (.iload_n 3, 1) := dq_41_l_640.2.1
theorem dL_law_942 : decode cL_law 942 = .ok (.iconst 1, 1) := dq_41_l_640.2.2.1
theorem dL_law_943 : decode cL_law 943 = .ok (.iadd, 1) := dq_41_l_640.2.2.2.1
theorem dL_law_944 : decode cL_law 944 = .ok (.iaload, 1) := dq_41_l_640.2.2.2.2.1
theorem dL_law_945 : decode cL_law 945 = .ok (.aload_n 0, 1) := dq_41_l_640.2.2.2.2.2.1
theorem dL_law_946 : decode cL_law 946 = .ok (.iload_n 3, 1) := dq_41_l_640.2.2.2.2.2.2.1
theorem dL_law_947 : decode cL_law 947 = .ok (.iconst 2, 1) := dq_41_l_640.2.2.2.2.2.2.2.1
theorem dL_law_948 : decode cL_law 948 = .ok (.iadd, 1) := dq_41_l_640.2.2.2.2.2.2.2.2.1
theorem dL_law_949 : decode cL_law 949 = .ok (.iaload, 1) := dq_41_l_640.2.2.2.2.2.2.2.2.2
theorem dq_41_l_650 : (decode cL_law 950 = .ok (.aload_n 0, 1)) ∧ (decode cL_law 951 = .ok (.iload_n 3, 1)) ∧ (decode cL_law 952 = .ok (.iconst 3, 1)) ∧ (decode cL_law 953 = .ok (.iadd, 1)) ∧ (decode cL_law 954 = .ok (.iaload, 1)) ∧ (decode cL_law 955 = .ok (.invokevirtual 90, 3)) ∧ (decode cL_law 958 = .ok (.pop, 1)) ∧ (decode cL_law 959 = .ok (.aload_n 2, 1)) ∧ (decode cL_law 960 = .ok (.aload_n 0, 1)) ∧ (decode cL_law 961 = .ok (.iload_n 3, 1)) := by decide +kernel
theorem dL_law_950 : decode cL_law 950 = .ok (.aload_n 0, 1) := dq_41_l_650.1
theorem dL_law_951 : decode cL_law 951 = .ok (.iload_n 3, 1) := dq_41_l_650.2.1
theorem dL_law_952 : decode cL_law 952 = .ok (.iconst 3, 1) := dq_41_l_650.2.2.1
theorem dL_law_953 : decode cL_law 953 = .ok (.iadd, 1) := dq_41_l_650.2.2.2.1
theorem dL_law_954 : decode cL_law 954 = .ok (.iaload, 1) := dq_41_l_650.2.2.2.2.1
theorem dL_law_955 : decode cL_law 955 = .ok (.invokevirtual 90, 3) := dq_41_l_650.2.2.2.2.2.1
theorem dL_law_958 : decode cL_law 958 = .ok (.pop, 1) := dq_41_l_650.2.2.2.2.2.2.1
theorem dL_law_959 : decode cL_law 959 = .ok (.aload_n 2, 1) := dq_41_l_650.2.2.2.2.2.2.2.1
theorem dL_law_960 : decode cL_law 960 = .ok (.aload_n 0, 1) := dq_41_l_650.2.2.2.2.2.2.2.2.1
theorem dL_law_961 : decode cL_law 961 = .ok (.iload_n 3, 1) := dq_41_l_650.2.2.2.2.2.2.2.2.2
theorem dq_41_l_660 : (decode cL_law 962 = .ok (.iconst 1, 1)) ∧ (decode cL_law 963 = .ok (.iadd, 1)) ∧ (decode cL_law 964 = .ok (.iaload, 1)) ∧ (decode cL_law 965 = .ok (.aload_n 0, 1)) ∧ (decode cL_law 966 = .ok (.iload_n 3, 1)) ∧ (decode cL_law 967 = .ok (.iconst 2, 1)) ∧ (decode cL_law 968 = .ok (.iadd, 1)) ∧ (decode cL_law 969 = .ok (.iaload, 1)) ∧ (decode cL_law 970 = .ok (.aload_n 0, 1)) ∧ (decode cL_law 971 = .ok (.iload_n 3, 1)) := by decide +kernel
theorem dL_law_962 : decode cL_law 962 = .ok (.iconst 1, 1) := dq_41_l_660.1
theorem dL_law_963 : decode cL_law 963 = .ok (.iadd, 1) := dq_41_l_660.2.1
theorem dL_law_964 : decode cL_law 964 = .ok (.iaload, 1) := dq_41_l_660.2.2.1
theorem dL_law_965 : decode cL_law 965 = .ok (.aload_n 0, 1) := dq_41_l_660.2.2.2.1
theorem dL_law_966 : decode cL_law 966 = .ok (.iload_n 3, 1) := dq_41_l_660.2.2.2.2.1
theorem dL_law_967 : decode cL_law 967 = .ok (.iconst 2, 1) := dq_41_l_660.2.2.2.2.2.1
theorem dL_law_968 : decode cL_law 968 = .ok (.iadd, 1) := dq_41_l_660.2.2.2.2.2.2.1
theorem dL_law_969 : decode cL_law 969 = .ok (.iaload, 1) := dq_41_l_660.2.2.2.2.2.2.2.1
theorem dL_law_970 : decode cL_law 970 = .ok (.aload_n 0, 1) := dq_41_l_660.2.2.2.2.2.2.2.2.1
theorem dL_law_971 : decode cL_law 971 = .ok (.iload_n 3, 1) := dq_41_l_660.2.2.2.2.2.2.2.2.2
theorem dq_41_l_670 : (decode cL_law 972 = .ok (.iconst 3, 1)) ∧ (decode cL_law 973 = .ok (.iadd, 1)) ∧ (decode cL_law 974 = .ok (.iaload, 1)) ∧ (decode cL_law 975 = .ok (.invokevirtual 93, 3)) ∧ (decode cL_law 978 = .ok (.pop, 1)) ∧ (decode cL_law 979 = .ok (.goto 899, 3)) ∧ (decode cL_law 982 = .ok (.aload_n 1, 1)) ∧ (decode cL_law 983 = .ok (.aload_n 0, 1)) ∧ (decode cL_law 984 = .ok (.iload_n 3, 1)) ∧ (decode cL_law 985 = .ok (.iconst 1, 1)) := by decide +kernel
theorem dL_law_972 : decode cL_law 972 = .ok (.iconst 3, 1) := dq_41_l_670.1
theorem dL_law_973 : decode cL_law 973 = .ok (.iadd, 1) := dq_41_l_670.2.1
theorem dL_law_974 : decode cL_law 974 = .ok (.iaload, 1) := dq_41_l_670.2.2.1
theorem dL_law_975 : decode cL_law 975 = .ok (.invokevirtual 93, 3) := dq_41_l_670.2.2.2.1
theorem dL_law_978 : decode cL_law 978 = .ok (.pop, 1) := dq_41_l_670.2.2.2.2.1
theorem dL_law_979 : decode cL_law 979 = .ok (.goto 899, 3) := dq_41_l_670.2.2.2.2.2.1
theorem dL_law_982 : decode cL_law 982 = .ok (.aload_n 1, 1) := dq_41_l_670.2.2.2.2.2.2.1
theorem dL_law_983 : decode cL_law 983 = .ok (.aload_n 0, 1) := dq_41_l_670.2.2.2.2.2.2.2.1
theorem dL_law_984 : decode cL_law 984 = .ok (.iload_n 3, 1) := dq_41_l_670.2.2.2.2.2.2.2.2.1
theorem dL_law_985 : decode cL_law 985 = .ok (.iconst 1, 1) := dq_41_l_670.2.2.2.2.2.2.2.2.2
theorem dq_41_l_680 : (decode cL_law 986 = .ok (.iadd, 1)) ∧ (decode cL_law 987 = .ok (.iaload, 1)) ∧ (decode cL_law 988 = .ok (.aload_n 0, 1)) ∧ (decode cL_law 989 = .ok (.iload_n 3, 1)) ∧ (decode cL_law 990 = .ok (.iconst 2, 1)) ∧ (decode cL_law 991 = .ok (.iadd, 1)) ∧ (decode cL_law 992 = .ok (.iaload, 1)) ∧ (decode cL_law 993 = .ok (.aload_n 0, 1)) ∧ (decode cL_law 994 = .ok (.iload_n 3, 1)) ∧ (decode cL_law 995 = .ok (.iconst 3, 1)) := by decide +kernel
theorem dL_law_986 : decode cL_law 986 = .ok (.iadd, 1) := dq_41_l_680.1
theorem dL_law_987 : decode cL_law 987 = .ok (.iaload, 1) := dq_41_l_680.2.1
theorem dL_law_988 : decode cL_law 988 = .ok (.aload_n 0, 1) := dq_41_l_680.2.2.1
theorem dL_law_989 : decode cL_law 989 = .ok (.iload_n 3, 1) := dq_41_l_680.2.2.2.1
theorem dL_law_990 : decode cL_law 990 = .ok (.iconst 2, 1) := dq_41_l_680.2.2.2.2.1
theorem dL_law_991 : decode cL_law 991 = .ok (.iadd, 1) := dq_41_l_680.2.2.2.2.2.1
theorem dL_law_992 : decode cL_law 992 = .ok (.iaload, 1) := dq_41_l_680.2.2.2.2.2.2.1
theorem dL_law_993 : decode cL_law 993 = .ok (.aload_n 0, 1) := dq_41_l_680.2.2.2.2.2.2.2.1
theorem dL_law_994 : decode cL_law 994 = .ok (.iload_n 3, 1) := dq_41_l_680.2.2.2.2.2.2.2.2.1
theorem dL_law_995 : decode cL_law 995 = .ok (.iconst 3, 1) := dq_41_l_680.2.2.2.2.2.2.2.2.2
theorem dq_41_l_690 : (decode cL_law 996 = .ok (.iadd, 1)) ∧ (decode cL_law 997 = .ok (.iaload, 1)) ∧ (decode cL_law 998 = .ok (.aload_n 0, 1)) ∧ (decode cL_law 999 = .ok (.iload_n 3, 1)) ∧ (decode cL_law 1000 = .ok (.iconst 4, 1)) ∧ (decode cL_law 1001 = .ok (.iadd, 1)) ∧ (decode cL_law 1002 = .ok (.iaload, 1)) ∧ (decode cL_law 1003 = .ok (.aload_n 0, 1)) ∧ (decode cL_law 1004 = .ok (.iload_n 3, 1)) ∧ (decode cL_law 1005 = .ok (.iconst 5, 1)) := by decide +kernel
theorem dL_law_996 : decode cL_law 996 = .ok (.iadd, 1) := dq_41_l_690.1
theorem dL_law_997 : decode cL_law 997 = .ok (.iaload, 1) := dq_41_l_690.2.1
theorem dL_law_998 : decode cL_law 998 = .ok (.aload_n 0, 1) := dq_41_l_690.2.2.1
theorem dL_law_999 : decode cL_law 999 = .ok (.iload_n 3, 1) := dq_41_l_690.2.2.2.1
theorem dL_law_1000 : decode cL_law 1000 = .ok (.iconst 4, 1) := dq_41_l_690.2.2.2.2.1
theorem dL_law_1001 : decode cL_law 1001 = .ok (.iadd, 1) := dq_41_l_690.2.2.2.2.2.1
theorem dL_law_1002 : decode cL_law 1002 = .ok (.iaload, 1) := dq_41_l_690.2.2.2.2.2.2.1
theorem dL_law_1003 : decode cL_law 1003 = .ok (.aload_n 0, 1) := dq_41_l_690.2.2.2.2.2.2.2.1
theorem dL_law_1004 : decode cL_law 1004 = .ok (.iload_n 3, 1) := dq_41_l_690.2.2.2.2.2.2.2.2.1
theorem dL_law_1005 : decode cL_law 1005 = .ok (.iconst 5, 1) := dq_41_l_690.2.2.2.2.2.2.2.2.2
theorem dq_41_l_700 : (decode cL_law 1006 = .ok (.iadd, 1)) ∧ (decode cL_law 1007 = .ok (.iaload, 1)) ∧ (decode cL_law 1008 = .ok (.invokevirtual 94, 3)) ∧ (decode cL_law 1011 = .ok (.pop, 1)) ∧ (decode cL_law 1012 = .ok (.aload_n 2, 1)) ∧ (decode cL_law 1013 = .ok (.aload_n 0, 1)) ∧ (decode cL_law 1014 = .ok (.iload_n 3, 1)) ∧ (decode cL_law 1015 = .ok (.iconst 1, 1)) ∧ (decode cL_law 1016 = .ok (.iadd, 1)) ∧ (decode cL_law 1017 = .ok (.iaload, 1)) := by decide +kernel
theorem dL_law_1006 : decode cL_law 1006 = .ok (.iadd, 1) := dq_41_l_700.1
theorem dL_law_1007 : decode cL_law 1007 = .ok (.iaload, 1) := dq_41_l_700.2.1
theorem dL_law_1008 : decode cL_law 1008 = .ok (.invokevirtual 94, 3) := dq_41_l_700.2.2.1
theorem dL_law_1011 : decode cL_law 1011 = .ok (.pop, 1) := dq_41_l_700.2.2.2.1
theorem dL_law_1012 : decode cL_law 1012 = .ok (.aload_n 2, 1) := dq_41_l_700.2.2.2.2.1
theorem dL_law_1013 : decode cL_law 1013 = .ok (.aload_n 0, 1) := dq_41_l_700.2.2.2.2.2.1
theorem dL_law_1014 : decode cL_law 1014 = .ok (.iload_n 3, 1) := dq_41_l_700.2.2.2.2.2.2.1
theorem dL_law_1015 : decode cL_law 1015 = .ok (.iconst 1, 1) := dq_41_l_700.2.2.2.2.2.2.2.1
theorem dL_law_1016 : decode cL_law 1016 = .ok (.iadd, 1) := dq_41_l_700.2.2.2.2.2.2.2.2.1
theorem dL_law_1017 : decode cL_law 1017 = .ok (.iaload, 1) := dq_41_l_700.2.2.2.2.2.2.2.2.2
theorem dq_41_l_710 : (decode cL_law 1018 = .ok (.aload_n 0, 1)) ∧ (decode cL_law 1019 = .ok (.iload_n 3, 1)) ∧ (decode cL_law 1020 = .ok (.iconst 2, 1)) ∧ (decode cL_law 1021 = .ok (.iadd, 1)) ∧ (decode cL_law 1022 = .ok (.iaload, 1)) ∧ (decode cL_law 1023 = .ok (.aload_n 0, 1)) ∧ (decode cL_law 1024 = .ok (.iload_n 3, 1)) ∧ (decode cL_law 1025 = .ok (.iconst 3, 1)) ∧ (decode cL_law 1026 = .ok (.iadd, 1)) ∧ (decode cL_law 1027 = .ok (.iaload, 1)) := by decide +kernel
theorem dL_law_1018 : decode cL_law 1018 = .ok (.aload_n 0, 1) := dq_41_l_710.1
theorem dL_law_1019 : decode cL_law 1019 = .ok (.iload_n 3, 1) := dq_41_l_710.2.1
theorem dL_law_1020 : decode cL_law 1020 = .ok (.iconst 2, 1) := dq_41_l_710.2.2.1
theorem dL_law_1021 : decode cL_law 1021 = .ok (.iadd, 1) := dq_41_l_710.2.2.2.1
theorem dL_law_1022 : decode cL_law 1022 = .ok (.iaload, 1) := dq_41_l_710.2.2.2.2.1
theorem dL_law_1023 : decode cL_law 1023 = .ok (.aload_n 0, 1) := dq_41_l_710.2.2.2.2.2.1
theorem dL_law_1024 : decode cL_law 1024 = .ok (.iload_n 3, 1) := dq_41_l_710.2.2.2.2.2.2.1
theorem dL_law_1025 : decode cL_law 1025 = .ok (.iconst 3, 1) := dq_41_l_710.2.2.2.2.2.2.2.1
theorem dL_law_1026 : decode cL_law 1026 = .ok (.iadd, 1) := dq_41_l_710.2.2.2.2.2.2.2.2.1
theorem dL_law_1027 : decode cL_law 1027 = .ok (.iaload, 1) := dq_41_l_710.2.2.2.2.2.2.2.2.2
theorem dq_41_l_720 : (decode cL_law 1028 = .ok (.aload_n 0, 1)) ∧ (decode cL_law 1029 = .ok (.iload_n 3, 1)) ∧ (decode cL_law 1030 = .ok (.iconst 4, 1)) ∧ (decode cL_law 1031 = .ok (.iadd, 1)) ∧ (decode cL_law 1032 = .ok (.iaload, 1)) ∧ (decode cL_law 1033 = .ok (.aload_n 0, 1)) ∧ (decode cL_law 1034 = .ok (.iload_n 3, 1)) ∧ (decode cL_law 1035 = .ok (.iconst 5, 1)) ∧ (decode cL_law 1036 = .ok (.iadd, 1)) ∧ (decode cL_law 1037 = .ok (.iaload, 1)) := by decide +kernel
theorem dL_law_1028 : decode cL_law 1028 = .ok (.aload_n 0, 1) := dq_41_l_720.1
theorem dL_law_1029 : decode cL_law 1029 = .ok (.iload_n 3, 1) := dq_41_l_720.2.1
theorem dL_law_1030 : decode cL_law 1030 = .ok (.iconst 4, 1) := dq_41_l_720.2.2.1
theorem dL_law_1031 : decode cL_law 1031 = .ok (.iadd, 1) := dq_41_l_720.2.2.2.1
theorem dL_law_1032 : decode cL_law 1032 = .ok (.iaload, 1) := dq_41_l_720.2.2.2.2.1
theorem dL_law_1033 : decode cL_law 1033 = .ok (.aload_n 0, 1) := dq_41_l_720.2.2.2.2.2.1
theorem dL_law_1034 : decode cL_law 1034 = .ok (.iload_n 3, 1) := dq_41_l_720.2.2.2.2.2.2.1
theorem dL_law_1035 : decode cL_law 1035 = .ok (.iconst 5, 1) := dq_41_l_720.2.2.2.2.2.2.2.1
theorem dL_law_1036 : decode cL_law 1036 = .ok (.iadd, 1) := dq_41_l_720.2.2.2.2.2.2.2.2.1
theorem dL_law_1037 : decode cL_law 1037 = .ok (.iaload, 1) := dq_41_l_720.2.2.2.2.2.2.2.2.2
theorem dq_41_l_730 : (decode cL_law 1038 = .ok (.invokevirtual 97, 3)) ∧ (decode cL_law 1041 = .ok (.pop, 1)) ∧ (decode cL_law 1042 = .ok (.goto 836, 3)) ∧ (decode cL_law 1045 = .ok (.aload_n 1, 1)) ∧ (decode cL_law 1046 = .ok (.aload_n 0, 1)) ∧ (decode cL_law 1047 = .ok (.iload_n 3, 1)) ∧ (decode cL_law 1048 = .ok (.iconst 1, 1)) ∧ (decode cL_law 1049 = .ok (.iadd, 1)) ∧ (decode cL_law 1050 = .ok (.iaload, 1)) ∧ (decode cL_law 1051 = .ok (.aload_n 0, 1)) := by decide +kernel
theorem dL_law_1038 : decode cL_law 1038 = .ok (.invokevirtual 97, 3) := dq_41_l_730.1
theorem dL_law_1041 : decode cL_law 1041 = .ok (.pop, 1) := dq_41_l_730.2.1
theorem dL_law_1042 : decode cL_law 1042 = .ok (.goto 836, 3) := dq_41_l_730.2.2.1
theorem dL_law_1045 : decode cL_law 1045 = .ok (.aload_n 1, 1) := dq_41_l_730.2.2.2.1
theorem dL_law_1046 : decode cL_law 1046 = .ok (.aload_n 0, 1) := dq_41_l_730.2.2.2.2.1
theorem dL_law_1047 : decode cL_law 1047 = .ok (.iload_n 3, 1) := dq_41_l_730.2.2.2.2.2.1
theorem dL_law_1048 : decode cL_law 1048 = .ok (.iconst 1, 1) := dq_41_l_730.2.2.2.2.2.2.1
theorem dL_law_1049 : decode cL_law 1049 = .ok (.iadd, 1) := dq_41_l_730.2.2.2.2.2.2.2.1
theorem dL_law_1050 : decode cL_law 1050 = .ok (.iaload, 1) := dq_41_l_730.2.2.2.2.2.2.2.2.1
theorem dL_law_1051 : decode cL_law 1051 = .ok (.aload_n 0, 1) := dq_41_l_730.2.2.2.2.2.2.2.2.2
theorem dq_41_l_740 : (decode cL_law 1052 = .ok (.iload_n 3, 1)) ∧ (decode cL_law 1053 = .ok (.iconst 2, 1)) ∧ (decode cL_law 1054 = .ok (.iadd, 1)) ∧ (decode cL_law 1055 = .ok (.iaload, 1)) ∧ (decode cL_law 1056 = .ok (.aload_n 0, 1)) ∧ (decode cL_law 1057 = .ok (.iload_n 3, 1)) ∧ (decode cL_law 1058 = .ok (.iconst 3, 1)) ∧ (decode cL_law 1059 = .ok (.iadd, 1)) ∧ (decode cL_law 1060 = .ok (.iaload, 1)) ∧ (decode cL_law 1061 = .ok (.invokevirtual 98, 3)) := by decide +kernel
theorem dL_law_1052 : decode cL_law 1052 = .ok (.iload_n 3, 1) := dq_41_l_740.1
theorem dL_law_1053 : decode cL_law 1053 = .ok (.iconst 2, 1) := dq_41_l_740.2.1
theorem dL_law_1054 : decode cL_law 1054 = .ok (.iadd, 1) := dq_41_l_740.2.2.1
theorem dL_law_1055 : decode cL_law 1055 = .ok (.iaload, 1) := dq_41_l_740.2.2.2.1
theorem dL_law_1056 : decode cL_law 1056 = .ok (.aload_n 0, 1) := dq_41_l_740.2.2.2.2.1
theorem dL_law_1057 : decode cL_law 1057 = .ok (.iload_n 3, 1) := dq_41_l_740.2.2.2.2.2.1
theorem dL_law_1058 : decode cL_law 1058 = .ok (.iconst 3, 1) := dq_41_l_740.2.2.2.2.2.2.1
theorem dL_law_1059 : decode cL_law 1059 = .ok (.iadd, 1) := dq_41_l_740.2.2.2.2.2.2.2.1
theorem dL_law_1060 : decode cL_law 1060 = .ok (.iaload, 1) := dq_41_l_740.2.2.2.2.2.2.2.2.1
theorem dL_law_1061 : decode cL_law 1061 = .ok (.invokevirtual 98, 3) := dq_41_l_740.2.2.2.2.2.2.2.2.2
theorem dq_41_l_750 : (decode cL_law 1064 = .ok (.pop, 1)) ∧ (decode cL_law 1065 = .ok (.aload_n 2, 1)) ∧ (decode cL_law 1066 = .ok (.aload_n 0, 1)) ∧ (decode cL_law 1067 = .ok (.iload_n 3, 1)) ∧ (decode cL_law 1068 = .ok (.iconst 1, 1)) ∧ (decode cL_law 1069 = .ok (.iadd, 1)) ∧ (decode cL_law 1070 = .ok (.iaload, 1)) ∧ (decode cL_law 1071 = .ok (.aload_n 0, 1)) ∧ (decode cL_law 1072 = .ok (.iload_n 3, 1)) ∧ (decode cL_law 1073 = .ok (.iconst 2, 1)) := by decide +kernel
theorem dL_law_1064 : decode cL_law 1064 = .ok (.pop, 1) := dq_41_l_750.1
theorem dL_law_1065 : decode cL_law 1065 = .ok (.aload_n 2, 1) := dq_41_l_750.2.1
theorem dL_law_1066 : decode cL_law 1066 = .ok (.aload_n 0, 1) := dq_41_l_750.2.2.1
theorem dL_law_1067 : decode cL_law 1067 = .ok (.iload_n 3, 1) := dq_41_l_750.2.2.2.1
theorem dL_law_1068 : decode cL_law 1068 = .ok (.iconst 1, 1) := dq_41_l_750.2.2.2.2.1
theorem dL_law_1069 : decode cL_law 1069 = .ok (.iadd, 1) := dq_41_l_750.2.2.2.2.2.1
theorem dL_law_1070 : decode cL_law 1070 = .ok (.iaload, 1) := dq_41_l_750.2.2.2.2.2.2.1
theorem dL_law_1071 : decode cL_law 1071 = .ok (.aload_n 0, 1) := dq_41_l_750.2.2.2.2.2.2.2.1
theorem dL_law_1072 : decode cL_law 1072 = .ok (.iload_n 3, 1) := dq_41_l_750.2.2.2.2.2.2.2.2.1
theorem dL_law_1073 : decode cL_law 1073 = .ok (.iconst 2, 1) := dq_41_l_750.2.2.2.2.2.2.2.2.2
theorem dq_41_l_760 : (decode cL_law 1074 = .ok (.iadd, 1)) ∧ (decode cL_law 1075 = .ok (.iaload, 1)) ∧ (decode cL_law 1076 = .ok (.aload_n 0, 1)) ∧ (decode cL_law 1077 = .ok (.iload_n 3, 1)) ∧ (decode cL_law 1078 = .ok (.iconst 3, 1)) ∧ (decode cL_law 1079 = .ok (.iadd, 1)) ∧ (decode cL_law 1080 = .ok (.iaload, 1)) ∧ (decode cL_law 1081 = .ok (.invokevirtual 101, 3)) ∧ (decode cL_law 1084 = .ok (.pop, 1)) ∧ (decode cL_law 1085 = .ok (.goto 793, 3)) := by decide +kernel
theorem dL_law_1074 : decode cL_law 1074 = .ok (.iadd, 1) := dq_41_l_760.1
theorem dL_law_1075 : decode cL_law 1075 = .ok (.iaload, 1) := dq_41_l_760.2.1
theorem dL_law_1076 : decode cL_law 1076 = .ok (.aload_n 0, 1) := dq_41_l_760.2.2.1
theorem dL_law_1077 : decode cL_law 1077 = .ok (.iload_n 3, 1) := dq_41_l_760.2.2.2.1
theorem dL_law_1078 : decode cL_law 1078 = .ok (.iconst 3, 1) := dq_41_l_760.2.2.2.2.1
theorem dL_law_1079 : decode cL_law 1079 = .ok (.iadd, 1) := dq_41_l_760.2.2.2.2.2.1
theorem dL_law_1080 : decode cL_law 1080 = .ok (.iaload, 1) := dq_41_l_760.2.2.2.2.2.2.1
theorem dL_law_1081 : decode cL_law 1081 = .ok (.invokevirtual 101, 3) := dq_41_l_760.2.2.2.2.2.2.2.1
theorem dL_law_1084 : decode cL_law 1084 = .ok (.pop, 1) := dq_41_l_760.2.2.2.2.2.2.2.2.1
theorem dL_law_1085 : decode cL_law 1085 = .ok (.goto 793, 3) := dq_41_l_760.2.2.2.2.2.2.2.2.2
theorem dq_41_l_770 : (decode cL_law 1088 = .ok (.aload_n 1, 1)) ∧ (decode cL_law 1089 = .ok (.aload_n 0, 1)) ∧ (decode cL_law 1090 = .ok (.iload_n 3, 1)) ∧ (decode cL_law 1091 = .ok (.iconst 1, 1)) ∧ (decode cL_law 1092 = .ok (.iadd, 1)) ∧ (decode cL_law 1093 = .ok (.iaload, 1)) ∧ (decode cL_law 1094 = .ok (.aload_n 0, 1)) ∧ (decode cL_law 1095 = .ok (.iload_n 3, 1)) ∧ (decode cL_law 1096 = .ok (.iconst 2, 1)) ∧ (decode cL_law 1097 = .ok (.iadd, 1)) := by decide +kernel
theorem dL_law_1088 : decode cL_law 1088 = .ok (.aload_n 1, 1) := dq_41_l_770.1
theorem dL_law_1089 : decode cL_law 1089 = .ok (.aload_n 0, 1) := dq_41_l_770.2.1
theorem dL_law_1090 : decode cL_law 1090 = .ok (.iload_n 3, 1) := dq_41_l_770.2.2.1
theorem dL_law_1091 : decode cL_law 1091 = .ok (.iconst 1, 1) := dq_41_l_770.2.2.2.1
theorem dL_law_1092 : decode cL_law 1092 = .ok (.iadd, 1) := dq_41_l_770.2.2.2.2.1
theorem dL_law_1093 : decode cL_law 1093 = .ok (.iaload, 1) := dq_41_l_770.2.2.2.2.2.1
theorem dL_law_1094 : decode cL_law 1094 = .ok (.aload_n 0, 1) := dq_41_l_770.2.2.2.2.2.2.1
theorem dL_law_1095 : decode cL_law 1095 = .ok (.iload_n 3, 1) := dq_41_l_770.2.2.2.2.2.2.2.1
theorem dL_law_1096 : decode cL_law 1096 = .ok (.iconst 2, 1) := dq_41_l_770.2.2.2.2.2.2.2.2.1
theorem dL_law_1097 : decode cL_law 1097 = .ok (.iadd, 1) := dq_41_l_770.2.2.2.2.2.2.2.2.2
theorem dq_41_l_780 : (decode cL_law 1098 = .ok (.iaload, 1)) ∧ (decode cL_law 1099 = .ok (.aload_n 0, 1)) ∧ (decode cL_law 1100 = .ok (.iload_n 3, 1)) ∧ (decode cL_law 1101 = .ok (.iconst 3, 1)) ∧ (decode cL_law 1102 = .ok (.iadd, 1)) ∧ (decode cL_law 1103 = .ok (.iaload, 1)) ∧ (decode cL_law 1104 = .ok (.invokevirtual 102, 3)) ∧ (decode cL_law 1107 = .ok (.pop, 1)) ∧ (decode cL_law 1108 = .ok (.aload_n 2, 1)) ∧ (decode cL_law 1109 = .ok (.aload_n 0, 1)) := by decide +kernel
theorem dL_law_1098 : decode cL_law 1098 = .ok (.iaload, 1) := dq_41_l_780.1
theorem dL_law_1099 : decode cL_law 1099 = .ok (.aload_n 0, 1) := dq_41_l_780.2.1
theorem dL_law_1100 : decode cL_law 1100 = .ok (.iload_n 3, 1) := dq_41_l_780.2.2.1
theorem dL_law_1101 : decode cL_law 1101 = .ok (.iconst 3, 1) := dq_41_l_780.2.2.2.1
theorem dL_law_1102 : decode cL_law 1102 = .ok (.iadd, 1) := dq_41_l_780.2.2.2.2.1
theorem dL_law_1103 : decode cL_law 1103 = .ok (.iaload, 1) := dq_41_l_780.2.2.2.2.2.1
theorem dL_law_1104 : decode cL_law 1104 = .ok (.invokevirtual 102, 3) := dq_41_l_780.2.2.2.2.2.2.1
theorem dL_law_1107 : decode cL_law 1107 = .ok (.pop, 1) := dq_41_l_780.2.2.2.2.2.2.2.1
theorem dL_law_1108 : decode cL_law 1108 = .ok (.aload_n 2, 1) := dq_41_l_780.2.2.2.2.2.2.2.2.1
theorem dL_law_1109 : decode cL_law 1109 = .ok (.aload_n 0, 1) := dq_41_l_780.2.2.2.2.2.2.2.2.2
theorem dq_41_l_790 : (decode cL_law 1110 = .ok (.iload_n 3, 1)) ∧ (decode cL_law 1111 = .ok (.iconst 1, 1)) ∧ (decode cL_law 1112 = .ok (.iadd, 1)) ∧ (decode cL_law 1113 = .ok (.iaload, 1)) ∧ (decode cL_law 1114 = .ok (.aload_n 0, 1)) ∧ (decode cL_law 1115 = .ok (.iload_n 3, 1)) ∧ (decode cL_law 1116 = .ok (.iconst 2, 1)) ∧ (decode cL_law 1117 = .ok (.iadd, 1)) ∧ (decode cL_law 1118 = .ok (.iaload, 1)) ∧ (decode cL_law 1119 = .ok (.aload_n 0, 1)) := by decide +kernel
theorem dL_law_1110 : decode cL_law 1110 = .ok (.iload_n 3, 1) := dq_41_l_790.1
theorem dL_law_1111 : decode cL_law 1111 = .ok (.iconst 1, 1) := dq_41_l_790.2.1
theorem dL_law_1112 : decode cL_law 1112 = .ok (.iadd, 1) := dq_41_l_790.2.2.1
theorem dL_law_1113 : decode cL_law 1113 = .ok (.iaload, 1) := dq_41_l_790.2.2.2.1
theorem dL_law_1114 : decode cL_law 1114 = .ok (.aload_n 0, 1) := dq_41_l_790.2.2.2.2.1
theorem dL_law_1115 : decode cL_law 1115 = .ok (.iload_n 3, 1) := dq_41_l_790.2.2.2.2.2.1
theorem dL_law_1116 : decode cL_law 1116 = .ok (.iconst 2, 1) := dq_41_l_790.2.2.2.2.2.2.1
theorem dL_law_1117 : decode cL_law 1117 = .ok (.iadd, 1) := dq_41_l_790.2.2.2.2.2.2.2.1
theorem dL_law_1118 : decode cL_law 1118 = .ok (.iaload, 1) := dq_41_l_790.2.2.2.2.2.2.2.2.1
theorem dL_law_1119 : decode cL_law 1119 = .ok (.aload_n 0, 1) := dq_41_l_790.2.2.2.2.2.2.2.2.2
theorem dq_41_l_800 : (decode cL_law 1120 = .ok (.iload_n 3, 1)) ∧ (decode cL_law 1121 = .ok (.iconst 3, 1)) ∧ (decode cL_law 1122 = .ok (.iadd, 1)) ∧ (decode cL_law 1123 = .ok (.iaload, 1)) ∧ (decode cL_law 1124 = .ok (.invokevirtual 105, 3)) ∧ (decode cL_law 1127 = .ok (.pop, 1)) ∧ (decode cL_law 1128 = .ok (.goto 750, 3)) ∧ (decode cL_law 1131 = .ok (.aload_n 1, 1)) ∧ (decode cL_law 1132 = .ok (.aload_n 0, 1)) ∧ (decode cL_law 1133 = .ok (.iload_n 3, 1)) := by decide +kernel
theorem dL_law_1120 : decode cL_law 1120 = .ok (.iload_n 3, 1) := dq_41_l_800.1
theorem dL_law_1121 : decode cL_law 1121 = .ok (.iconst 3, 1) := dq_41_l_800.2.1
theorem dL_law_1122 : decode cL_law 1122 = .ok (.iadd, 1) := dq_41_l_800.2.2.1
theorem dL_law_1123 : decode cL_law 1123 = .ok (.iaload, 1) := dq_41_l_800.2.2.2.1
theorem dL_law_1124 : decode cL_law 1124 = .ok (.invokevirtual 105, 3) := dq_41_l_800.2.2.2.2.1
theorem dL_law_1127 : decode cL_law 1127 = .ok (.pop, 1) := dq_41_l_800.2.2.2.2.2.1
theorem dL_law_1128 : decode cL_law 1128 = .ok (.goto 750, 3) := dq_41_l_800.2.2.2.2.2.2.1
theorem dL_law_1131 : decode cL_law 1131 = .ok (.aload_n 1, 1) := dq_41_l_800.2.2.2.2.2.2.2.1
theorem dL_law_1132 : decode cL_law 1132 = .ok (.aload_n 0, 1) := dq_41_l_800.2.2.2.2.2.2.2.2.1
theorem dL_law_1133 : decode cL_law 1133 = .ok (.iload_n 3, 1) := dq_41_l_800.2.2.2.2.2.2.2.2.2
theorem dq_41_l_810 : (decode cL_law 1134 = .ok (.iconst 1, 1)) ∧ (decode cL_law 1135 = .ok (.iadd, 1)) ∧ (decode cL_law 1136 = .ok (.iaload, 1)) ∧ (decode cL_law 1137 = .ok (.aload_n 0, 1)) ∧ (decode cL_law 1138 = .ok (.iload_n 3, 1)) ∧ (decode cL_law 1139 = .ok (.iconst 2, 1)) ∧ (decode cL_law 1140 = .ok (.iadd, 1)) ∧ (decode cL_law 1141 = .ok (.iaload, 1)) ∧ (decode cL_law 1142 = .ok (.aload_n 0, 1)) ∧ (decode cL_law 1143 = .ok (.iload_n 3, 1)) := by decide +kernel
theorem dL_law_1134 : decode cL_law 1134 = .ok (.iconst 1, 1) := dq_41_l_810.1
theorem dL_law_1135 : decode cL_law 1135 = .ok (.iadd, 1) := dq_41_l_810.2.1
theorem dL_law_1136 : decode cL_law 1136 = .ok (.iaload, 1) := dq_41_l_810.2.2.1
theorem dL_law_1137 : decode cL_law 1137 = .ok (.aload_n 0, 1) := dq_41_l_810.2.2.2.1
theorem dL_law_1138 : decode cL_law 1138 = .ok (.iload_n 3, 1) := dq_41_l_810.2.2.2.2.1
theorem dL_law_1139 : decode cL_law 1139 = .ok (.iconst 2, 1) := dq_41_l_810.2.2.2.2.2.1
theorem dL_law_1140 : decode cL_law 1140 = .ok (.iadd, 1) := dq_41_l_810.2.2.2.2.2.2.1
theorem dL_law_1141 : decode cL_law 1141 = .ok (.iaload, 1) := dq_41_l_810.2.2.2.2.2.2.2.1
theorem dL_law_1142 : decode cL_law 1142 = .ok (.aload_n 0, 1) := dq_41_l_810.2.2.2.2.2.2.2.2.1
theorem dL_law_1143 : decode cL_law 1143 = .ok (.iload_n 3, 1) := dq_41_l_810.2.2.2.2.2.2.2.2.2
theorem dq_41_l_820 : (decode cL_law 1144 = .ok (.iconst 3, 1)) ∧ (decode cL_law 1145 = .ok (.iadd, 1)) ∧ (decode cL_law 1146 = .ok (.iaload, 1)) ∧ (decode cL_law 1147 = .ok (.aload_n 0, 1)) ∧ (decode cL_law 1148 = .ok (.iload_n 3, 1)) ∧ (decode cL_law 1149 = .ok (.iconst 4, 1)) ∧ (decode cL_law 1150 = .ok (.iadd, 1)) ∧ (decode cL_law 1151 = .ok (.iaload, 1)) ∧ (decode cL_law 1152 = .ok (.invokevirtual 106, 3)) ∧ (decode cL_law 1155 = .ok (.pop, 1)) := by decide +kernel
theorem dL_law_1144 : decode cL_law 1144 = .ok (.iconst 3, 1) := dq_41_l_820.1
theorem dL_law_1145 : decode cL_law 1145 = .ok (.iadd, 1) := dq_41_l_820.2.1
theorem dL_law_1146 : decode cL_law 1146 = .ok (.iaload, 1) := dq_41_l_820.2.2.1
theorem dL_law_1147 : decode cL_law 1147 = .ok (.aload_n 0, 1) := dq_41_l_820.2.2.2.1
theorem dL_law_1148 : decode cL_law 1148 = .ok (.iload_n 3, 1) := dq_41_l_820.2.2.2.2.1
theorem dL_law_1149 : decode cL_law 1149 = .ok (.iconst 4, 1) := dq_41_l_820.2.2.2.2.2.1
theorem dL_law_1150 : decode cL_law 1150 = .ok (.iadd, 1) := dq_41_l_820.2.2.2.2.2.2.1
theorem dL_law_1151 : decode cL_law 1151 = .ok (.iaload, 1) := dq_41_l_820.2.2.2.2.2.2.2.1
theorem dL_law_1152 : decode cL_law 1152 = .ok (.invokevirtual 106, 3) := dq_41_l_820.2.2.2.2.2.2.2.2.1
theorem dL_law_1155 : decode cL_law 1155 = .ok (.pop, 1) := dq_41_l_820.2.2.2.2.2.2.2.2.2
theorem dq_41_l_830 : (decode cL_law 1156 = .ok (.aload_n 2, 1)) ∧ (decode cL_law 1157 = .ok (.aload_n 0, 1)) ∧ (decode cL_law 1158 = .ok (.iload_n 3, 1)) ∧ (decode cL_law 1159 = .ok (.iconst 1, 1)) ∧ (decode cL_law 1160 = .ok (.iadd, 1)) ∧ (decode cL_law 1161 = .ok (.iaload, 1)) ∧ (decode cL_law 1162 = .ok (.aload_n 0, 1)) ∧ (decode cL_law 1163 = .ok (.iload_n 3, 1)) ∧ (decode cL_law 1164 = .ok (.iconst 2, 1)) ∧ (decode cL_law 1165 = .ok (.iadd, 1)) := by decide +kernel
theorem dL_law_1156 : decode cL_law 1156 = .ok (.aload_n 2, 1) := dq_41_l_830.1
theorem dL_law_1157 : decode cL_law 1157 = .ok (.aload_n 0, 1) := dq_41_l_830.2.1
theorem dL_law_1158 : decode cL_law 1158 = .ok (.iload_n 3, 1) := dq_41_l_830.2.2.1
theorem dL_law_1159 : decode cL_law 1159 = .ok (.iconst 1, 1) := dq_41_l_830.2.2.2.1
theorem dL_law_1160 : decode cL_law 1160 = .ok (.iadd, 1) := dq_41_l_830.2.2.2.2.1
theorem dL_law_1161 : decode cL_law 1161 = .ok (.iaload, 1) := dq_41_l_830.2.2.2.2.2.1
theorem dL_law_1162 : decode cL_law 1162 = .ok (.aload_n 0, 1) := dq_41_l_830.2.2.2.2.2.2.1
theorem dL_law_1163 : decode cL_law 1163 = .ok (.iload_n 3, 1) := dq_41_l_830.2.2.2.2.2.2.2.1
theorem dL_law_1164 : decode cL_law 1164 = .ok (.iconst 2, 1) := dq_41_l_830.2.2.2.2.2.2.2.2.1
theorem dL_law_1165 : decode cL_law 1165 = .ok (.iadd, 1) := dq_41_l_830.2.2.2.2.2.2.2.2.2
theorem dq_41_l_840 : (decode cL_law 1166 = .ok (.iaload, 1)) ∧ (decode cL_law 1167 = .ok (.aload_n 0, 1)) ∧ (decode cL_law 1168 = .ok (.iload_n 3, 1)) ∧ (decode cL_law 1169 = .ok (.iconst 3, 1)) ∧ (decode cL_law 1170 = .ok (.iadd, 1)) ∧ (decode cL_law 1171 = .ok (.iaload, 1)) ∧ (decode cL_law 1172 = .ok (.aload_n 0, 1)) ∧ (decode cL_law 1173 = .ok (.iload_n 3, 1)) ∧ (decode cL_law 1174 = .ok (.iconst 4, 1)) ∧ (decode cL_law 1175 = .ok (.iadd, 1)) := by decide +kernel
theorem dL_law_1166 : decode cL_law 1166 = .ok (.iaload, 1) := dq_41_l_840.1
theorem dL_law_1167 : decode cL_law 1167 = .ok (.aload_n 0, 1) := dq_41_l_840.2.1
theorem dL_law_1168 : decode cL_law 1168 = .ok (.iload_n 3, 1) := dq_41_l_840.2.2.1
theorem dL_law_1169 : decode cL_law 1169 = .ok (.iconst 3, 1) := dq_41_l_840.2.2.2.1
theorem dL_law_1170 : decode cL_law 1170 = .ok (.iadd, 1) := dq_41_l_840.2.2.2.2.1
theorem dL_law_1171 : decode cL_law 1171 = .ok (.iaload, 1) := dq_41_l_840.2.2.2.2.2.1
theorem dL_law_1172 : decode cL_law 1172 = .ok (.aload_n 0, 1) := dq_41_l_840.2.2.2.2.2.2.1
theorem dL_law_1173 : decode cL_law 1173 = .ok (.iload_n 3, 1) := dq_41_l_840.2.2.2.2.2.2.2.1
theorem dL_law_1174 : decode cL_law 1174 = .ok (.iconst 4, 1) := dq_41_l_840.2.2.2.2.2.2.2.2.1
theorem dL_law_1175 : decode cL_law 1175 = .ok (.iadd, 1) := dq_41_l_840.2.2.2.2.2.2.2.2.2
theorem dq_41_l_850 : (decode cL_law 1176 = .ok (.iaload, 1)) ∧ (decode cL_law 1177 = .ok (.invokevirtual 110, 3)) ∧ (decode cL_law 1180 = .ok (.pop, 1)) ∧ (decode cL_law 1181 = .ok (.goto 697, 3)) ∧ (decode cL_law 1184 = .ok (.aload_n 1, 1)) ∧ (decode cL_law 1185 = .ok (.aload_n 0, 1)) ∧ (decode cL_law 1186 = .ok (.iload_n 3, 1)) ∧ (decode cL_law 1187 = .ok (.iconst 1, 1)) ∧ (decode cL_law 1188 = .ok (.iadd, 1)) ∧ (decode cL_law 1189 = .ok (.iaload, 1)) := by decide +kernel
theorem dL_law_1176 : decode cL_law 1176 = .ok (.iaload, 1) := dq_41_l_850.1
theorem dL_law_1177 : decode cL_law 1177 = .ok (.invokevirtual 110, 3) := dq_41_l_850.2.1
theorem dL_law_1180 : decode cL_law 1180 = .ok (.pop, 1) := dq_41_l_850.2.2.1
theorem dL_law_1181 : decode cL_law 1181 = .ok (.goto 697, 3) := dq_41_l_850.2.2.2.1
theorem dL_law_1184 : decode cL_law 1184 = .ok (.aload_n 1, 1) := dq_41_l_850.2.2.2.2.1
theorem dL_law_1185 : decode cL_law 1185 = .ok (.aload_n 0, 1) := dq_41_l_850.2.2.2.2.2.1
theorem dL_law_1186 : decode cL_law 1186 = .ok (.iload_n 3, 1) := dq_41_l_850.2.2.2.2.2.2.1
theorem dL_law_1187 : decode cL_law 1187 = .ok (.iconst 1, 1) := dq_41_l_850.2.2.2.2.2.2.2.1
theorem dL_law_1188 : decode cL_law 1188 = .ok (.iadd, 1) := dq_41_l_850.2.2.2.2.2.2.2.2.1
theorem dL_law_1189 : decode cL_law 1189 = .ok (.iaload, 1) := dq_41_l_850.2.2.2.2.2.2.2.2.2
theorem dq_41_l_860 : (decode cL_law 1190 = .ok (.aload_n 0, 1)) ∧ (decode cL_law 1191 = .ok (.iload_n 3, 1)) ∧ (decode cL_law 1192 = .ok (.iconst 2, 1)) ∧ (decode cL_law 1193 = .ok (.iadd, 1)) ∧ (decode cL_law 1194 = .ok (.iaload, 1)) ∧ (decode cL_law 1195 = .ok (.aload_n 0, 1)) ∧ (decode cL_law 1196 = .ok (.iload_n 3, 1)) ∧ (decode cL_law 1197 = .ok (.iconst 3, 1)) ∧ (decode cL_law 1198 = .ok (.iadd, 1)) ∧ (decode cL_law 1199 = .ok (.iaload, 1)) := by decide +kernel
theorem dL_law_1190 : decode cL_law 1190 = .ok (.aload_n 0, 1) := dq_41_l_860.1
theorem dL_law_1191 : decode cL_law 1191 = .ok (.iload_n 3, 1) := dq_41_l_860.2.1
theorem dL_law_1192 : decode cL_law 1192 = .ok (.iconst 2, 1) := dq_41_l_860.2.2.1
theorem dL_law_1193 : decode cL_law 1193 = .ok (.iadd, 1) := dq_41_l_860.2.2.2.1
theorem dL_law_1194 : decode cL_law 1194 = .ok (.iaload, 1) := dq_41_l_860.2.2.2.2.1
theorem dL_law_1195 : decode cL_law 1195 = .ok (.aload_n 0, 1) := dq_41_l_860.2.2.2.2.2.1
theorem dL_law_1196 : decode cL_law 1196 = .ok (.iload_n 3, 1) := dq_41_l_860.2.2.2.2.2.2.1
theorem dL_law_1197 : decode cL_law 1197 = .ok (.iconst 3, 1) := dq_41_l_860.2.2.2.2.2.2.2.1
theorem dL_law_1198 : decode cL_law 1198 = .ok (.iadd, 1) := dq_41_l_860.2.2.2.2.2.2.2.2.1
theorem dL_law_1199 : decode cL_law 1199 = .ok (.iaload, 1) := dq_41_l_860.2.2.2.2.2.2.2.2.2
theorem dq_41_l_870 : (decode cL_law 1200 = .ok (.invokevirtual 111, 3)) ∧ (decode cL_law 1203 = .ok (.pop, 1)) ∧ (decode cL_law 1204 = .ok (.aload_n 2, 1)) ∧ (decode cL_law 1205 = .ok (.aload_n 0, 1)) ∧ (decode cL_law 1206 = .ok (.iload_n 3, 1)) ∧ (decode cL_law 1207 = .ok (.iconst 1, 1)) ∧ (decode cL_law 1208 = .ok (.iadd, 1)) ∧ (decode cL_law 1209 = .ok (.iaload, 1)) ∧ (decode cL_law 1210 = .ok (.aload_n 0, 1)) ∧ (decode cL_law 1211 = .ok (.iload_n 3, 1)) := by decide +kernel
theorem dL_law_1200 : decode cL_law 1200 = .ok (.invokevirtual 111, 3) := dq_41_l_870.1
theorem dL_law_1203 : decode cL_law 1203 = .ok (.pop, 1) := dq_41_l_870.2.1
theorem dL_law_1204 : decode cL_law 1204 = .ok (.aload_n 2, 1) := dq_41_l_870.2.2.1
theorem dL_law_1205 : decode cL_law 1205 = .ok (.aload_n 0, 1) := dq_41_l_870.2.2.2.1
theorem dL_law_1206 : decode cL_law 1206 = .ok (.iload_n 3, 1) := dq_41_l_870.2.2.2.2.1
theorem dL_law_1207 : decode cL_law 1207 = .ok (.iconst 1, 1) := dq_41_l_870.2.2.2.2.2.1
theorem dL_law_1208 : decode cL_law 1208 = .ok (.iadd, 1) := dq_41_l_870.2.2.2.2.2.2.1
theorem dL_law_1209 : decode cL_law 1209 = .ok (.iaload, 1) := dq_41_l_870.2.2.2.2.2.2.2.1
theorem dL_law_1210 : decode cL_law 1210 = .ok (.aload_n 0, 1) := dq_41_l_870.2.2.2.2.2.2.2.2.1
theorem dL_law_1211 : decode cL_law 1211 = .ok (.iload_n 3, 1) := dq_41_l_870.2.2.2.2.2.2.2.2.2
theorem dq_41_l_880 : (decode cL_law 1212 = .ok (.iconst 2, 1)) ∧ (decode cL_law 1213 = .ok (.iadd, 1)) ∧ (decode cL_law 1214 = .ok (.iaload, 1)) ∧ (decode cL_law 1215 = .ok (.aload_n 0, 1)) ∧ (decode cL_law 1216 = .ok (.iload_n 3, 1)) ∧ (decode cL_law 1217 = .ok (.iconst 3, 1)) ∧ (decode cL_law 1218 = .ok (.iadd, 1)) ∧ (decode cL_law 1219 = .ok (.iaload, 1)) ∧ (decode cL_law 1220 = .ok (.invokevirtual 114, 3)) ∧ (decode cL_law 1223 = .ok (.pop, 1)) := by decide +kernel
theorem dL_law_1212 : decode cL_law 1212 = .ok (.iconst 2, 1) := dq_41_l_880.1
theorem dL_law_1213 : decode cL_law 1213 = .ok (.iadd, 1) := dq_41_l_880.2.1
theorem dL_law_1214 : decode cL_law 1214 = .ok (.iaload, 1) := dq_41_l_880.2.2.1
theorem dL_law_1215 : decode cL_law 1215 = .ok (.aload_n 0, 1) := dq_41_l_880.2.2.2.1
theorem dL_law_1216 : decode cL_law 1216 = .ok (.iload_n 3, 1) := dq_41_l_880.2.2.2.2.1
theorem dL_law_1217 : decode cL_law 1217 = .ok (.iconst 3, 1) := dq_41_l_880.2.2.2.2.2.1
theorem dL_law_1218 : decode cL_law 1218 = .ok (.iadd, 1) := dq_41_l_880.2.2.2.2.2.2.1
theorem dL_law_1219 : decode cL_law 1219 = .ok (.iaload, 1) := dq_41_l_880.2.2.2.2.2.2.2.1
theorem dL_law_1220 : decode cL_law 1220 = .ok (.invokevirtual 114, 3) := dq_41_l_880.2.2.2.2.2.2.2.2.1
theorem dL_law_1223 : decode cL_law 1223 = .ok (.pop, 1) := dq_41_l_880.2.2.2.2.2.2.2.2.2
theorem dq_41_l_890 : (decode cL_law 1224 = .ok (.goto 654, 3)) ∧ (decode cL_law 1227 = .ok (.aload_n 1, 1)) ∧ (decode cL_law 1228 = .ok (.aload_n 0, 1)) ∧ (decode cL_law 1229 = .ok (.iload_n 3, 1)) ∧ (decode cL_law 1230 = .ok (.iconst 1, 1)) ∧ (decode cL_law 1231 = .ok (.iadd, 1)) ∧ (decode cL_law 1232 = .ok (.iaload, 1)) ∧ (decode cL_law 1233 = .ok (.aload_n 0, 1)) ∧ (decode cL_law 1234 = .ok (.iload_n 3, 1)) ∧ (decode cL_law 1235 = .ok (.iconst 2, 1)) := by decide +kernel
theorem dL_law_1224 : decode cL_law 1224 = .ok (.goto 654, 3) := dq_41_l_890.1
theorem dL_law_1227 : decode cL_law 1227 = .ok (.aload_n 1, 1) := dq_41_l_890.2.1
theorem dL_law_1228 : decode cL_law 1228 = .ok (.aload_n 0, 1) := dq_41_l_890.2.2.1
theorem dL_law_1229 : decode cL_law 1229 = .ok (.iload_n 3, 1) := dq_41_l_890.2.2.2.1
theorem dL_law_1230 : decode cL_law 1230 = .ok (.iconst 1, 1) := dq_41_l_890.2.2.2.2.1
theorem dL_law_1231 : decode cL_law 1231 = .ok (.iadd, 1) := dq_41_l_890.2.2.2.2.2.1
theorem dL_law_1232 : decode cL_law 1232 = .ok (.iaload, 1) := dq_41_l_890.2.2.2.2.2.2.1
theorem dL_law_1233 : decode cL_law 1233 = .ok (.aload_n 0, 1) := dq_41_l_890.2.2.2.2.2.2.2.1
theorem dL_law_1234 : decode cL_law 1234 = .ok (.iload_n 3, 1) := dq_41_l_890.2.2.2.2.2.2.2.2.1
theorem dL_law_1235 : decode cL_law 1235 = .ok (.iconst 2, 1) := dq_41_l_890.2.2.2.2.2.2.2.2.2
