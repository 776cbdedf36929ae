theorem dX8_init_2205 : decode cX8_init 2205 = .ok (.putfield 71, 3) := by decide +kernel
theorem dX8_init_2208 : decode cX8_init 2208 = .ok (.aload_n 0, 1) := by decide +kernel
theorem dX8_init_2209 : decode cX8_init 2209 = .ok (.sipush 20000, 3) := by decide +kernel
theorem dX8_init_2212 : decode cX8_init 2212 = .ok (.newarray .int, 2) := by decide +kernel
theorem dX8_init_2214 : decode cX8_init 2214 = .ok (.putfield 74, 3) := by decide +kernel
theorem dX8_init_2217 : decode cX8_init 2217 = .ok (.aload_n 0, 1) := by decide +kernel
theorem dX8_init_2218 : decode cX8_init 2218 = .ok (.sipush 24000, 3) := by decide +kernel
theorem dX8_init_2221 : decode cX8_init 2221 = .ok (.newarray .int, 2) := by decide +kernel
theorem dX8_init_2223 : decode cX8_init 2223 = .ok (.putfield 77, 3) := by decide +kernel
theorem dX8_init_2226 : decode cX8_init 2226 = .ok (.aload_n 0, 1) := by decide +kernel
theorem dX8_init_2227 : decode cX8_init 2227 = .ok (.sipush 4000, 3) := by decide +kernel
theorem dX8_init_2230 : decode cX8_init 2230 = .ok (.newarray .int, 2) := by decide +kernel
theorem dX8_init_2232 : decode cX8_init 2232 = .ok (.putfield 80, 3) := by decide +kernel
theorem dX8_init_2235 : decode cX8_init 2235 = .ok (.aload_n 0, 1) := by decide +kernel
theorem dX8_init_2236 : decode cX8_init 2236 = .ok (.sipush 4000, 3) := by decide +kernel
theorem dX8_init_2239 : decode cX8_init 2239 = .ok (.newarray .int, 2) := by decide +kernel
theorem dX8_init_2241 : decode cX8_init 2241 = .ok (.putfield 83, 3) := by decide +kernel
theorem dX8_init_2244 : decode cX8_init 2244 = .ok (.iconst 0, 1) := by decide +kernel
theorem dX8_init_2245 : decode cX8_init 2245 = .ok (.istore_n 1, 1) := by decide +kernel
theorem dX8_init_2246 : decode cX8_init 2246 = .ok (.iconst 0, 1) := by decide +kernel
theorem dX8_init_2247 : decode cX8_init 2247 = .ok (.istore_n 2, 1) := by decide +kernel
theorem dX8_init_2248 : decode cX8_init 2248 = .ok (.iload_n 2, 1) := by decide +kernel
theorem dX8_init_2249 : decode cX8_init 2249 = .ok (.aload_n 0, 1) := by decide +kernel
theorem dX8_init_2250 : decode cX8_init 2250 = .ok (.getfield 7, 3) := by decide +kernel
theorem dX8_init_2253 : decode cX8_init 2253 = .ok (.arraylength, 1) := by decide +kernel
theorem dX8_init_2254 : decode cX8_init 2254 = .ok (.if_icmp .ge 30, 3) := by decide +kernel
theorem dX8_init_2257 : decode cX8_init 2257 = .ok (.aload_n 0, 1) := by decide +kernel
theorem dX8_init_2258 : decode cX8_init 2258 = .ok (.getfield 7, 3) := by decide +kernel
theorem dX8_init_2261 : decode cX8_init 2261 = .ok (.iload_n 2, 1) := by decide +kernel
theorem dX8_init_2262 : decode cX8_init 2262 = .ok (.iaload, 1) := by decide +kernel
theorem dX8_init_2263 : decode cX8_init 2263 = .ok (.ifCond .ne 15, 3) := by decide +kernel
theorem dX8_init_2266 : decode cX8_init 2266 = .ok (.iinc 1 1, 3) := by decide +kernel
theorem dX8_init_2269 : decode cX8_init 2269 = .ok (.aload_n 0, 1) := by decide +kernel
theorem dX8_init_2270 : decode cX8_init 2270 = .ok (.getfield 13, 3) := by decide +kernel
theorem dX8_init_2273 : decode cX8_init 2273 = .ok (.iload_n 1, 1) := by decide +kernel
theorem dX8_init_2274 : decode cX8_init 2274 = .ok (.iload_n 2, 1) := by decide +kernel
theorem dX8_init_2275 : decode cX8_init 2275 = .ok (.iconst 1, 1) := by decide +kernel
theorem dX8_init_2276 : decode cX8_init 2276 = .ok (.iadd, 1) := by decide +kernel
theorem dX8_init_2277 : decode cX8_init 2277 = .ok (.iastore, 1) := by decide +kernel
theorem dX8_init_2278 : decode cX8_init 2278 = .ok (.iinc 2 1, 3) := by decide +kernel
theorem dX8_init_2281 : decode cX8_init 2281 = .ok (.goto (-33), 3) := by decide +kernel
theorem dX8_init_2284 : decode cX8_init 2284 = .ok (.return_, 1) := by decide +kernel
