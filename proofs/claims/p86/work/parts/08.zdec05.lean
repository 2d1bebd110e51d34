def dl_15 : List (Nat × (Instr × Nat)) := [(2338, (.iload_n 3, 1)), (2339, (.iconst 1, 1)), (2340, (.iadd, 1)), (2341, (.iaload, 1)), (2342, (.aload_n 0, 1)), (2343, (.iload_n 3, 1)), (2344, (.iconst 2, 1)), (2345, (.iadd, 1)), (2346, (.iaload, 1)), (2347, (.aload_n 0, 1)), (2348, (.iload_n 3, 1)), (2349, (.iconst 3, 1)), (2350, (.iadd, 1)), (2351, (.iaload, 1)), (2352, (.invokevirtual 333, 3)), (2355, (.pop, 1)), (2356, (.aload_n 2, 1)), (2357, (.aload_n 0, 1)), (2358, (.iload_n 3, 1)), (2359, (.iconst 1, 1)), (2360, (.iadd, 1)), (2361, (.iaload, 1)), (2362, (.aload_n 0, 1)), (2363, (.iload_n 3, 1)), (2364, (.iconst 2, 1)), (2365, (.iadd, 1)), (2366, (.iaload, 1)), (2367, (.aload_n 0, 1)), (2368, (.iload_n 3, 1)), (2369, (.iconst 3, 1)), (2370, (.iadd, 1)), (2371, (.iaload, 1)), (2372, (.invokevirtual 336, 3)), (2375, (.pop, 1)), (2376, (.goto 284, 3)), (2379, (.aload_n 1, 1)), (2380, (.aload_n 0, 1)), (2381, (.iload_n 3, 1)), (2382, (.iconst 1, 1)), (2383, (.iadd, 1)), (2384, (.iaload, 1)), (2385, (.aload_n 0, 1)), (2386, (.iload_n 3, 1)), (2387, (.iconst 2, 1)), (2388, (.iadd, 1)), (2389, (.iaload, 1)), (2390, (.invokevirtual 337, 3)), (2393, (.pop, 1)), (2394, (.aload_n 2, 1)), (2395, (.aload_n 0, 1)), (2396, (.iload_n 3, 1)), (2397, (.iconst 1, 1)), (2398, (.iadd, 1)), (2399, (.iaload, 1)), (2400, (.aload_n 0, 1)), (2401, (.iload_n 3, 1)), (2402, (.iconst 2, 1)), (2403, (.iadd, 1)), (2404, (.iaload, 1)), (2405, (.invokevirtual 340, 3)), (2408, (.pop, 1)), (2409, (.goto 251, 3)), (2412, (.aload_n 1, 1)), (2413, (.aload_n 0, 1)), (2414, (.iload_n 3, 1)), (2415, (.iconst 1, 1)), (2416, (.iadd, 1)), (2417, (.iaload, 1)), (2418, (.invokevirtual 341, 3)), (2421, (.pop, 1)), (2422, (.aload_n 2, 1)), (2423, (.aload_n 0, 1)), (2424, (.iload_n 3, 1)), (2425, (.iconst 1, 1)), (2426, (.iadd, 1)), (2427, (.iaload, 1)), (2428, (.invokevirtual 344, 3)), (2431, (.pop, 1)), (2432, (.goto 228, 3)), (2435, (.aload_n 1, 1)), (2436, (.aload_n 0, 1)), (2437, (.iload_n 3, 1)), (2438, (.iconst 1, 1)), (2439, (.iadd, 1)), (2440, (.iaload, 1)), (2441, (.invokevirtual 345, 3)), (2444, (.pop, 1)), (2445, (.aload_n 2, 1)), (2446, (.aload_n 0, 1)), (2447, (.iload_n 3, 1)), (2448, (.iconst 1, 1)), (2449, (.iadd, 1)), (2450, (.iaload, 1)), (2451, (.invokevirtual 348, 3)), (2454, (.pop, 1)), (2455, (.goto 205, 3)), (2458, (.aload_n 1, 1)), (2459, (.aload_n 0, 1)), (2460, (.iload_n 3, 1)), (2461, (.iconst 1, 1))]
set_option maxRecDepth 100000 in
theorem dl_15_ok : ∀ x ∈ dl_15, decode code x.1 = .ok x.2 := by decide +kernel
set_option maxRecDepth 100000 in
theorem dL_law_2338 : decode code 2338 = .ok (.iload_n 3, 1) := dl_15_ok (2338, (.iload_n 3, 1)) (List.mem_of_getElem? (i := 0) rfl)
set_option maxRecDepth 100000 in
theorem dL_law_2339 : decode code 2339 = .ok (.iconst 1, 1) := dl_15_ok (2339, (.iconst 1, 1)) (List.mem_of_getElem? (i := 1) rfl)
set_option maxRecDepth 100000 in
theorem dL_law_2340 : decode code 2340 = .ok (.iadd, 1) := dl_15_ok (2340, (.iadd, 1)) (List.mem_of_getElem? (i := 2) rfl)
set_option maxRecDepth 100000 in
theorem dL_law_2341 : decode code 2341 = .ok (.iaload, 1) := dl_15_ok (2341, (.iaload, 1)) (List.mem_of_getElem? (i := 3) rfl)
set_option maxRecDepth 100000 in
theorem dL_law_2342 : decode code 2342 = .ok (.aload_n 0, 1) := dl_15_ok (2342, (.aload_n 0, 1)) (List.mem_of_getElem? (i := 4) rfl)
set_option maxRecDepth 100000 in
theorem dL_law_2343 : decode code 2343 = .ok (.iload_n 3, 1) := dl_15_ok (2343, (.iload_n 3, 1)) (List.mem_of_getElem? (i := 5) rfl)
set_option maxRecDepth 100000 in
theorem dL_law_2344 : decode code 2344 = .ok (.iconst 2, 1) := dl_15_ok (2344, (.iconst 2, 1)) (List.mem_of_getElem? (i := 6) rfl)
set_option maxRecDepth 100000 in
theorem dL_law_2345 : decode code 2345 = .ok (.iadd, 1) := dl_15_ok (2345, (.iadd, 1)) (List.mem_of_getElem? (i := 7) rfl)
set_option maxRecDepth 100000 in
theorem dL_law_2346 : decode code 2346 = .ok (.iaload, 1) := dl_15_ok (2346, (.iaload, 1)) (List.mem_of_getElem? (i := 8) rfl)
set_option maxRecDepth 100000 in
theorem dL_law_2347 : decode code 2347 = .ok (.aload_n 0, 1) := dl_15_ok (2347, (.aload_n 0, 1)) (List.mem_of_getElem? (i := 9) rfl)
set_option maxRecDepth 100000 in
theorem dL_law_2348 : decode code 2348 = .ok (.iload_n 3, 1) := dl_15_ok (2348, (.iload_n 3, 1)) (List.mem_of_getElem? (i := 10) rfl)
set_option maxRecDepth 100000 in
theorem dL_law_2349 : decode code 2349 = .ok (.iconst 3, 1) := dl_15_ok (2349, (.iconst 3, 1)) (List.mem_of_getElem? (i := 11) rfl)
set_option maxRecDepth 100000 in
theorem dL_law_2350 : decode code 2350 = .ok (.iadd, 1) := dl_15_ok (2350, (.iadd, 1)) (List.mem_of_getElem? (i := 12) rfl)
set_option maxRecDepth 100000 in
theorem dL_law_2351 : decode code 2351 = .ok (.iaload, 1) := dl_15_ok (2351, (.iaload, 1)) (List.mem_of_getElem? (i := 13) rfl)
set_option maxRecDepth 100000 in
theorem dL_law_2352 : decode code 2352 = .ok (.invokevirtual 333, 3) := dl_15_ok (2352, (.invokevirtual 333, 3)) (List.mem_of_getElem? (i := 14) rfl)
set_option maxRecDepth 100000 in
theorem dL_law_2355 : decode code 2355 = .ok (.pop, 1) := dl_15_ok (2355, (.pop, 1)) (List.mem_of_getElem? (i := 15) rfl)
set_option maxRecDepth 100000 in
theorem dL_law_2356 : decode code 2356 = .ok (.aload_n 2, 1) := dl_15_ok (2356, (.aload_n 2, 1)) (List.mem_of_getElem? (i := 16) rfl)
set_option maxRecDepth 100000 in
theorem dL_law_2357 : decode code 2357 = .ok (.aload_n 0, 1) := dl_15_ok (2357, (.aload_n 0, 1)) (List.mem_of_getElem? (i := 17) rfl)
set_option maxRecDepth 100000 in
theorem dL_law_2358 : decode code 2358 = .ok (.iload_n 3, 1) := dl_15_ok (2358, (.iload_n 3, 1)) (List.mem_of_getElem? (i := 18) rfl)
set_option maxRecDepth 100000 in
theorem dL_law_2359 : decode code 2359 = .ok (.iconst 1, 1) := dl_15_ok (2359, (.iconst 1, 1)) (List.mem_of_getElem? (i := 19) rfl)
set_option maxRecDepth 100000 in
theorem dL_law_2360 : decode code 2360 = .ok (.iadd, 1) := dl_15_ok (2360, (.iadd, 1)) (List.mem_of_getElem? (i := 20) rfl)
set_option maxRecDepth 100000 in
theorem dL_law_2361 : decode code 2361 = .ok (.iaload, 1) := dl_15_ok (2361, (.iaload, 1)) (List.mem_of_getElem? (i := 21) rfl)
set_option maxRecDepth 100000 in
theorem dL_law_2362 : decode code 2362 = .ok (.aload_n 0, 1) := dl_15_ok (2362, (.aload_n 0, 1)) (List.mem_of_getElem? (i := 22) rfl)
set_option maxRecDepth 100000 in
theorem dL_law_2363 : decode code 2363 = .ok (.iload_n 3, 1) := dl_15_ok (2363, (.iload_n 3, 1)) (List.mem_of_getElem? (i := 23) rfl)
set_option maxRecDepth 100000 in
theorem dL_law_2364 : decode code 2364 = .ok (.iconst 2, 1) := dl_15_ok (2364, (.iconst 2, 1)) (List.mem_of_getElem? (i := 24) rfl)
set_option maxRecDepth 100000 in
theorem dL_law_2365 : decode code 2365 = .ok (.iadd, 1) := dl_15_ok (2365, (.iadd, 1)) (List.mem_of_getElem? (i := 25) rfl)
set_option maxRecDepth 100000 in
theorem dL_law_2366 : decode code 2366 = .ok (.iaload, 1) := dl_15_ok (2366, (.iaload, 1)) (List.mem_of_getElem? (i := 26) rfl)
set_option maxRecDepth 100000 in
theorem dL_law_2367 : decode code 2367 = .ok (.aload_n 0, 1) := dl_15_ok (2367, (.aload_n 0, 1)) (List.mem_of_getElem? (i := 27) rfl)
set_option maxRecDepth 100000 in
theorem dL_law_2368 : decode code 2368 = .ok (.iload_n 3, 1) := dl_15_ok (2368, (.iload_n 3, 1)) (List.mem_of_getElem? (i := 28) rfl)
set_option maxRecDepth 100000 in
theorem dL_law_2369 : decode code 2369 = .ok (.iconst 3, 1) := dl_15_ok (2369, (.iconst 3, 1)) (List.mem_of_getElem? (i := 29) rfl)
set_option maxRecDepth 100000 in
theorem dL_law_2370 : decode code 2370 = .ok (.iadd, 1) := dl_15_ok (2370, (.iadd, 1)) (List.mem_of_getElem? (i := 30) rfl)
set_option maxRecDepth 100000 in
theorem dL_law_2371 : decode code 2371 = .ok (.iaload, 1) := dl_15_ok (2371, (.iaload, 1)) (List.mem_of_getElem? (i := 31) rfl)
set_option maxRecDepth 100000 in
theorem dL_law_2372 : decode code 2372 = .ok (.invokevirtual 336, 3) := dl_15_ok (2372, (.invokevirtual 336, 3)) (List.mem_of_getElem? (i := 32) rfl)
set_option maxRecDepth 100000 in
theorem dL_law_2375 : decode code 2375 = .ok (.pop, 1) := dl_15_ok (2375, (.pop, 1)) (List.mem_of_getElem? (i := 33) rfl)
set_option maxRecDepth 100000 in
theorem dL_law_2376 : decode code 2376 = .ok (.goto 284, 3) := dl_15_ok (2376, (.goto 284, 3)) (List.mem_of_getElem? (i := 34) rfl)
set_option maxRecDepth 100000 in
theorem dL_law_2379 : decode code 2379 = .ok (.aload_n 1, 1) := dl_15_ok (2379, (.aload_n 1, 1)) (List.mem_of_getElem? (i := 35) rfl)
set_option maxRecDepth 100000 in
theorem dL_law_2380 : decode code 2380 = .ok (.aload_n 0, 1) := dl_15_ok (2380, (.aload_n 0, 1)) (List.mem_of_getElem? (i := 36) rfl)
set_option maxRecDepth 100000 in
theorem dL_law_2381 : decode code 2381 = .ok (.iload_n 3, 1) := dl_15_ok (2381, (.iload_n 3, 1)) (List.mem_of_getElem? (i := 37) rfl)
set_option maxRecDepth 100000 in
theorem dL_law_2382 : decode code 2382 = .ok (.iconst 1, 1) := dl_15_ok (2382, (.iconst 1, 1)) (List.mem_of_getElem? (i := 38) rfl)
set_option maxRecDepth 100000 in
theorem dL_law_2383 : decode code 2383 = .ok (.iadd, 1) := dl_15_ok (2383, (.iadd, 1)) (List.mem_of_getElem? (i := 39) rfl)
set_option maxRecDepth 100000 in
theorem dL_law_2384 : decode code 2384 = .ok (.iaload, 1) := dl_15_ok (2384, (.iaload, 1)) (List.mem_of_getElem? (i := 40) rfl)
set_option maxRecDepth 100000 in
theorem dL_law_2385 : decode code 2385 = .ok (.aload_n 0, 1) := dl_15_ok (2385, (.aload_n 0, 1)) (List.mem_of_getElem? (i := 41) rfl)
set_option maxRecDepth 100000 in
theorem dL_law_2386 : decode code 2386 = .ok (.iload_n 3, 1) := dl_15_ok (2386, (.iload_n 3, 1)) (List.mem_of_getElem? (i := 42) rfl)
set_option maxRecDepth 100000 in
theorem dL_law_2387 : decode code 2387 = .ok (.iconst 2, 1) := dl_15_ok (2387, (.iconst 2, 1)) (List.mem_of_getElem? (i := 43) rfl)
set_option maxRecDepth 100000 in
theorem dL_law_2388 : decode code 2388 = .ok (.iadd, 1) := dl_15_ok (2388, (.iadd, 1)) (List.mem_of_getElem? (i := 44) rfl)
set_option maxRecDepth 100000 in
theorem dL_law_2389 : decode code 2389 = .ok (.iaload, 1) := dl_15_ok (2389, (.iaload, 1)) (List.mem_of_getElem? (i := 45) rfl)
set_option maxRecDepth 100000 in
theorem dL_law_2390 : decode code 2390 = .ok (.invokevirtual 337, 3) := dl_15_ok (2390, (.invokevirtual 337, 3)) (List.mem_of_getElem? (i := 46) rfl)
set_option maxRecDepth 100000 in
theorem dL_law_2393 : decode code 2393 = .ok (.pop, 1) := dl_15_ok (2393, (.pop, 1)) (List.mem_of_getElem? (i := 47) rfl)
set_option maxRecDepth 100000 in
theorem dL_law_2394 : decode code 2394 = .ok (.aload_n 2, 1) := dl_15_ok (2394, (.aload_n 2, 1)) (List.mem_of_getElem? (i := 48) rfl)
set_option maxRecDepth 100000 in
theorem dL_law_2395 : decode code 2395 = .ok (.aload_n 0, 1) := dl_15_ok (2395, (.aload_n 0, 1)) (List.mem_of_getElem? (i := 49) rfl)
set_option maxRecDepth 100000 in
theorem dL_law_2396 : decode code 2396 = .ok (.iload_n 3, 1) := dl_15_ok (2396, (.iload_n 3, 1)) (List.mem_of_getElem? (i := 50) rfl)
set_option maxRecDepth 100000 in
theorem dL_law_2397 : decode code 2397 = .ok (.iconst 1, 1) := dl_15_ok (2397, (.iconst 1, 1)) (List.mem_of_getElem? (i := 51) rfl)
set_option maxRecDepth 100000 in
theorem dL_law_2398 : decode code 2398 = .ok (.iadd, 1) := dl_15_ok (2398, (.iadd, 1)) (List.mem_of_getElem? (i := 52) rfl)
set_option maxRecDepth 100000 in
theorem dL_law_2399 : decode code 2399 = .ok (.iaload, 1) := dl_15_ok (2399, (.iaload, 1)) (List.mem_of_getElem? (i := 53) rfl)
set_option maxRecDepth 100000 in
theorem dL_law_2400 : decode code 2400 = .ok (.aload_n 0, 1) := dl_15_ok (2400, (.aload_n 0, 1)) (List.mem_of_getElem? (i := 54) rfl)
set_option maxRecDepth 100000 in
theorem dL_law_2401 : decode code 2401 = .ok (.iload_n 3, 1) := dl_15_ok (2401, (.iload_n 3, 1)) (List.mem_of_getElem? (i := 55) rfl)
set_option maxRecDepth 100000 in
theorem dL_law_2402 : decode code 2402 = .ok (.iconst 2, 1) := dl_15_ok (2402, (.iconst 2, 1)) (List.mem_of_getElem? (i := 56) rfl)
set_option maxRecDepth 100000 in
theorem dL_law_2403 : decode code 2403 = .ok (.iadd, 1) := dl_15_ok (2403, (.iadd, 1)) (List.mem_of_getElem? (i := 57) rfl)
set_option maxRecDepth 100000 in
theorem dL_law_2404 : decode code 2404 = .ok (.iaload, 1) := dl_15_ok (2404, (.iaload, 1)) (List.mem_of_getElem? (i := 58) rfl)
set_option maxRecDepth 100000 in
theorem dL_law_2405 : decode code 2405 = .ok (.invokevirtual 340, 3) := dl_15_ok (2405, (.invokevirtual 340, 3)) (List.mem_of_getElem? (i := 59) rfl)
set_option maxRecDepth 100000 in
theorem dL_law_2408 : decode code 2408 = .ok (.pop, 1) := dl_15_ok (2408, (.pop, 1)) (List.mem_of_getElem? (i := 60) rfl)
set_option maxRecDepth 100000 in
theorem dL_law_2409 : decode code 2409 = .ok (.goto 251, 3) := dl_15_ok (2409, (.goto 251, 3)) (List.mem_of_getElem? (i := 61) rfl)
set_option maxRecDepth 100000 in
theorem dL_law_2412 : decode code 2412 = .ok (.aload_n 1, 1) := dl_15_ok (2412, (.aload_n 1, 1)) (List.mem_of_getElem? (i := 62) rfl)
set_option maxRecDepth 100000 in
theorem dL_law_2413 : decode code 2413 = .ok (.aload_n 0, 1) := dl_15_ok (2413, (.aload_n 0, 1)) (List.mem_of_getElem? (i := 63) rfl)
set_option maxRecDepth 100000 in
theorem dL_law_2414 : decode code 2414 = .ok (.iload_n 3, 1) := dl_15_ok (2414, (.iload_n 3, 1)) (List.mem_of_getElem? (i := 64) rfl)
set_option maxRecDepth 100000 in
theorem dL_law_2415 : decode code 2415 = .ok (.iconst 1, 1) := dl_15_ok (2415, (.iconst 1, 1)) (List.mem_of_getElem? (i := 65) rfl)
set_option maxRecDepth 100000 in
theorem dL_law_2416 : decode code 2416 = .ok (.iadd, 1) := dl_15_ok (2416, (.iadd, 1)) (List.mem_of_getElem? (i := 66) rfl)
set_option maxRecDepth 100000 in
theorem dL_law_2417 : decode code 2417 = .ok (.iaload, 1) := dl_15_ok (2417, (.iaload, 1)) (List.mem_of_getElem? (i := 67) rfl)
set_option maxRecDepth 100000 in
theorem dL_law_2418 : decode code 2418 = .ok (.invokevirtual 341, 3) := dl_15_ok (2418, (.invokevirtual 341, 3)) (List.mem_of_getElem? (i := 68) rfl)
set_option maxRecDepth 100000 in
theorem dL_law_2421 : decode code 2421 = .ok (.pop, 1) := dl_15_ok (2421, (.pop, 1)) (List.mem_of_getElem? (i := 69) rfl)
set_option maxRecDepth 100000 in
theorem dL_law_2422 : decode code 2422 = .ok (.aload_n 2, 1) := dl_15_ok (2422, (.aload_n 2, 1)) (List.mem_of_getElem? (i := 70) rfl)
set_option maxRecDepth 100000 in
theorem dL_law_2423 : decode code 2423 = .ok (.aload_n 0, 1) := dl_15_ok (2423, (.aload_n 0, 1)) (List.mem_of_getElem? (i := 71) rfl)
set_option maxRecDepth 100000 in
theorem dL_law_2424 : decode code 2424 = .ok (.iload_n 3, 1) := dl_15_ok (2424, (.iload_n 3, 1)) (List.mem_of_getElem? (i := 72) rfl)
set_option maxRecDepth 100000 in
theorem dL_law_2425 : decode code 2425 = .ok (.iconst 1, 1) := dl_15_ok (2425, (.iconst 1, 1)) (List.mem_of_getElem? (i := 73) rfl)
set_option maxRecDepth 100000 in
theorem dL_law_2426 : decode code 2426 = .ok (.iadd, 1) := dl_15_ok (2426, (.iadd, 1)) (List.mem_of_getElem? (i := 74) rfl)
set_option maxRecDepth 100000 in
theorem dL_law_2427 : decode code 2427 = .ok (.iaload, 1) := dl_15_ok (2427, (.iaload, 1)) (List.mem_of_getElem? (i := 75) rfl)
set_option maxRecDepth 100000 in
theorem dL_law_2428 : decode code 2428 = .ok (.invokevirtual 344, 3) := dl_15_ok (2428, (.invokevirtual 344, 3)) (List.mem_of_getElem? (i := 76) rfl)
set_option maxRecDepth 100000 in
theorem dL_law_2431 : decode code 2431 = .ok (.pop, 1) := dl_15_ok (2431, (.pop, 1)) (List.mem_of_getElem? (i := 77) rfl)
set_option maxRecDepth 100000 in
theorem dL_law_2432 : decode code 2432 = .ok (.goto 228, 3) := dl_15_ok (2432, (.goto 228, 3)) (List.mem_of_getElem? (i := 78) rfl)
set_option maxRecDepth 100000 in
theorem dL_law_2435 : decode code 2435 = .ok (.aload_n 1, 1) := dl_15_ok (2435, (.aload_n 1, 1)) (List.mem_of_getElem? (i := 79) rfl)
set_option maxRecDepth 100000 in
theorem dL_law_2436 : decode code 2436 = .ok (.aload_n 0, 1) := dl_15_ok (2436, (.aload_n 0, 1)) (List.mem_of_getElem? (i := 80) rfl)
set_option maxRecDepth 100000 in
theorem dL_law_2437 : decode code 2437 = .ok (.iload_n 3, 1) := dl_15_ok (2437, (.iload_n 3, 1)) (List.mem_of_getElem? (i := 81) rfl)
set_option maxRecDepth 100000 in
theorem dL_law_2438 : decode code 2438 = .ok (.iconst 1, 1) := dl_15_ok (2438, (.iconst 1, 1)) (List.mem_of_getElem? (i := 82) rfl)
set_option maxRecDepth 100000 in
theorem dL_law_2439 : decode code 2439 = .ok (.iadd, 1) := dl_15_ok (2439, (.iadd, 1)) (List.mem_of_getElem? (i := 83) rfl)
set_option maxRecDepth 100000 in
theorem dL_law_2440 : decode code 2440 = .ok (.iaload, 1) := dl_15_ok (2440, (.iaload, 1)) (List.mem_of_getElem? (i := 84) rfl)
set_option maxRecDepth 100000 in
theorem dL_law_2441 : decode code 2441 = .ok (.invokevirtual 345, 3) := dl_15_ok (2441, (.invokevirtual 345, 3)) (List.mem_of_getElem? (i := 85) rfl)
set_option maxRecDepth 100000 in
theorem dL_law_2444 : decode code 2444 = .ok (.pop, 1) := dl_15_ok (2444, (.pop, 1)) (List.mem_of_getElem? (i := 86) rfl)
set_option maxRecDepth 100000 in
theorem dL_law_2445 : decode code 2445 = .ok (.aload_n 2, 1) := dl_15_ok (2445, (.aload_n 2, 1)) (List.mem_of_getElem? (i := 87) rfl)
set_option maxRecDepth 100000 in
theorem dL_law_2446 : decode code 2446 = .ok (.aload_n 0, 1) := dl_15_ok (2446, (.aload_n 0, 1)) (List.mem_of_getElem? (i := 88) rfl)
set_option maxRecDepth 100000 in
theorem dL_law_2447 : decode code 2447 = .ok (.iload_n 3, 1) := dl_15_ok (2447, (.iload_n 3, 1)) (List.mem_of_getElem? (i := 89) rfl)
set_option maxRecDepth 100000 in
theorem dL_law_2448 : decode code 2448 = .ok (.iconst 1, 1) := dl_15_ok (2448, (.iconst 1, 1)) (List.mem_of_getElem? (i := 90) rfl)
set_option maxRecDepth 100000 in
theorem dL_law_2449 : decode code 2449 = .ok (.iadd, 1) := dl_15_ok (2449, (.iadd, 1)) (List.mem_of_getElem? (i := 91) rfl)
set_option maxRecDepth 100000 in
theorem dL_law_2450 : decode code 2450 = .ok (.iaload, 1) := dl_15_ok (2450, (.iaload, 1)) (List.mem_of_getElem? (i := 92) rfl)
set_option maxRecDepth 100000 in
theorem dL_law_2451 : decode code 2451 = .ok (.invokevirtual 348, 3) := dl_15_ok (2451, (.invokevirtual 348, 3)) (List.mem_of_getElem? (i := 93) rfl)
set_option maxRecDepth 100000 in
theorem dL_law_2454 : decode code 2454 = .ok (.pop, 1) := dl_15_ok (2454, (.pop, 1)) (List.mem_of_getElem? (i := 94) rfl)
set_option maxRecDepth 100000 in
theorem dL_law_2455 : decode code 2455 = .ok (.goto 205, 3) := dl_15_ok (2455, (.goto 205, 3)) (List.mem_of_getElem? (i := 95) rfl)
set_option maxRecDepth 100000 in
theorem dL_law_2458 : decode code 2458 = .ok (.aload_n 1, 1) := dl_15_ok (2458, (.aload_n 1, 1)) (List.mem_of_getElem? (i := 96) rfl)
set_option maxRecDepth 100000 in
theorem dL_law_2459 : decode code 2459 = .ok (.aload_n 0, 1) := dl_15_ok (2459, (.aload_n 0, 1)) (List.mem_of_getElem? (i := 97) rfl)
set_option maxRecDepth 100000 in
theorem dL_law_2460 : decode code 2460 = .ok (.iload_n 3, 1) := dl_15_ok (2460, (.iload_n 3, 1)) (List.mem_of_getElem? (i := 98) rfl)
set_option maxRecDepth 100000 in
theorem dL_law_2461 : decode code 2461 = .ok (.iconst 1, 1) := dl_15_ok (2461, (.iconst 1, 1)) (List.mem_of_getElem? (i := 99) rfl)
def dl_16 : List (Nat × (Instr × Nat)) := [(2462, (.iadd, 1)), (2463, (.iaload, 1)), (2464, (.invokevirtual 349, 3)), (2467, (.pop, 1)), (2468, (.aload_n 2, 1)), (2469, (.aload_n 0, 1)), (2470, (.iload_n 3, 1)), (2471, (.iconst 1, 1)), (2472, (.iadd, 1)), (2473, (.iaload, 1)), (2474, (.invokevirtual 352, 3)), (2477, (.pop, 1)), (2478, (.goto 182, 3)), (2481, (.aload_n 1, 1)), (2482, (.aload_n 0, 1)), (2483, (.iload_n 3, 1)), (2484, (.iconst 1, 1)), (2485, (.iadd, 1)), (2486, (.iaload, 1)), (2487, (.aload_n 0, 1)), (2488, (.iload_n 3, 1)), (2489, (.iconst 2, 1)), (2490, (.iadd, 1)), (2491, (.iaload, 1)), (2492, (.aload_n 0, 1)), (2493, (.iload_n 3, 1)), (2494, (.iconst 3, 1)), (2495, (.iadd, 1)), (2496, (.iaload, 1)), (2497, (.invokevirtual 353, 3)), (2500, (.pop, 1)), (2501, (.aload_n 2, 1)), (2502, (.aload_n 0, 1)), (2503, (.iload_n 3, 1)), (2504, (.iconst 1, 1)), (2505, (.iadd, 1)), (2506, (.iaload, 1)), (2507, (.aload_n 0, 1)), (2508, (.iload_n 3, 1)), (2509, (.iconst 2, 1)), (2510, (.iadd, 1)), (2511, (.iaload, 1)), (2512, (.aload_n 0, 1)), (2513, (.iload_n 3, 1)), (2514, (.iconst 3, 1)), (2515, (.iadd, 1)), (2516, (.iaload, 1)), (2517, (.invokevirtual 356, 3)), (2520, (.pop, 1)), (2521, (.goto 139, 3)), (2524, (.aload_n 1, 1)), (2525, (.aload_n 0, 1)), (2526, (.iload_n 3, 1)), (2527, (.iconst 1, 1)), (2528, (.iadd, 1)), (2529, (.iaload, 1)), (2530, (.aload_n 0, 1)), (2531, (.iload_n 3, 1)), (2532, (.iconst 2, 1)), (2533, (.iadd, 1)), (2534, (.iaload, 1)), (2535, (.aload_n 0, 1)), (2536, (.iload_n 3, 1)), (2537, (.iconst 3, 1)), (2538, (.iadd, 1)), (2539, (.iaload, 1)), (2540, (.i2l, 1)), (2541, (.bipush 32, 2)), (2543, (.lshl, 1)), (2544, (.aload_n 0, 1)), (2545, (.iload_n 3, 1)), (2546, (.iconst 4, 1)), (2547, (.iadd, 1)), (2548, (.iaload, 1)), (2549, (.i2l, 1)), (2550, (.ldc2_w 357, 3)), (2553, (.land, 1)), (2554, (.lor, 1)), (2555, (.invokevirtual 359, 3)), (2558, (.aload_n 2, 1)), (2559, (.aload_n 0, 1)), (2560, (.iload_n 3, 1)), (2561, (.iconst 1, 1)), (2562, (.iadd, 1)), (2563, (.iaload, 1)), (2564, (.aload_n 0, 1)), (2565, (.iload_n 3, 1)), (2566, (.iconst 2, 1)), (2567, (.iadd, 1)), (2568, (.iaload, 1)), (2569, (.aload_n 0, 1)), (2570, (.iload_n 3, 1)), (2571, (.iconst 3, 1)), (2572, (.iadd, 1)), (2573, (.iaload, 1)), (2574, (.i2l, 1)), (2575, (.bipush 32, 2)), (2577, (.lshl, 1)), (2578, (.aload_n 0, 1)), (2579, (.iload_n 3, 1))]
set_option maxRecDepth 100000 in
theorem dl_16_ok : ∀ x ∈ dl_16, decode code x.1 = .ok x.2 := by decide +kernel
set_option maxRecDepth 100000 in
theorem dL_law_2462 : decode code 2462 = .ok (.iadd, 1) := dl_16_ok (2462, (.iadd, 1)) (List.mem_of_getElem? (i := 0) rfl)
set_option maxRecDepth 100000 in
theorem dL_law_2463 : decode code 2463 = .ok (.iaload, 1) := dl_16_ok (2463, (.iaload, 1)) (List.mem_of_getElem? (i := 1) rfl)
set_option maxRecDepth 100000 in
theorem dL_law_2464 : decode code 2464 = .ok (.invokevirtual 349, 3) := dl_16_ok (2464, (.invokevirtual 349, 3)) (List.mem_of_getElem? (i := 2) rfl)
set_option maxRecDepth 100000 in
theorem dL_law_2467 : decode code 2467 = .ok (.pop, 1) := dl_16_ok (2467, (.pop, 1)) (List.mem_of_getElem? (i := 3) rfl)
set_option maxRecDepth 100000 in
theorem dL_law_2468 : decode code 2468 = .ok (.aload_n 2, 1) := dl_16_ok (2468, (.aload_n 2, 1)) (List.mem_of_getElem? (i := 4) rfl)
set_option maxRecDepth 100000 in
theorem dL_law_2469 : decode code 2469 = .ok (.aload_n 0, 1) := dl_16_ok (2469, (.aload_n 0, 1)) (List.mem_of_getElem? (i := 5) rfl)
set_option maxRecDepth 100000 in
theorem dL_law_2470 : decode code 2470 = .ok (.iload_n 3, 1) := dl_16_ok (2470, (.iload_n 3, 1)) (List.mem_of_getElem? (i := 6) rfl)
set_option maxRecDepth 100000 in
theorem dL_law_2471 : decode code 2471 = .ok (.iconst 1, 1) := dl_16_ok (2471, (.iconst 1, 1)) (List.mem_of_getElem? (i := 7) rfl)
set_option maxRecDepth 100000 in
theorem dL_law_2472 : decode code 2472 = .ok (.iadd, 1) := dl_16_ok (2472, (.iadd, 1)) (List.mem_of_getElem? (i := 8) rfl)
set_option maxRecDepth 100000 in
theorem dL_law_2473 : decode code 2473 = .ok (.iaload, 1) := dl_16_ok (2473, (.iaload, 1)) (List.mem_of_getElem? (i := 9) rfl)
set_option maxRecDepth 100000 in
theorem dL_law_2474 : decode code 2474 = .ok (.invokevirtual 352, 3) := dl_16_ok (2474, (.invokevirtual 352, 3)) (List.mem_of_getElem? (i := 10) rfl)
set_option maxRecDepth 100000 in
theorem dL_law_2477 : decode code 2477 = .ok (.pop, 1) := dl_16_ok (2477, (.pop, 1)) (List.mem_of_getElem? (i := 11) rfl)
set_option maxRecDepth 100000 in
theorem dL_law_2478 : decode code 2478 = .ok (.goto 182, 3) := dl_16_ok (2478, (.goto 182, 3)) (List.mem_of_getElem? (i := 12) rfl)
set_option maxRecDepth 100000 in
theorem dL_law_2481 : decode code 2481 = .ok (.aload_n 1, 1) := dl_16_ok (2481, (.aload_n 1, 1)) (List.mem_of_getElem? (i := 13) rfl)
set_option maxRecDepth 100000 in
theorem dL_law_2482 : decode code 2482 = .ok (.aload_n 0, 1) := dl_16_ok (2482, (.aload_n 0, 1)) (List.mem_of_getElem? (i := 14) rfl)
set_option maxRecDepth 100000 in
theorem dL_law_2483 : decode code 2483 = .ok (.iload_n 3, 1) := dl_16_ok (2483, (.iload_n 3, 1)) (List.mem_of_getElem? (i := 15) rfl)
set_option maxRecDepth 100000 in
theorem dL_law_2484 : decode code 2484 = .ok (.iconst 1, 1) := dl_16_ok (2484, (.iconst 1, 1)) (List.mem_of_getElem? (i := 16) rfl)
set_option maxRecDepth 100000 in
theorem dL_law_2485 : decode code 2485 = .ok (.iadd, 1) := dl_16_ok (2485, (.iadd, 1)) (List.mem_of_getElem? (i := 17) rfl)
set_option maxRecDepth 100000 in
theorem dL_law_2486 : decode code 2486 = .ok (.iaload, 1) := dl_16_ok (2486, (.iaload, 1)) (List.mem_of_getElem? (i := 18) rfl)
set_option maxRecDepth 100000 in
theorem dL_law_2487 : decode code 2487 = .ok (.aload_n 0, 1) := dl_16_ok (2487, (.aload_n 0, 1)) (List.mem_of_getElem? (i := 19) rfl)
set_option maxRecDepth 100000 in
theorem dL_law_2488 : decode code 2488 = .ok (.iload_n 3, 1) := dl_16_ok (2488, (.iload_n 3, 1)) (List.mem_of_getElem? (i := 20) rfl)
set_option maxRecDepth 100000 in
theorem dL_law_2489 : decode code 2489 = .ok (.iconst 2, 1) := dl_16_ok (2489, (.iconst 2, 1)) (List.mem_of_getElem? (i := 21) rfl)
set_option maxRecDepth 100000 in
theorem dL_law_2490 : decode code 2490 = .ok (.iadd, 1) := dl_16_ok (2490, (.iadd, 1)) (List.mem_of_getElem? (i := 22) rfl)
set_option maxRecDepth 100000 in
theorem dL_law_2491 : decode code 2491 = .ok (.iaload, 1) := dl_16_ok (2491, (.iaload, 1)) (List.mem_of_getElem? (i := 23) rfl)
set_option maxRecDepth 100000 in
theorem dL_law_2492 : decode code 2492 = .ok (.aload_n 0, 1) := dl_16_ok (2492, (.aload_n 0, 1)) (List.mem_of_getElem? (i := 24) rfl)
set_option maxRecDepth 100000 in
theorem dL_law_2493 : decode code 2493 = .ok (.iload_n 3, 1) := dl_16_ok (2493, (.iload_n 3, 1)) (List.mem_of_getElem? (i := 25) rfl)
set_option maxRecDepth 100000 in
theorem dL_law_2494 : decode code 2494 = .ok (.iconst 3, 1) := dl_16_ok (2494, (.iconst 3, 1)) (List.mem_of_getElem? (i := 26) rfl)
set_option maxRecDepth 100000 in
theorem dL_law_2495 : decode code 2495 = .ok (.iadd, 1) := dl_16_ok (2495, (.iadd, 1)) (List.mem_of_getElem? (i := 27) rfl)
set_option maxRecDepth 100000 in
theorem dL_law_2496 : decode code 2496 = .ok (.iaload, 1) := dl_16_ok (2496, (.iaload, 1)) (List.mem_of_getElem? (i := 28) rfl)
set_option maxRecDepth 100000 in
theorem dL_law_2497 : decode code 2497 = .ok (.invokevirtual 353, 3) := dl_16_ok (2497, (.invokevirtual 353, 3)) (List.mem_of_getElem? (i := 29) rfl)
set_option maxRecDepth 100000 in
theorem dL_law_2500 : decode code 2500 = .ok (.pop, 1) := dl_16_ok (2500, (.pop, 1)) (List.mem_of_getElem? (i := 30) rfl)
set_option maxRecDepth 100000 in
theorem dL_law_2501 : decode code 2501 = .ok (.aload_n 2, 1) := dl_16_ok (2501, (.aload_n 2, 1)) (List.mem_of_getElem? (i := 31) rfl)
set_option maxRecDepth 100000 in
theorem dL_law_2502 : decode code 2502 = .ok (.aload_n 0, 1) := dl_16_ok (2502, (.aload_n 0, 1)) (List.mem_of_getElem? (i := 32) rfl)
set_option maxRecDepth 100000 in
theorem dL_law_2503 : decode code 2503 = .ok (.iload_n 3, 1) := dl_16_ok (2503, (.iload_n 3, 1)) (List.mem_of_getElem? (i := 33) rfl)
set_option maxRecDepth 100000 in
theorem dL_law_2504 : decode code 2504 = .ok (.iconst 1, 1) := dl_16_ok (2504, (.iconst 1, 1)) (List.mem_of_getElem? (i := 34) rfl)
set_option maxRecDepth 100000 in
theorem dL_law_2505 : decode code 2505 = .ok (.iadd, 1) := dl_16_ok (2505, (.iadd, 1)) (List.mem_of_getElem? (i := 35) rfl)
set_option maxRecDepth 100000 in
theorem dL_law_2506 : decode code 2506 = .ok (.iaload, 1) := dl_16_ok (2506, (.iaload, 1)) (List.mem_of_getElem? (i := 36) rfl)
set_option maxRecDepth 100000 in
theorem dL_law_2507 : decode code 2507 = .ok (.aload_n 0, 1) := dl_16_ok (2507, (.aload_n 0, 1)) (List.mem_of_getElem? (i := 37) rfl)
set_option maxRecDepth 100000 in
theorem dL_law_2508 : decode code 2508 = .ok (.iload_n 3, 1) := dl_16_ok (2508, (.iload_n 3, 1)) (List.mem_of_getElem? (i := 38) rfl)
set_option maxRecDepth 100000 in
theorem dL_law_2509 : decode code 2509 = .ok (.iconst 2, 1) := dl_16_ok (2509, (.iconst 2, 1)) (List.mem_of_getElem? (i := 39) rfl)
set_option maxRecDepth 100000 in
theorem dL_law_2510 : decode code 2510 = .ok (.iadd, 1) := dl_16_ok (2510, (.iadd, 1)) (List.mem_of_getElem? (i := 40) rfl)
set_option maxRecDepth 100000 in
theorem dL_law_2511 : decode code 2511 = .ok (.iaload, 1) := dl_16_ok (2511, (.iaload, 1)) (List.mem_of_getElem? (i := 41) rfl)
set_option maxRecDepth 100000 in
theorem dL_law_2512 : decode code 2512 = .ok (.aload_n 0, 1) := dl_16_ok (2512, (.aload_n 0, 1)) (List.mem_of_getElem? (i := 42) rfl)
set_option maxRecDepth 100000 in
theorem dL_law_2513 : decode code 2513 = .ok (.iload_n 3, 1) := dl_16_ok (2513, (.iload_n 3, 1)) (List.mem_of_getElem? (i := 43) rfl)
set_option maxRecDepth 100000 in
theorem dL_law_2514 : decode code 2514 = .ok (.iconst 3, 1) := dl_16_ok (2514, (.iconst 3, 1)) (List.mem_of_getElem? (i := 44) rfl)
set_option maxRecDepth 100000 in
theorem dL_law_2515 : decode code 2515 = .ok (.iadd, 1) := dl_16_ok (2515, (.iadd, 1)) (List.mem_of_getElem? (i := 45) rfl)
set_option maxRecDepth 100000 in
theorem dL_law_2516 : decode code 2516 = .ok (.iaload, 1) := dl_16_ok (2516, (.iaload, 1)) (List.mem_of_getElem? (i := 46) rfl)
set_option maxRecDepth 100000 in
theorem dL_law_2517 : decode code 2517 = .ok (.invokevirtual 356, 3) := dl_16_ok (2517, (.invokevirtual 356, 3)) (List.mem_of_getElem? (i := 47) rfl)
set_option maxRecDepth 100000 in
theorem dL_law_2520 : decode code 2520 = .ok (.pop, 1) := dl_16_ok (2520, (.pop, 1)) (List.mem_of_getElem? (i := 48) rfl)
set_option maxRecDepth 100000 in
theorem dL_law_2521 : decode code 2521 = .ok (.goto 139, 3) := dl_16_ok (2521, (.goto 139, 3)) (List.mem_of_getElem? (i := 49) rfl)
set_option maxRecDepth 100000 in
theorem dL_law_2524 : decode code 2524 = .ok (.aload_n 1, 1) := dl_16_ok (2524, (.aload_n 1, 1)) (List.mem_of_getElem? (i := 50) rfl)
set_option maxRecDepth 100000 in
theorem dL_law_2525 : decode code 2525 = .ok (.aload_n 0, 1) := dl_16_ok (2525, (.aload_n 0, 1)) (List.mem_of_getElem? (i := 51) rfl)
set_option maxRecDepth 100000 in
theorem dL_law_2526 : decode code 2526 = .ok (.iload_n 3, 1) := dl_16_ok (2526, (.iload_n 3, 1)) (List.mem_of_getElem? (i := 52) rfl)
set_option maxRecDepth 100000 in
theorem dL_law_2527 : decode code 2527 = .ok (.iconst 1, 1) := dl_16_ok (2527, (.iconst 1, 1)) (List.mem_of_getElem? (i := 53) rfl)
set_option maxRecDepth 100000 in
theorem dL_law_2528 : decode code 2528 = .ok (.iadd, 1) := dl_16_ok (2528, (.iadd, 1)) (List.mem_of_getElem? (i := 54) rfl)
set_option maxRecDepth 100000 in
theorem dL_law_2529 : decode code 2529 = .ok (.iaload, 1) := dl_16_ok (2529, (.iaload, 1)) (List.mem_of_getElem? (i := 55) rfl)
set_option maxRecDepth 100000 in
theorem dL_law_2530 : decode code 2530 = .ok (.aload_n 0, 1) := dl_16_ok (2530, (.aload_n 0, 1)) (List.mem_of_getElem? (i := 56) rfl)
set_option maxRecDepth 100000 in
theorem dL_law_2531 : decode code 2531 = .ok (.iload_n 3, 1) := dl_16_ok (2531, (.iload_n 3, 1)) (List.mem_of_getElem? (i := 57) rfl)
set_option maxRecDepth 100000 in
theorem dL_law_2532 : decode code 2532 = .ok (.iconst 2, 1) := dl_16_ok (2532, (.iconst 2, 1)) (List.mem_of_getElem? (i := 58) rfl)
set_option maxRecDepth 100000 in
theorem dL_law_2533 : decode code 2533 = .ok (.iadd, 1) := dl_16_ok (2533, (.iadd, 1)) (List.mem_of_getElem? (i := 59) rfl)
set_option maxRecDepth 100000 in
theorem dL_law_2534 : decode code 2534 = .ok (.iaload, 1) := dl_16_ok (2534, (.iaload, 1)) (List.mem_of_getElem? (i := 60) rfl)
set_option maxRecDepth 100000 in
theorem dL_law_2535 : decode code 2535 = .ok (.aload_n 0, 1) := dl_16_ok (2535, (.aload_n 0, 1)) (List.mem_of_getElem? (i := 61) rfl)
set_option maxRecDepth 100000 in
theorem dL_law_2536 : decode code 2536 = .ok (.iload_n 3, 1) := dl_16_ok (2536, (.iload_n 3, 1)) (List.mem_of_getElem? (i := 62) rfl)
set_option maxRecDepth 100000 in
theorem dL_law_2537 : decode code 2537 = .ok (.iconst 3, 1) := dl_16_ok (2537, (.iconst 3, 1)) (List.mem_of_getElem? (i := 63) rfl)
set_option maxRecDepth 100000 in
theorem dL_law_2538 : decode code 2538 = .ok (.iadd, 1) := dl_16_ok (2538, (.iadd, 1)) (List.mem_of_getElem? (i := 64) rfl)
set_option maxRecDepth 100000 in
theorem dL_law_2539 : decode code 2539 = .ok (.iaload, 1) := dl_16_ok (2539, (.iaload, 1)) (List.mem_of_getElem? (i := 65) rfl)
set_option maxRecDepth 100000 in
theorem dL_law_2540 : decode code 2540 = .ok (.i2l, 1) := dl_16_ok (2540, (.i2l, 1)) (List.mem_of_getElem? (i := 66) rfl)
set_option maxRecDepth 100000 in
theorem dL_law_2541 : decode code 2541 = .ok (.bipush 32, 2) := dl_16_ok (2541, (.bipush 32, 2)) (List.mem_of_getElem? (i := 67) rfl)
set_option maxRecDepth 100000 in
theorem dL_law_2543 : decode code 2543 = .ok (.lshl, 1) := dl_16_ok (2543, (.lshl, 1)) (List.mem_of_getElem? (i := 68) rfl)
set_option maxRecDepth 100000 in
theorem dL_law_2544 : decode code 2544 = .ok (.aload_n 0, 1) := dl_16_ok (2544, (.aload_n 0, 1)) (List.mem_of_getElem? (i := 69) rfl)
set_option maxRecDepth 100000 in
theorem dL_law_2545 : decode code 2545 = .ok (.iload_n 3, 1) := dl_16_ok (2545, (.iload_n 3, 1)) (List.mem_of_getElem? (i := 70) rfl)
set_option maxRecDepth 100000 in
theorem dL_law_2546 : decode code 2546 = .ok (.iconst 4, 1) := dl_16_ok (2546, (.iconst 4, 1)) (List.mem_of_getElem? (i := 71) rfl)
set_option maxRecDepth 100000 in
theorem dL_law_2547 : decode code 2547 = .ok (.iadd, 1) := dl_16_ok (2547, (.iadd, 1)) (List.mem_of_getElem? (i := 72) rfl)
set_option maxRecDepth 100000 in
theorem dL_law_2548 : decode code 2548 = .ok (.iaload, 1) := dl_16_ok (2548, (.iaload, 1)) (List.mem_of_getElem? (i := 73) rfl)
set_option maxRecDepth 100000 in
theorem dL_law_2549 : decode code 2549 = .ok (.i2l, 1) := dl_16_ok (2549, (.i2l, 1)) (List.mem_of_getElem? (i := 74) rfl)
set_option maxRecDepth 100000 in
theorem dL_law_2550 : decode code 2550 = .ok (.ldc2_w 357, 3) := dl_16_ok (2550, (.ldc2_w 357, 3)) (List.mem_of_getElem? (i := 75) rfl)
set_option maxRecDepth 100000 in
theorem dL_law_2553 : decode code 2553 = .ok (.land, 1) := dl_16_ok (2553, (.land, 1)) (List.mem_of_getElem? (i := 76) rfl)
set_option maxRecDepth 100000 in
theorem dL_law_2554 : decode code 2554 = .ok (.lor, 1) := dl_16_ok (2554, (.lor, 1)) (List.mem_of_getElem? (i := 77) rfl)
set_option maxRecDepth 100000 in
theorem dL_law_2555 : decode code 2555 = .ok (.invokevirtual 359, 3) := dl_16_ok (2555, (.invokevirtual 359, 3)) (List.mem_of_getElem? (i := 78) rfl)
set_option maxRecDepth 100000 in
theorem dL_law_2558 : decode code 2558 = .ok (.aload_n 2, 1) := dl_16_ok (2558, (.aload_n 2, 1)) (List.mem_of_getElem? (i := 79) rfl)
set_option maxRecDepth 100000 in
theorem dL_law_2559 : decode code 2559 = .ok (.aload_n 0, 1) := dl_16_ok (2559, (.aload_n 0, 1)) (List.mem_of_getElem? (i := 80) rfl)
set_option maxRecDepth 100000 in
theorem dL_law_2560 : decode code 2560 = .ok (.iload_n 3, 1) := dl_16_ok (2560, (.iload_n 3, 1)) (List.mem_of_getElem? (i := 81) rfl)
set_option maxRecDepth 100000 in
theorem dL_law_2561 : decode code 2561 = .ok (.iconst 1, 1) := dl_16_ok (2561, (.iconst 1, 1)) (List.mem_of_getElem? (i := 82) rfl)
set_option maxRecDepth 100000 in
theorem dL_law_2562 : decode code 2562 = .ok (.iadd, 1) := dl_16_ok (2562, (.iadd, 1)) (List.mem_of_getElem? (i := 83) rfl)
set_option maxRecDepth 100000 in
theorem dL_law_2563 : decode code 2563 = .ok (.iaload, 1) := dl_16_ok (2563, (.iaload, 1)) (List.mem_of_getElem? (i := 84) rfl)
set_option maxRecDepth 100000 in
theorem dL_law_2564 : decode code 2564 = .ok (.aload_n 0, 1) := dl_16_ok (2564, (.aload_n 0, 1)) (List.mem_of_getElem? (i := 85) rfl)
set_option maxRecDepth 100000 in
theorem dL_law_2565 : decode code 2565 = .ok (.iload_n 3, 1) := dl_16_ok (2565, (.iload_n 3, 1)) (List.mem_of_getElem? (i := 86) rfl)
set_option maxRecDepth 100000 in
theorem dL_law_2566 : decode code 2566 = .ok (.iconst 2, 1) := dl_16_ok (2566, (.iconst 2, 1)) (List.mem_of_getElem? (i := 87) rfl)
set_option maxRecDepth 100000 in
theorem dL_law_2567 : decode code 2567 = .ok (.iadd, 1) := dl_16_ok (2567, (.iadd, 1)) (List.mem_of_getElem? (i := 88) rfl)
set_option maxRecDepth 100000 in
theorem dL_law_2568 : decode code 2568 = .ok (.iaload, 1) := dl_16_ok (2568, (.iaload, 1)) (List.mem_of_getElem? (i := 89) rfl)
set_option maxRecDepth 100000 in
theorem dL_law_2569 : decode code 2569 = .ok (.aload_n 0, 1) := dl_16_ok (2569, (.aload_n 0, 1)) (List.mem_of_getElem? (i := 90) rfl)
set_option maxRecDepth 100000 in
theorem dL_law_2570 : decode code 2570 = .ok (.iload_n 3, 1) := dl_16_ok (2570, (.iload_n 3, 1)) (List.mem_of_getElem? (i := 91) rfl)
set_option maxRecDepth 100000 in
theorem dL_law_2571 : decode code 2571 = .ok (.iconst 3, 1) := dl_16_ok (2571, (.iconst 3, 1)) (List.mem_of_getElem? (i := 92) rfl)
set_option maxRecDepth 100000 in
theorem dL_law_2572 : decode code 2572 = .ok (.iadd, 1) := dl_16_ok (2572, (.iadd, 1)) (List.mem_of_getElem? (i := 93) rfl)
set_option maxRecDepth 100000 in
theorem dL_law_2573 : decode code 2573 = .ok (.iaload, 1) := dl_16_ok (2573, (.iaload, 1)) (List.mem_of_getElem? (i := 94) rfl)
set_option maxRecDepth 100000 in
theorem dL_law_2574 : decode code 2574 = .ok (.i2l, 1) := dl_16_ok (2574, (.i2l, 1)) (List.mem_of_getElem? (i := 95) rfl)
set_option maxRecDepth 100000 in
theorem dL_law_2575 : decode code 2575 = .ok (.bipush 32, 2) := dl_16_ok (2575, (.bipush 32, 2)) (List.mem_of_getElem? (i := 96) rfl)
set_option maxRecDepth 100000 in
theorem dL_law_2577 : decode code 2577 = .ok (.lshl, 1) := dl_16_ok (2577, (.lshl, 1)) (List.mem_of_getElem? (i := 97) rfl)
set_option maxRecDepth 100000 in
theorem dL_law_2578 : decode code 2578 = .ok (.aload_n 0, 1) := dl_16_ok (2578, (.aload_n 0, 1)) (List.mem_of_getElem? (i := 98) rfl)
set_option maxRecDepth 100000 in
theorem dL_law_2579 : decode code 2579 = .ok (.iload_n 3, 1) := dl_16_ok (2579, (.iload_n 3, 1)) (List.mem_of_getElem? (i := 99) rfl)
def dl_17 : List (Nat × (Instr × Nat)) := [(2580, (.iconst 4, 1)), (2581, (.iadd, 1)), (2582, (.iaload, 1)), (2583, (.i2l, 1)), (2584, (.ldc2_w 357, 3)), (2587, (.land, 1)), (2588, (.lor, 1)), (2589, (.invokevirtual 363, 3)), (2592, (.if_icmp .eq 68, 3)), (2595, (.iconst 0, 1)), (2596, (.ireturn, 1)), (2597, (.aload_n 1, 1)), (2598, (.aload_n 0, 1)), (2599, (.iload_n 3, 1)), (2600, (.iconst 1, 1)), (2601, (.iadd, 1)), (2602, (.iaload, 1)), (2603, (.aload_n 0, 1)), (2604, (.iload_n 3, 1)), (2605, (.iconst 2, 1)), (2606, (.iadd, 1)), (2607, (.iaload, 1)), (2608, (.aload_n 0, 1)), (2609, (.iload_n 3, 1)), (2610, (.iconst 3, 1)), (2611, (.iadd, 1)), (2612, (.iaload, 1)), (2613, (.aload_n 0, 1)), (2614, (.iload_n 3, 1)), (2615, (.iconst 4, 1)), (2616, (.iadd, 1)), (2617, (.iaload, 1)), (2618, (.aload_n 0, 1)), (2619, (.iload_n 3, 1)), (2620, (.iconst 5, 1)), (2621, (.iadd, 1)), (2622, (.iaload, 1)), (2623, (.invokevirtual 364, 3)), (2626, (.pop, 1)), (2627, (.aload_n 2, 1)), (2628, (.aload_n 0, 1)), (2629, (.iload_n 3, 1)), (2630, (.iconst 1, 1)), (2631, (.iadd, 1)), (2632, (.iaload, 1)), (2633, (.aload_n 0, 1)), (2634, (.iload_n 3, 1)), (2635, (.iconst 2, 1)), (2636, (.iadd, 1)), (2637, (.iaload, 1)), (2638, (.aload_n 0, 1)), (2639, (.iload_n 3, 1)), (2640, (.iconst 3, 1)), (2641, (.iadd, 1)), (2642, (.iaload, 1)), (2643, (.aload_n 0, 1)), (2644, (.iload_n 3, 1)), (2645, (.iconst 4, 1)), (2646, (.iadd, 1)), (2647, (.iaload, 1)), (2648, (.aload_n 0, 1)), (2649, (.iload_n 3, 1)), (2650, (.iconst 5, 1)), (2651, (.iadd, 1)), (2652, (.iaload, 1)), (2653, (.invokevirtual 367, 3)), (2656, (.pop, 1)), (2657, (.goto 3, 3)), (2660, (.iinc 3 6, 3)), (2663, (.goto (-2645), 3)), (2666, (.iconst 1, 1)), (2667, (.ireturn, 1))]
set_option maxRecDepth 100000 in
theorem dl_17_ok : ∀ x ∈ dl_17, decode code x.1 = .ok x.2 := by decide +kernel
set_option maxRecDepth 100000 in
theorem dL_law_2580 : decode code 2580 = .ok (.iconst 4, 1) := dl_17_ok (2580, (.iconst 4, 1)) (List.mem_of_getElem? (i := 0) rfl)
set_option maxRecDepth 100000 in
theorem dL_law_2581 : decode code 2581 = .ok (.iadd, 1) := dl_17_ok (2581, (.iadd, 1)) (List.mem_of_getElem? (i := 1) rfl)
set_option maxRecDepth 100000 in
theorem dL_law_2582 : decode code 2582 = .ok (.iaload, 1) := dl_17_ok (2582, (.iaload, 1)) (List.mem_of_getElem? (i := 2) rfl)
set_option maxRecDepth 100000 in
theorem dL_law_2583 : decode code 2583 = .ok (.i2l, 1) := dl_17_ok (2583, (.i2l, 1)) (List.mem_of_getElem? (i := 3) rfl)
set_option maxRecDepth 100000 in
theorem dL_law_2584 : decode code 2584 = .ok (.ldc2_w 357, 3) := dl_17_ok (2584, (.ldc2_w 357, 3)) (List.mem_of_getElem? (i := 4) rfl)
set_option maxRecDepth 100000 in
theorem dL_law_2587 : decode code 2587 = .ok (.land, 1) := dl_17_ok (2587, (.land, 1)) (List.mem_of_getElem? (i := 5) rfl)
set_option maxRecDepth 100000 in
theorem dL_law_2588 : decode code 2588 = .ok (.lor, 1) := dl_17_ok (2588, (.lor, 1)) (List.mem_of_getElem? (i := 6) rfl)
set_option maxRecDepth 100000 in
theorem dL_law_2589 : decode code 2589 = .ok (.invokevirtual 363, 3) := dl_17_ok (2589, (.invokevirtual 363, 3)) (List.mem_of_getElem? (i := 7) rfl)
set_option maxRecDepth 100000 in
theorem dL_law_2592 : decode code 2592 = .ok (.if_icmp .eq 68, 3) := dl_17_ok (2592, (.if_icmp .eq 68, 3)) (List.mem_of_getElem? (i := 8) rfl)
set_option maxRecDepth 100000 in
theorem dL_law_2595 : decode code 2595 = .ok (.iconst 0, 1) := dl_17_ok (2595, (.iconst 0, 1)) (List.mem_of_getElem? (i := 9) rfl)
set_option maxRecDepth 100000 in
theorem dL_law_2596 : decode code 2596 = .ok (.ireturn, 1) := dl_17_ok (2596, (.ireturn, 1)) (List.mem_of_getElem? (i := 10) rfl)
set_option maxRecDepth 100000 in
theorem dL_law_2597 : decode code 2597 = .ok (.aload_n 1, 1) := dl_17_ok (2597, (.aload_n 1, 1)) (List.mem_of_getElem? (i := 11) rfl)
set_option maxRecDepth 100000 in
theorem dL_law_2598 : decode code 2598 = .ok (.aload_n 0, 1) := dl_17_ok (2598, (.aload_n 0, 1)) (List.mem_of_getElem? (i := 12) rfl)
set_option maxRecDepth 100000 in
theorem dL_law_2599 : decode code 2599 = .ok (.iload_n 3, 1) := dl_17_ok (2599, (.iload_n 3, 1)) (List.mem_of_getElem? (i := 13) rfl)
set_option maxRecDepth 100000 in
theorem dL_law_2600 : decode code 2600 = .ok (.iconst 1, 1) := dl_17_ok (2600, (.iconst 1, 1)) (List.mem_of_getElem? (i := 14) rfl)
set_option maxRecDepth 100000 in
theorem dL_law_2601 : decode code 2601 = .ok (.iadd, 1) := dl_17_ok (2601, (.iadd, 1)) (List.mem_of_getElem? (i := 15) rfl)
set_option maxRecDepth 100000 in
theorem dL_law_2602 : decode code 2602 = .ok (.iaload, 1) := dl_17_ok (2602, (.iaload, 1)) (List.mem_of_getElem? (i := 16) rfl)
set_option maxRecDepth 100000 in
theorem dL_law_2603 : decode code 2603 = .ok (.aload_n 0, 1) := dl_17_ok (2603, (.aload_n 0, 1)) (List.mem_of_getElem? (i := 17) rfl)
set_option maxRecDepth 100000 in
theorem dL_law_2604 : decode code 2604 = .ok (.iload_n 3, 1) := dl_17_ok (2604, (.iload_n 3, 1)) (List.mem_of_getElem? (i := 18) rfl)
set_option maxRecDepth 100000 in
theorem dL_law_2605 : decode code 2605 = .ok (.iconst 2, 1) := dl_17_ok (2605, (.iconst 2, 1)) (List.mem_of_getElem? (i := 19) rfl)
set_option maxRecDepth 100000 in
theorem dL_law_2606 : decode code 2606 = .ok (.iadd, 1) := dl_17_ok (2606, (.iadd, 1)) (List.mem_of_getElem? (i := 20) rfl)
set_option maxRecDepth 100000 in
theorem dL_law_2607 : decode code 2607 = .ok (.iaload, 1) := dl_17_ok (2607, (.iaload, 1)) (List.mem_of_getElem? (i := 21) rfl)
set_option maxRecDepth 100000 in
theorem dL_law_2608 : decode code 2608 = .ok (.aload_n 0, 1) := dl_17_ok (2608, (.aload_n 0, 1)) (List.mem_of_getElem? (i := 22) rfl)
set_option maxRecDepth 100000 in
theorem dL_law_2609 : decode code 2609 = .ok (.iload_n 3, 1) := dl_17_ok (2609, (.iload_n 3, 1)) (List.mem_of_getElem? (i := 23) rfl)
set_option maxRecDepth 100000 in
theorem dL_law_2610 : decode code 2610 = .ok (.iconst 3, 1) := dl_17_ok (2610, (.iconst 3, 1)) (List.mem_of_getElem? (i := 24) rfl)
set_option maxRecDepth 100000 in
theorem dL_law_2611 : decode code 2611 = .ok (.iadd, 1) := dl_17_ok (2611, (.iadd, 1)) (List.mem_of_getElem? (i := 25) rfl)
set_option maxRecDepth 100000 in
theorem dL_law_2612 : decode code 2612 = .ok (.iaload, 1) := dl_17_ok (2612, (.iaload, 1)) (List.mem_of_getElem? (i := 26) rfl)
set_option maxRecDepth 100000 in
theorem dL_law_2613 : decode code 2613 = .ok (.aload_n 0, 1) := dl_17_ok (2613, (.aload_n 0, 1)) (List.mem_of_getElem? (i := 27) rfl)
set_option maxRecDepth 100000 in
theorem dL_law_2614 : decode code 2614 = .ok (.iload_n 3, 1) := dl_17_ok (2614, (.iload_n 3, 1)) (List.mem_of_getElem? (i := 28) rfl)
set_option maxRecDepth 100000 in
theorem dL_law_2615 : decode code 2615 = .ok (.iconst 4, 1) := dl_17_ok (2615, (.iconst 4, 1)) (List.mem_of_getElem? (i := 29) rfl)
set_option maxRecDepth 100000 in
theorem dL_law_2616 : decode code 2616 = .ok (.iadd, 1) := dl_17_ok (2616, (.iadd, 1)) (List.mem_of_getElem? (i := 30) rfl)
set_option maxRecDepth 100000 in
theorem dL_law_2617 : decode code 2617 = .ok (.iaload, 1) := dl_17_ok (2617, (.iaload, 1)) (List.mem_of_getElem? (i := 31) rfl)
set_option maxRecDepth 100000 in
theorem dL_law_2618 : decode code 2618 = .ok (.aload_n 0, 1) := dl_17_ok (2618, (.aload_n 0, 1)) (List.mem_of_getElem? (i := 32) rfl)
set_option maxRecDepth 100000 in
theorem dL_law_2619 : decode code 2619 = .ok (.iload_n 3, 1) := dl_17_ok (2619, (.iload_n 3, 1)) (List.mem_of_getElem? (i := 33) rfl)
set_option maxRecDepth 100000 in
theorem dL_law_2620 : decode code 2620 = .ok (.iconst 5, 1) := dl_17_ok (2620, (.iconst 5, 1)) (List.mem_of_getElem? (i := 34) rfl)
set_option maxRecDepth 100000 in
theorem dL_law_2621 : decode code 2621 = .ok (.iadd, 1) := dl_17_ok (2621, (.iadd, 1)) (List.mem_of_getElem? (i := 35) rfl)
set_option maxRecDepth 100000 in
theorem dL_law_2622 : decode code 2622 = .ok (.iaload, 1) := dl_17_ok (2622, (.iaload, 1)) (List.mem_of_getElem? (i := 36) rfl)
set_option maxRecDepth 100000 in
theorem dL_law_2623 : decode code 2623 = .ok (.invokevirtual 364, 3) := dl_17_ok (2623, (.invokevirtual 364, 3)) (List.mem_of_getElem? (i := 37) rfl)
set_option maxRecDepth 100000 in
theorem dL_law_2626 : decode code 2626 = .ok (.pop, 1) := dl_17_ok (2626, (.pop, 1)) (List.mem_of_getElem? (i := 38) rfl)
set_option maxRecDepth 100000 in
theorem dL_law_2627 : decode code 2627 = .ok (.aload_n 2, 1) := dl_17_ok (2627, (.aload_n 2, 1)) (List.mem_of_getElem? (i := 39) rfl)
set_option maxRecDepth 100000 in
theorem dL_law_2628 : decode code 2628 = .ok (.aload_n 0, 1) := dl_17_ok (2628, (.aload_n 0, 1)) (List.mem_of_getElem? (i := 40) rfl)
set_option maxRecDepth 100000 in
theorem dL_law_2629 : decode code 2629 = .ok (.iload_n 3, 1) := dl_17_ok (2629, (.iload_n 3, 1)) (List.mem_of_getElem? (i := 41) rfl)
set_option maxRecDepth 100000 in
theorem dL_law_2630 : decode code 2630 = .ok (.iconst 1, 1) := dl_17_ok (2630, (.iconst 1, 1)) (List.mem_of_getElem? (i := 42) rfl)
set_option maxRecDepth 100000 in
theorem dL_law_2631 : decode code 2631 = .ok (.iadd, 1) := dl_17_ok (2631, (.iadd, 1)) (List.mem_of_getElem? (i := 43) rfl)
set_option maxRecDepth 100000 in
theorem dL_law_2632 : decode code 2632 = .ok (.iaload, 1) := dl_17_ok (2632, (.iaload, 1)) (List.mem_of_getElem? (i := 44) rfl)
set_option maxRecDepth 100000 in
theorem dL_law_2633 : decode code 2633 = .ok (.aload_n 0, 1) := dl_17_ok (2633, (.aload_n 0, 1)) (List.mem_of_getElem? (i := 45) rfl)
set_option maxRecDepth 100000 in
theorem dL_law_2634 : decode code 2634 = .ok (.iload_n 3, 1) := dl_17_ok (2634, (.iload_n 3, 1)) (List.mem_of_getElem? (i := 46) rfl)
set_option maxRecDepth 100000 in
theorem dL_law_2635 : decode code 2635 = .ok (.iconst 2, 1) := dl_17_ok (2635, (.iconst 2, 1)) (List.mem_of_getElem? (i := 47) rfl)
set_option maxRecDepth 100000 in
theorem dL_law_2636 : decode code 2636 = .ok (.iadd, 1) := dl_17_ok (2636, (.iadd, 1)) (List.mem_of_getElem? (i := 48) rfl)
set_option maxRecDepth 100000 in
theorem dL_law_2637 : decode code 2637 = .ok (.iaload, 1) := dl_17_ok (2637, (.iaload, 1)) (List.mem_of_getElem? (i := 49) rfl)
set_option maxRecDepth 100000 in
theorem dL_law_2638 : decode code 2638 = .ok (.aload_n 0, 1) := dl_17_ok (2638, (.aload_n 0, 1)) (List.mem_of_getElem? (i := 50) rfl)
set_option maxRecDepth 100000 in
theorem dL_law_2639 : decode code 2639 = .ok (.iload_n 3, 1) := dl_17_ok (2639, (.iload_n 3, 1)) (List.mem_of_getElem? (i := 51) rfl)
set_option maxRecDepth 100000 in
theorem dL_law_2640 : decode code 2640 = .ok (.iconst 3, 1) := dl_17_ok (2640, (.iconst 3, 1)) (List.mem_of_getElem? (i := 52) rfl)
set_option maxRecDepth 100000 in
theorem dL_law_2641 : decode code 2641 = .ok (.iadd, 1) := dl_17_ok (2641, (.iadd, 1)) (List.mem_of_getElem? (i := 53) rfl)
set_option maxRecDepth 100000 in
theorem dL_law_2642 : decode code 2642 = .ok (.iaload, 1) := dl_17_ok (2642, (.iaload, 1)) (List.mem_of_getElem? (i := 54) rfl)
set_option maxRecDepth 100000 in
theorem dL_law_2643 : decode code 2643 = .ok (.aload_n 0, 1) := dl_17_ok (2643, (.aload_n 0, 1)) (List.mem_of_getElem? (i := 55) rfl)
set_option maxRecDepth 100000 in
theorem dL_law_2644 : decode code 2644 = .ok (.iload_n 3, 1) := dl_17_ok (2644, (.iload_n 3, 1)) (List.mem_of_getElem? (i := 56) rfl)
set_option maxRecDepth 100000 in
theorem dL_law_2645 : decode code 2645 = .ok (.iconst 4, 1) := dl_17_ok (2645, (.iconst 4, 1)) (List.mem_of_getElem? (i := 57) rfl)
set_option maxRecDepth 100000 in
theorem dL_law_2646 : decode code 2646 = .ok (.iadd, 1) := dl_17_ok (2646, (.iadd, 1)) (List.mem_of_getElem? (i := 58) rfl)
set_option maxRecDepth 100000 in
theorem dL_law_2647 : decode code 2647 = .ok (.iaload, 1) := dl_17_ok (2647, (.iaload, 1)) (List.mem_of_getElem? (i := 59) rfl)
set_option maxRecDepth 100000 in
theorem dL_law_2648 : decode code 2648 = .ok (.aload_n 0, 1) := dl_17_ok (2648, (.aload_n 0, 1)) (List.mem_of_getElem? (i := 60) rfl)
set_option maxRecDepth 100000 in
theorem dL_law_2649 : decode code 2649 = .ok (.iload_n 3, 1) := dl_17_ok (2649, (.iload_n 3, 1)) (List.mem_of_getElem? (i := 61) rfl)
set_option maxRecDepth 100000 in
theorem dL_law_2650 : decode code 2650 = .ok (.iconst 5, 1) := dl_17_ok (2650, (.iconst 5, 1)) (List.mem_of_getElem? (i := 62) rfl)
set_option maxRecDepth 100000 in
theorem dL_law_2651 : decode code 2651 = .ok (.iadd, 1) := dl_17_ok (2651, (.iadd, 1)) (List.mem_of_getElem? (i := 63) rfl)
set_option maxRecDepth 100000 in
theorem dL_law_2652 : decode code 2652 = .ok (.iaload, 1) := dl_17_ok (2652, (.iaload, 1)) (List.mem_of_getElem? (i := 64) rfl)
set_option maxRecDepth 100000 in
theorem dL_law_2653 : decode code 2653 = .ok (.invokevirtual 367, 3) := dl_17_ok (2653, (.invokevirtual 367, 3)) (List.mem_of_getElem? (i := 65) rfl)
set_option maxRecDepth 100000 in
theorem dL_law_2656 : decode code 2656 = .ok (.pop, 1) := dl_17_ok (2656, (.pop, 1)) (List.mem_of_getElem? (i := 66) rfl)
set_option maxRecDepth 100000 in
theorem dL_law_2657 : decode code 2657 = .ok (.goto 3, 3) := dl_17_ok (2657, (.goto 3, 3)) (List.mem_of_getElem? (i := 67) rfl)
set_option maxRecDepth 100000 in
theorem dL_law_2660 : decode code 2660 = .ok (.iinc 3 6, 3) := dl_17_ok (2660, (.iinc 3 6, 3)) (List.mem_of_getElem? (i := 68) rfl)
set_option maxRecDepth 100000 in
theorem dL_law_2663 : decode code 2663 = .ok (.goto (-2645), 3) := dl_17_ok (2663, (.goto (-2645), 3)) (List.mem_of_getElem? (i := 69) rfl)
set_option maxRecDepth 100000 in
theorem dL_law_2666 : decode code 2666 = .ok (.iconst 1, 1) := dl_17_ok (2666, (.iconst 1, 1)) (List.mem_of_getElem? (i := 70) rfl)
set_option maxRecDepth 100000 in
theorem dL_law_2667 : decode code 2667 = .ok (.ireturn, 1) := dl_17_ok (2667, (.ireturn, 1)) (List.mem_of_getElem? (i := 71) rfl)
