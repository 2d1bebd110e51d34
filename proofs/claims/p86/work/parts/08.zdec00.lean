def dl_0 : List (Nat × (Instr × Nat)) := [(0, (.new 7, 3)), (3, (.dup, 1)), (4, (.invokespecial 9, 3)), (7, (.astore_n 1, 1)), (8, (.new 10, 3)), (11, (.dup, 1)), (12, (.invokespecial 12, 3)), (15, (.astore_n 2, 1)), (16, (.iconst 0, 1)), (17, (.istore_n 3, 1)), (18, (.iload_n 3, 1)), (19, (.aload_n 0, 1)), (20, (.arraylength, 1)), (21, (.bipush 6, 2)), (23, (.isub, 1)), (24, (.if_icmp .gt 2642, 3)), (27, (.aload_n 0, 1)), (28, (.iload_n 3, 1)), (29, (.iaload, 1)), (30, (.bipush 127, 2)), (32, (.iand, 1)), (33, (.tableswitch 2627 0 85 #[359, 422, 445, 458, 481, 514, 527, 540, 573, 596, 629, 662, 705, 738, 781, 824, 847, 870, 893, 916, 939, 962, 985, 1008, 1021, 1034, 1047, 1060, 1083, 1116, 1129, 1162, 1175, 1198, 1211, 1234, 1257, 1290, 1323, 1346, 1369, 1392, 1405, 1418, 1431, 1454, 1487, 1510, 1533, 1556, 1569, 1582, 1605, 1618, 1641, 1664, 1677, 1690, 1723, 1756, 1789, 1822, 1855, 1878, 1901, 1924, 1947, 1960, 1983, 2016, 2049, 2102, 2145, 2178, 2211, 2244, 2257, 2270, 2303, 2346, 2379, 2402, 2425, 2448, 2491, 2564], 359)), (392, (.aload_n 1, 1)), (393, (.aload_n 0, 1)), (394, (.iload_n 3, 1)), (395, (.iconst 1, 1)), (396, (.iadd, 1)), (397, (.iaload, 1)), (398, (.aload_n 0, 1)), (399, (.iload_n 3, 1)), (400, (.iconst 2, 1)), (401, (.iadd, 1)), (402, (.iaload, 1)), (403, (.aload_n 0, 1)), (404, (.iload_n 3, 1)), (405, (.iconst 3, 1)), (406, (.iadd, 1)), (407, (.iaload, 1)), (408, (.aload_n 0, 1)), (409, (.iload_n 3, 1)), (410, (.iconst 4, 1)), (411, (.iadd, 1)), (412, (.iaload, 1)), (413, (.aload_n 0, 1)), (414, (.iload_n 3, 1)), (415, (.iconst 5, 1)), (416, (.iadd, 1)), (417, (.iaload, 1)), (418, (.invokevirtual 13, 3)), (421, (.pop, 1)), (422, (.aload_n 2, 1)), (423, (.aload_n 0, 1)), (424, (.iload_n 3, 1)), (425, (.iconst 1, 1)), (426, (.iadd, 1)), (427, (.iaload, 1)), (428, (.aload_n 0, 1)), (429, (.iload_n 3, 1)), (430, (.iconst 2, 1)), (431, (.iadd, 1)), (432, (.iaload, 1)), (433, (.aload_n 0, 1)), (434, (.iload_n 3, 1)), (435, (.iconst 3, 1)), (436, (.iadd, 1)), (437, (.iaload, 1)), (438, (.aload_n 0, 1)), (439, (.iload_n 3, 1)), (440, (.iconst 4, 1)), (441, (.iadd, 1)), (442, (.iaload, 1)), (443, (.aload_n 0, 1)), (444, (.iload_n 3, 1)), (445, (.iconst 5, 1)), (446, (.iadd, 1)), (447, (.iaload, 1)), (448, (.invokevirtual 17, 3)), (451, (.pop, 1)), (452, (.goto 2208, 3)), (455, (.aload_n 1, 1)), (456, (.aload_n 0, 1)), (457, (.iload_n 3, 1)), (458, (.iconst 1, 1)), (459, (.iadd, 1)), (460, (.iaload, 1)), (461, (.invokevirtual 18, 3)), (464, (.pop, 1)), (465, (.aload_n 2, 1)), (466, (.aload_n 0, 1)), (467, (.iload_n 3, 1)), (468, (.iconst 1, 1)), (469, (.iadd, 1)), (470, (.iaload, 1)), (471, (.invokevirtual 22, 3)), (474, (.pop, 1)), (475, (.goto 2185, 3)), (478, (.aload_n 1, 1)), (479, (.invokevirtual 23, 3)), (482, (.pop, 1)), (483, (.aload_n 2, 1))]
set_option maxRecDepth 100000 in
theorem dl_0_ok : ∀ x ∈ dl_0, decode code x.1 = .ok x.2 := by decide +kernel
set_option maxRecDepth 100000 in
theorem dL_law_0 : decode code 0 = .ok (.new 7, 3) := dl_0_ok (0, (.new 7, 3)) (List.mem_of_getElem? (i := 0) rfl)
set_option maxRecDepth 100000 in
theorem dL_law_3 : decode code 3 = .ok (.dup, 1) := dl_0_ok (3, (.dup, 1)) (List.mem_of_getElem? (i := 1) rfl)
set_option maxRecDepth 100000 in
theorem dL_law_4 : decode code 4 = .ok (.invokespecial 9, 3) := dl_0_ok (4, (.invokespecial 9, 3)) (List.mem_of_getElem? (i := 2) rfl)
set_option maxRecDepth 100000 in
theorem dL_law_7 : decode code 7 = .ok (.astore_n 1, 1) := dl_0_ok (7, (.astore_n 1, 1)) (List.mem_of_getElem? (i := 3) rfl)
set_option maxRecDepth 100000 in
theorem dL_law_8 : decode code 8 = .ok (.new 10, 3) := dl_0_ok (8, (.new 10, 3)) (List.mem_of_getElem? (i := 4) rfl)
set_option maxRecDepth 100000 in
theorem dL_law_11 : decode code 11 = .ok (.dup, 1) := dl_0_ok (11, (.dup, 1)) (List.mem_of_getElem? (i := 5) rfl)
set_option maxRecDepth 100000 in
theorem dL_law_12 : decode code 12 = .ok (.invokespecial 12, 3) := dl_0_ok (12, (.invokespecial 12, 3)) (List.mem_of_getElem? (i := 6) rfl)
set_option maxRecDepth 100000 in
theorem dL_law_15 : decode code 15 = .ok (.astore_n 2, 1) := dl_0_ok (15, (.astore_n 2, 1)) (List.mem_of_getElem? (i := 7) rfl)
set_option maxRecDepth 100000 in
theorem dL_law_16 : decode code 16 = .ok (.iconst 0, 1) := dl_0_ok (16, (.iconst 0, 1)) (List.mem_of_getElem? (i := 8) rfl)
set_option maxRecDepth 100000 in
theorem dL_law_17 : decode code 17 = .ok (.istore_n 3, 1) := dl_0_ok (17, (.istore_n 3, 1)) (List.mem_of_getElem? (i := 9) rfl)
set_option maxRecDepth 100000 in
theorem dL_law_18 : decode code 18 = .ok (.iload_n 3, 1) := dl_0_ok (18, (.iload_n 3, 1)) (List.mem_of_getElem? (i := 10) rfl)
set_option maxRecDepth 100000 in
theorem dL_law_19 : decode code 19 = .ok (.aload_n 0, 1) := dl_0_ok (19, (.aload_n 0, 1)) (List.mem_of_getElem? (i := 11) rfl)
set_option maxRecDepth 100000 in
theorem dL_law_20 : decode code 20 = .ok (.arraylength, 1) := dl_0_ok (20, (.arraylength, 1)) (List.mem_of_getElem? (i := 12) rfl)
set_option maxRecDepth 100000 in
theorem dL_law_21 : decode code 21 = .ok (.bipush 6, 2) := dl_0_ok (21, (.bipush 6, 2)) (List.mem_of_getElem? (i := 13) rfl)
set_option maxRecDepth 100000 in
theorem dL_law_23 : decode code 23 = .ok (.isub, 1) := dl_0_ok (23, (.isub, 1)) (List.mem_of_getElem? (i := 14) rfl)
set_option maxRecDepth 100000 in
theorem dL_law_24 : decode code 24 = .ok (.if_icmp .gt 2642, 3) := dl_0_ok (24, (.if_icmp .gt 2642, 3)) (List.mem_of_getElem? (i := 15) rfl)
set_option maxRecDepth 100000 in
theorem dL_law_27 : decode code 27 = .ok (.aload_n 0, 1) := dl_0_ok (27, (.aload_n 0, 1)) (List.mem_of_getElem? (i := 16) rfl)
set_option maxRecDepth 100000 in
theorem dL_law_28 : decode code 28 = .ok (.iload_n 3, 1) := dl_0_ok (28, (.iload_n 3, 1)) (List.mem_of_getElem? (i := 17) rfl)
set_option maxRecDepth 100000 in
theorem dL_law_29 : decode code 29 = .ok (.iaload, 1) := dl_0_ok (29, (.iaload, 1)) (List.mem_of_getElem? (i := 18) rfl)
set_option maxRecDepth 100000 in
theorem dL_law_30 : decode code 30 = .ok (.bipush 127, 2) := dl_0_ok (30, (.bipush 127, 2)) (List.mem_of_getElem? (i := 19) rfl)
set_option maxRecDepth 100000 in
theorem dL_law_32 : decode code 32 = .ok (.iand, 1) := dl_0_ok (32, (.iand, 1)) (List.mem_of_getElem? (i := 20) rfl)
set_option maxRecDepth 100000 in
theorem dL_law_33 : decode code 33 = .ok (.tableswitch 2627 0 85 #[359, 422, 445, 458, 481, 514, 527, 540, 573, 596, 629, 662, 705, 738, 781, 824, 847, 870, 893, 916, 939, 962, 985, 1008, 1021, 1034, 1047, 1060, 1083, 1116, 1129, 1162, 1175, 1198, 1211, 1234, 1257, 1290, 1323, 1346, 1369, 1392, 1405, 1418, 1431, 1454, 1487, 1510, 1533, 1556, 1569, 1582, 1605, 1618, 1641, 1664, 1677, 1690, 1723, 1756, 1789, 1822, 1855, 1878, 1901, 1924, 1947, 1960, 1983, 2016, 2049, 2102, 2145, 2178, 2211, 2244, 2257, 2270, 2303, 2346, 2379, 2402, 2425, 2448, 2491, 2564], 359) := dl_0_ok (33, (.tableswitch 2627 0 85 #[359, 422, 445, 458, 481, 514, 527, 540, 573, 596, 629, 662, 705, 738, 781, 824, 847, 870, 893, 916, 939, 962, 985, 1008, 1021, 1034, 1047, 1060, 1083, 1116, 1129, 1162, 1175, 1198, 1211, 1234, 1257, 1290, 1323, 1346, 1369, 1392, 1405, 1418, 1431, 1454, 1487, 1510, 1533, 1556, 1569, 1582, 1605, 1618, 1641, 1664, 1677, 1690, 1723, 1756, 1789, 1822, 1855, 1878, 1901, 1924, 1947, 1960, 1983, 2016, 2049, 2102, 2145, 2178, 2211, 2244, 2257, 2270, 2303, 2346, 2379, 2402, 2425, 2448, 2491, 2564], 359)) (List.mem_of_getElem? (i := 21) rfl)
set_option maxRecDepth 100000 in
theorem dL_law_392 : decode code 392 = .ok (.aload_n 1, 1) := dl_0_ok (392, (.aload_n 1, 1)) (List.mem_of_getElem? (i := 22) rfl)
set_option maxRecDepth 100000 in
theorem dL_law_393 : decode code 393 = .ok (.aload_n 0, 1) := dl_0_ok (393, (.aload_n 0, 1)) (List.mem_of_getElem? (i := 23) rfl)
set_option maxRecDepth 100000 in
theorem dL_law_394 : decode code 394 = .ok (.iload_n 3, 1) := dl_0_ok (394, (.iload_n 3, 1)) (List.mem_of_getElem? (i := 24) rfl)
set_option maxRecDepth 100000 in
theorem dL_law_395 : decode code 395 = .ok (.iconst 1, 1) := dl_0_ok (395, (.iconst 1, 1)) (List.mem_of_getElem? (i := 25) rfl)
set_option maxRecDepth 100000 in
theorem dL_law_396 : decode code 396 = .ok (.iadd, 1) := dl_0_ok (396, (.iadd, 1)) (List.mem_of_getElem? (i := 26) rfl)
set_option maxRecDepth 100000 in
theorem dL_law_397 : decode code 397 = .ok (.iaload, 1) := dl_0_ok (397, (.iaload, 1)) (List.mem_of_getElem? (i := 27) rfl)
set_option maxRecDepth 100000 in
theorem dL_law_398 : decode code 398 = .ok (.aload_n 0, 1) := dl_0_ok (398, (.aload_n 0, 1)) (List.mem_of_getElem? (i := 28) rfl)
set_option maxRecDepth 100000 in
theorem dL_law_399 : decode code 399 = .ok (.iload_n 3, 1) := dl_0_ok (399, (.iload_n 3, 1)) (List.mem_of_getElem? (i := 29) rfl)
set_option maxRecDepth 100000 in
theorem dL_law_400 : decode code 400 = .ok (.iconst 2, 1) := dl_0_ok (400, (.iconst 2, 1)) (List.mem_of_getElem? (i := 30) rfl)
set_option maxRecDepth 100000 in
theorem dL_law_401 : decode code 401 = .ok (.iadd, 1) := dl_0_ok (401, (.iadd, 1)) (List.mem_of_getElem? (i := 31) rfl)
set_option maxRecDepth 100000 in
theorem dL_law_402 : decode code 402 = .ok (.iaload, 1) := dl_0_ok (402, (.iaload, 1)) (List.mem_of_getElem? (i := 32) rfl)
set_option maxRecDepth 100000 in
theorem dL_law_403 : decode code 403 = .ok (.aload_n 0, 1) := dl_0_ok (403, (.aload_n 0, 1)) (List.mem_of_getElem? (i := 33) rfl)
set_option maxRecDepth 100000 in
theorem dL_law_404 : decode code 404 = .ok (.iload_n 3, 1) := dl_0_ok (404, (.iload_n 3, 1)) (List.mem_of_getElem? (i := 34) rfl)
set_option maxRecDepth 100000 in
theorem dL_law_405 : decode code 405 = .ok (.iconst 3, 1) := dl_0_ok (405, (.iconst 3, 1)) (List.mem_of_getElem? (i := 35) rfl)
set_option maxRecDepth 100000 in
theorem dL_law_406 : decode code 406 = .ok (.iadd, 1) := dl_0_ok (406, (.iadd, 1)) (List.mem_of_getElem? (i := 36) rfl)
set_option maxRecDepth 100000 in
theorem dL_law_407 : decode code 407 = .ok (.iaload, 1) := dl_0_ok (407, (.iaload, 1)) (List.mem_of_getElem? (i := 37) rfl)
set_option maxRecDepth 100000 in
theorem dL_law_408 : decode code 408 = .ok (.aload_n 0, 1) := dl_0_ok (408, (.aload_n 0, 1)) (List.mem_of_getElem? (i := 38) rfl)
set_option maxRecDepth 100000 in
theorem dL_law_409 : decode code 409 = .ok (.iload_n 3, 1) := dl_0_ok (409, (.iload_n 3, 1)) (List.mem_of_getElem? (i := 39) rfl)
set_option maxRecDepth 100000 in
theorem dL_law_410 : decode code 410 = .ok (.iconst 4, 1) := dl_0_ok (410, (.iconst 4, 1)) (List.mem_of_getElem? (i := 40) rfl)
set_option maxRecDepth 100000 in
theorem dL_law_411 : decode code 411 = .ok (.iadd, 1) := dl_0_ok (411, (.iadd, 1)) (List.mem_of_getElem? (i := 41) rfl)
set_option maxRecDepth 100000 in
theorem dL_law_412 : decode code 412 = .ok (.iaload, 1) := dl_0_ok (412, (.iaload, 1)) (List.mem_of_getElem? (i := 42) rfl)
set_option maxRecDepth 100000 in
theorem dL_law_413 : decode code 413 = .ok (.aload_n 0, 1) := dl_0_ok (413, (.aload_n 0, 1)) (List.mem_of_getElem? (i := 43) rfl)
set_option maxRecDepth 100000 in
theorem dL_law_414 : decode code 414 = .ok (.iload_n 3, 1) := dl_0_ok (414, (.iload_n 3, 1)) (List.mem_of_getElem? (i := 44) rfl)
set_option maxRecDepth 100000 in
theorem dL_law_415 : decode code 415 = .ok (.iconst 5, 1) := dl_0_ok (415, (.iconst 5, 1)) (List.mem_of_getElem? (i := 45) rfl)
set_option maxRecDepth 100000 in
theorem dL_law_416 : decode code 416 = .ok (.iadd, 1) := dl_0_ok (416, (.iadd, 1)) (List.mem_of_getElem? (i := 46) rfl)
set_option maxRecDepth 100000 in
theorem dL_law_417 : decode code 417 = .ok (.iaload, 1) := dl_0_ok (417, (.iaload, 1)) (List.mem_of_getElem? (i := 47) rfl)
set_option maxRecDepth 100000 in
theorem dL_law_418 : decode code 418 = .ok (.invokevirtual 13, 3) := dl_0_ok (418, (.invokevirtual 13, 3)) (List.mem_of_getElem? (i := 48) rfl)
set_option maxRecDepth 100000 in
theorem dL_law_421 : decode code 421 = .ok (.pop, 1) := dl_0_ok (421, (.pop, 1)) (List.mem_of_getElem? (i := 49) rfl)
set_option maxRecDepth 100000 in
theorem dL_law_422 : decode code 422 = .ok (.aload_n 2, 1) := dl_0_ok (422, (.aload_n 2, 1)) (List.mem_of_getElem? (i := 50) rfl)
set_option maxRecDepth 100000 in
theorem dL_law_423 : decode code 423 = .ok (.aload_n 0, 1) := dl_0_ok (423, (.aload_n 0, 1)) (List.mem_of_getElem? (i := 51) rfl)
set_option maxRecDepth 100000 in
theorem dL_law_424 : decode code 424 = .ok (.iload_n 3, 1) := dl_0_ok (424, (.iload_n 3, 1)) (List.mem_of_getElem? (i := 52) rfl)
set_option maxRecDepth 100000 in
theorem dL_law_425 : decode code 425 = .ok (.iconst 1, 1) := dl_0_ok (425, (.iconst 1, 1)) (List.mem_of_getElem? (i := 53) rfl)
set_option maxRecDepth 100000 in
theorem dL_law_426 : decode code 426 = .ok (.iadd, 1) := dl_0_ok (426, (.iadd, 1)) (List.mem_of_getElem? (i := 54) rfl)
set_option maxRecDepth 100000 in
theorem dL_law_427 : decode code 427 = .ok (.iaload, 1) := dl_0_ok (427, (.iaload, 1)) (List.mem_of_getElem? (i := 55) rfl)
set_option maxRecDepth 100000 in
theorem dL_law_428 : decode code 428 = .ok (.aload_n 0, 1) := dl_0_ok (428, (.aload_n 0, 1)) (List.mem_of_getElem? (i := 56) rfl)
set_option maxRecDepth 100000 in
theorem dL_law_429 : decode code 429 = .ok (.iload_n 3, 1) := dl_0_ok (429, (.iload_n 3, 1)) (List.mem_of_getElem? (i := 57) rfl)
set_option maxRecDepth 100000 in
theorem dL_law_430 : decode code 430 = .ok (.iconst 2, 1) := dl_0_ok (430, (.iconst 2, 1)) (List.mem_of_getElem? (i := 58) rfl)
set_option maxRecDepth 100000 in
theorem dL_law_431 : decode code 431 = .ok (.iadd, 1) := dl_0_ok (431, (.iadd, 1)) (List.mem_of_getElem? (i := 59) rfl)
set_option maxRecDepth 100000 in
theorem dL_law_432 : decode code 432 = .ok (.iaload, 1) := dl_0_ok (432, (.iaload, 1)) (List.mem_of_getElem? (i := 60) rfl)
set_option maxRecDepth 100000 in
theorem dL_law_433 : decode code 433 = .ok (.aload_n 0, 1) := dl_0_ok (433, (.aload_n 0, 1)) (List.mem_of_getElem? (i := 61) rfl)
set_option maxRecDepth 100000 in
theorem dL_law_434 : decode code 434 = .ok (.iload_n 3, 1) := dl_0_ok (434, (.iload_n 3, 1)) (List.mem_of_getElem? (i := 62) rfl)
set_option maxRecDepth 100000 in
theorem dL_law_435 : decode code 435 = .ok (.iconst 3, 1) := dl_0_ok (435, (.iconst 3, 1)) (List.mem_of_getElem? (i := 63) rfl)
set_option maxRecDepth 100000 in
theorem dL_law_436 : decode code 436 = .ok (.iadd, 1) := dl_0_ok (436, (.iadd, 1)) (List.mem_of_getElem? (i := 64) rfl)
set_option maxRecDepth 100000 in
theorem dL_law_437 : decode code 437 = .ok (.iaload, 1) := dl_0_ok (437, (.iaload, 1)) (List.mem_of_getElem? (i := 65) rfl)
set_option maxRecDepth 100000 in
theorem dL_law_438 : decode code 438 = .ok (.aload_n 0, 1) := dl_0_ok (438, (.aload_n 0, 1)) (List.mem_of_getElem? (i := 66) rfl)
set_option maxRecDepth 100000 in
theorem dL_law_439 : decode code 439 = .ok (.iload_n 3, 1) := dl_0_ok (439, (.iload_n 3, 1)) (List.mem_of_getElem? (i := 67) rfl)
set_option maxRecDepth 100000 in
theorem dL_law_440 : decode code 440 = .ok (.iconst 4, 1) := dl_0_ok (440, (.iconst 4, 1)) (List.mem_of_getElem? (i := 68) rfl)
set_option maxRecDepth 100000 in
theorem dL_law_441 : decode code 441 = .ok (.iadd, 1) := dl_0_ok (441, (.iadd, 1)) (List.mem_of_getElem? (i := 69) rfl)
set_option maxRecDepth 100000 in
theorem dL_law_442 : decode code 442 = .ok (.iaload, 1) := dl_0_ok (442, (.iaload, 1)) (List.mem_of_getElem? (i := 70) rfl)
set_option maxRecDepth 100000 in
theorem dL_law_443 : decode code 443 = .ok (.aload_n 0, 1) := dl_0_ok (443, (.aload_n 0, 1)) (List.mem_of_getElem? (i := 71) rfl)
set_option maxRecDepth 100000 in
theorem dL_law_444 : decode code 444 = .ok (.iload_n 3, 1) := dl_0_ok (444, (.iload_n 3, 1)) (List.mem_of_getElem? (i := 72) rfl)
set_option maxRecDepth 100000 in
theorem dL_law_445 : decode code 445 = .ok (.iconst 5, 1) := dl_0_ok (445, (.iconst 5, 1)) (List.mem_of_getElem? (i := 73) rfl)
set_option maxRecDepth 100000 in
theorem dL_law_446 : decode code 446 = .ok (.iadd, 1) := dl_0_ok (446, (.iadd, 1)) (List.mem_of_getElem? (i := 74) rfl)
set_option maxRecDepth 100000 in
theorem dL_law_447 : decode code 447 = .ok (.iaload, 1) := dl_0_ok (447, (.iaload, 1)) (List.mem_of_getElem? (i := 75) rfl)
set_option maxRecDepth 100000 in
theorem dL_law_448 : decode code 448 = .ok (.invokevirtual 17, 3) := dl_0_ok (448, (.invokevirtual 17, 3)) (List.mem_of_getElem? (i := 76) rfl)
set_option maxRecDepth 100000 in
theorem dL_law_451 : decode code 451 = .ok (.pop, 1) := dl_0_ok (451, (.pop, 1)) (List.mem_of_getElem? (i := 77) rfl)
set_option maxRecDepth 100000 in
theorem dL_law_452 : decode code 452 = .ok (.goto 2208, 3) := dl_0_ok (452, (.goto 2208, 3)) (List.mem_of_getElem? (i := 78) rfl)
set_option maxRecDepth 100000 in
theorem dL_law_455 : decode code 455 = .ok (.aload_n 1, 1) := dl_0_ok (455, (.aload_n 1, 1)) (List.mem_of_getElem? (i := 79) rfl)
set_option maxRecDepth 100000 in
theorem dL_law_456 : decode code 456 = .ok (.aload_n 0, 1) := dl_0_ok (456, (.aload_n 0, 1)) (List.mem_of_getElem? (i := 80) rfl)
set_option maxRecDepth 100000 in
theorem dL_law_457 : decode code 457 = .ok (.iload_n 3, 1) := dl_0_ok (457, (.iload_n 3, 1)) (List.mem_of_getElem? (i := 81) rfl)
set_option maxRecDepth 100000 in
theorem dL_law_458 : decode code 458 = .ok (.iconst 1, 1) := dl_0_ok (458, (.iconst 1, 1)) (List.mem_of_getElem? (i := 82) rfl)
set_option maxRecDepth 100000 in
theorem dL_law_459 : decode code 459 = .ok (.iadd, 1) := dl_0_ok (459, (.iadd, 1)) (List.mem_of_getElem? (i := 83) rfl)
set_option maxRecDepth 100000 in
theorem dL_law_460 : decode code 460 = .ok (.iaload, 1) := dl_0_ok (460, (.iaload, 1)) (List.mem_of_getElem? (i := 84) rfl)
set_option maxRecDepth 100000 in
theorem dL_law_461 : decode code 461 = .ok (.invokevirtual 18, 3) := dl_0_ok (461, (.invokevirtual 18, 3)) (List.mem_of_getElem? (i := 85) rfl)
set_option maxRecDepth 100000 in
theorem dL_law_464 : decode code 464 = .ok (.pop, 1) := dl_0_ok (464, (.pop, 1)) (List.mem_of_getElem? (i := 86) rfl)
set_option maxRecDepth 100000 in
theorem dL_law_465 : decode code 465 = .ok (.aload_n 2, 1) := dl_0_ok (465, (.aload_n 2, 1)) (List.mem_of_getElem? (i := 87) rfl)
set_option maxRecDepth 100000 in
theorem dL_law_466 : decode code 466 = .ok (.aload_n 0, 1) := dl_0_ok (466, (.aload_n 0, 1)) (List.mem_of_getElem? (i := 88) rfl)
set_option maxRecDepth 100000 in
theorem dL_law_467 : decode code 467 = .ok (.iload_n 3, 1) := dl_0_ok (467, (.iload_n 3, 1)) (List.mem_of_getElem? (i := 89) rfl)
set_option maxRecDepth 100000 in
theorem dL_law_468 : decode code 468 = .ok (.iconst 1, 1) := dl_0_ok (468, (.iconst 1, 1)) (List.mem_of_getElem? (i := 90) rfl)
set_option maxRecDepth 100000 in
theorem dL_law_469 : decode code 469 = .ok (.iadd, 1) := dl_0_ok (469, (.iadd, 1)) (List.mem_of_getElem? (i := 91) rfl)
set_option maxRecDepth 100000 in
theorem dL_law_470 : decode code 470 = .ok (.iaload, 1) := dl_0_ok (470, (.iaload, 1)) (List.mem_of_getElem? (i := 92) rfl)
set_option maxRecDepth 100000 in
theorem dL_law_471 : decode code 471 = .ok (.invokevirtual 22, 3) := dl_0_ok (471, (.invokevirtual 22, 3)) (List.mem_of_getElem? (i := 93) rfl)
set_option maxRecDepth 100000 in
theorem dL_law_474 : decode code 474 = .ok (.pop, 1) := dl_0_ok (474, (.pop, 1)) (List.mem_of_getElem? (i := 94) rfl)
set_option maxRecDepth 100000 in
theorem dL_law_475 : decode code 475 = .ok (.goto 2185, 3) := dl_0_ok (475, (.goto 2185, 3)) (List.mem_of_getElem? (i := 95) rfl)
set_option maxRecDepth 100000 in
theorem dL_law_478 : decode code 478 = .ok (.aload_n 1, 1) := dl_0_ok (478, (.aload_n 1, 1)) (List.mem_of_getElem? (i := 96) rfl)
set_option maxRecDepth 100000 in
theorem dL_law_479 : decode code 479 = .ok (.invokevirtual 23, 3) := dl_0_ok (479, (.invokevirtual 23, 3)) (List.mem_of_getElem? (i := 97) rfl)
set_option maxRecDepth 100000 in
theorem dL_law_482 : decode code 482 = .ok (.pop, 1) := dl_0_ok (482, (.pop, 1)) (List.mem_of_getElem? (i := 98) rfl)
set_option maxRecDepth 100000 in
theorem dL_law_483 : decode code 483 = .ok (.aload_n 2, 1) := dl_0_ok (483, (.aload_n 2, 1)) (List.mem_of_getElem? (i := 99) rfl)
def dl_1 : List (Nat × (Instr × Nat)) := [(484, (.invokevirtual 27, 3)), (487, (.pop, 1)), (488, (.goto 2172, 3)), (491, (.aload_n 1, 1)), (492, (.aload_n 0, 1)), (493, (.iload_n 3, 1)), (494, (.iconst 1, 1)), (495, (.iadd, 1)), (496, (.iaload, 1)), (497, (.invokevirtual 28, 3)), (500, (.pop, 1)), (501, (.aload_n 2, 1)), (502, (.aload_n 0, 1)), (503, (.iload_n 3, 1)), (504, (.iconst 1, 1)), (505, (.iadd, 1)), (506, (.iaload, 1)), (507, (.invokevirtual 31, 3)), (510, (.pop, 1)), (511, (.goto 2149, 3)), (514, (.aload_n 1, 1)), (515, (.aload_n 0, 1)), (516, (.iload_n 3, 1)), (517, (.iconst 1, 1)), (518, (.iadd, 1)), (519, (.iaload, 1)), (520, (.aload_n 0, 1)), (521, (.iload_n 3, 1)), (522, (.iconst 2, 1)), (523, (.iadd, 1)), (524, (.iaload, 1)), (525, (.invokevirtual 32, 3)), (528, (.pop, 1)), (529, (.aload_n 2, 1)), (530, (.aload_n 0, 1)), (531, (.iload_n 3, 1)), (532, (.iconst 1, 1)), (533, (.iadd, 1)), (534, (.iaload, 1)), (535, (.aload_n 0, 1)), (536, (.iload_n 3, 1)), (537, (.iconst 2, 1)), (538, (.iadd, 1)), (539, (.iaload, 1)), (540, (.invokevirtual 36, 3)), (543, (.pop, 1)), (544, (.goto 2116, 3)), (547, (.aload_n 1, 1)), (548, (.invokevirtual 37, 3)), (551, (.pop, 1)), (552, (.aload_n 2, 1)), (553, (.invokevirtual 40, 3)), (556, (.pop, 1)), (557, (.goto 2103, 3)), (560, (.aload_n 1, 1)), (561, (.invokevirtual 41, 3)), (564, (.pop, 1)), (565, (.aload_n 2, 1)), (566, (.invokevirtual 44, 3)), (569, (.pop, 1)), (570, (.goto 2090, 3)), (573, (.aload_n 1, 1)), (574, (.aload_n 0, 1)), (575, (.iload_n 3, 1)), (576, (.iconst 1, 1)), (577, (.iadd, 1)), (578, (.iaload, 1)), (579, (.aload_n 0, 1)), (580, (.iload_n 3, 1)), (581, (.iconst 2, 1)), (582, (.iadd, 1)), (583, (.iaload, 1)), (584, (.invokevirtual 45, 3)), (587, (.pop, 1)), (588, (.aload_n 2, 1)), (589, (.aload_n 0, 1)), (590, (.iload_n 3, 1)), (591, (.iconst 1, 1)), (592, (.iadd, 1)), (593, (.iaload, 1)), (594, (.aload_n 0, 1)), (595, (.iload_n 3, 1)), (596, (.iconst 2, 1)), (597, (.iadd, 1)), (598, (.iaload, 1)), (599, (.invokevirtual 48, 3)), (602, (.pop, 1)), (603, (.goto 2057, 3)), (606, (.aload_n 1, 1)), (607, (.aload_n 0, 1)), (608, (.iload_n 3, 1)), (609, (.iconst 1, 1)), (610, (.iadd, 1)), (611, (.iaload, 1)), (612, (.invokevirtual 49, 3)), (615, (.pop, 1)), (616, (.aload_n 2, 1)), (617, (.aload_n 0, 1)), (618, (.iload_n 3, 1)), (619, (.iconst 1, 1))]
set_option maxRecDepth 100000 in
theorem dl_1_ok : ∀ x ∈ dl_1, decode code x.1 = .ok x.2 := by decide +kernel
set_option maxRecDepth 100000 in
theorem dL_law_484 : decode code 484 = .ok (.invokevirtual 27, 3) := dl_1_ok (484, (.invokevirtual 27, 3)) (List.mem_of_getElem? (i := 0) rfl)
set_option maxRecDepth 100000 in
theorem dL_law_487 : decode code 487 = .ok (.pop, 1) := dl_1_ok (487, (.pop, 1)) (List.mem_of_getElem? (i := 1) rfl)
set_option maxRecDepth 100000 in
theorem dL_law_488 : decode code 488 = .ok (.goto 2172, 3) := dl_1_ok (488, (.goto 2172, 3)) (List.mem_of_getElem? (i := 2) rfl)
set_option maxRecDepth 100000 in
theorem dL_law_491 : decode code 491 = .ok (.aload_n 1, 1) := dl_1_ok (491, (.aload_n 1, 1)) (List.mem_of_getElem? (i := 3) rfl)
set_option maxRecDepth 100000 in
theorem dL_law_492 : decode code 492 = .ok (.aload_n 0, 1) := dl_1_ok (492, (.aload_n 0, 1)) (List.mem_of_getElem? (i := 4) rfl)
set_option maxRecDepth 100000 in
theorem dL_law_493 : decode code 493 = .ok (.iload_n 3, 1) := dl_1_ok (493, (.iload_n 3, 1)) (List.mem_of_getElem? (i := 5) rfl)
set_option maxRecDepth 100000 in
theorem dL_law_494 : decode code 494 = .ok (.iconst 1, 1) := dl_1_ok (494, (.iconst 1, 1)) (List.mem_of_getElem? (i := 6) rfl)
set_option maxRecDepth 100000 in
theorem dL_law_495 : decode code 495 = .ok (.iadd, 1) := dl_1_ok (495, (.iadd, 1)) (List.mem_of_getElem? (i := 7) rfl)
set_option maxRecDepth 100000 in
theorem dL_law_496 : decode code 496 = .ok (.iaload, 1) := dl_1_ok (496, (.iaload, 1)) (List.mem_of_getElem? (i := 8) rfl)
set_option maxRecDepth 100000 in
theorem dL_law_497 : decode code 497 = .ok (.invokevirtual 28, 3) := dl_1_ok (497, (.invokevirtual 28, 3)) (List.mem_of_getElem? (i := 9) rfl)
set_option maxRecDepth 100000 in
theorem dL_law_500 : decode code 500 = .ok (.pop, 1) := dl_1_ok (500, (.pop, 1)) (List.mem_of_getElem? (i := 10) rfl)
set_option maxRecDepth 100000 in
theorem dL_law_501 : decode code 501 = .ok (.aload_n 2, 1) := dl_1_ok (501, (.aload_n 2, 1)) (List.mem_of_getElem? (i := 11) rfl)
set_option maxRecDepth 100000 in
theorem dL_law_502 : decode code 502 = .ok (.aload_n 0, 1) := dl_1_ok (502, (.aload_n 0, 1)) (List.mem_of_getElem? (i := 12) rfl)
set_option maxRecDepth 100000 in
theorem dL_law_503 : decode code 503 = .ok (.iload_n 3, 1) := dl_1_ok (503, (.iload_n 3, 1)) (List.mem_of_getElem? (i := 13) rfl)
set_option maxRecDepth 100000 in
theorem dL_law_504 : decode code 504 = .ok (.iconst 1, 1) := dl_1_ok (504, (.iconst 1, 1)) (List.mem_of_getElem? (i := 14) rfl)
set_option maxRecDepth 100000 in
theorem dL_law_505 : decode code 505 = .ok (.iadd, 1) := dl_1_ok (505, (.iadd, 1)) (List.mem_of_getElem? (i := 15) rfl)
set_option maxRecDepth 100000 in
theorem dL_law_506 : decode code 506 = .ok (.iaload, 1) := dl_1_ok (506, (.iaload, 1)) (List.mem_of_getElem? (i := 16) rfl)
set_option maxRecDepth 100000 in
theorem dL_law_507 : decode code 507 = .ok (.invokevirtual 31, 3) := dl_1_ok (507, (.invokevirtual 31, 3)) (List.mem_of_getElem? (i := 17) rfl)
set_option maxRecDepth 100000 in
theorem dL_law_510 : decode code 510 = .ok (.pop, 1) := dl_1_ok (510, (.pop, 1)) (List.mem_of_getElem? (i := 18) rfl)
set_option maxRecDepth 100000 in
theorem dL_law_511 : decode code 511 = .ok (.goto 2149, 3) := dl_1_ok (511, (.goto 2149, 3)) (List.mem_of_getElem? (i := 19) rfl)
set_option maxRecDepth 100000 in
theorem dL_law_514 : decode code 514 = .ok (.aload_n 1, 1) := dl_1_ok (514, (.aload_n 1, 1)) (List.mem_of_getElem? (i := 20) rfl)
set_option maxRecDepth 100000 in
theorem dL_law_515 : decode code 515 = .ok (.aload_n 0, 1) := dl_1_ok (515, (.aload_n 0, 1)) (List.mem_of_getElem? (i := 21) rfl)
set_option maxRecDepth 100000 in
theorem dL_law_516 : decode code 516 = .ok (.iload_n 3, 1) := dl_1_ok (516, (.iload_n 3, 1)) (List.mem_of_getElem? (i := 22) rfl)
set_option maxRecDepth 100000 in
theorem dL_law_517 : decode code 517 = .ok (.iconst 1, 1) := dl_1_ok (517, (.iconst 1, 1)) (List.mem_of_getElem? (i := 23) rfl)
set_option maxRecDepth 100000 in
theorem dL_law_518 : decode code 518 = .ok (.iadd, 1) := dl_1_ok (518, (.iadd, 1)) (List.mem_of_getElem? (i := 24) rfl)
set_option maxRecDepth 100000 in
theorem dL_law_519 : decode code 519 = .ok (.iaload, 1) := dl_1_ok (519, (.iaload, 1)) (List.mem_of_getElem? (i := 25) rfl)
set_option maxRecDepth 100000 in
theorem dL_law_520 : decode code 520 = .ok (.aload_n 0, 1) := dl_1_ok (520, (.aload_n 0, 1)) (List.mem_of_getElem? (i := 26) rfl)
set_option maxRecDepth 100000 in
theorem dL_law_521 : decode code 521 = .ok (.iload_n 3, 1) := dl_1_ok (521, (.iload_n 3, 1)) (List.mem_of_getElem? (i := 27) rfl)
set_option maxRecDepth 100000 in
theorem dL_law_522 : decode code 522 = .ok (.iconst 2, 1) := dl_1_ok (522, (.iconst 2, 1)) (List.mem_of_getElem? (i := 28) rfl)
set_option maxRecDepth 100000 in
theorem dL_law_523 : decode code 523 = .ok (.iadd, 1) := dl_1_ok (523, (.iadd, 1)) (List.mem_of_getElem? (i := 29) rfl)
set_option maxRecDepth 100000 in
theorem dL_law_524 : decode code 524 = .ok (.iaload, 1) := dl_1_ok (524, (.iaload, 1)) (List.mem_of_getElem? (i := 30) rfl)
set_option maxRecDepth 100000 in
theorem dL_law_525 : decode code 525 = .ok (.invokevirtual 32, 3) := dl_1_ok (525, (.invokevirtual 32, 3)) (List.mem_of_getElem? (i := 31) rfl)
set_option maxRecDepth 100000 in
theorem dL_law_528 : decode code 528 = .ok (.pop, 1) := dl_1_ok (528, (.pop, 1)) (List.mem_of_getElem? (i := 32) rfl)
set_option maxRecDepth 100000 in
theorem dL_law_529 : decode code 529 = .ok (.aload_n 2, 1) := dl_1_ok (529, (.aload_n 2, 1)) (List.mem_of_getElem? (i := 33) rfl)
set_option maxRecDepth 100000 in
theorem dL_law_530 : decode code 530 = .ok (.aload_n 0, 1) := dl_1_ok (530, (.aload_n 0, 1)) (List.mem_of_getElem? (i := 34) rfl)
set_option maxRecDepth 100000 in
theorem dL_law_531 : decode code 531 = .ok (.iload_n 3, 1) := dl_1_ok (531, (.iload_n 3, 1)) (List.mem_of_getElem? (i := 35) rfl)
set_option maxRecDepth 100000 in
theorem dL_law_532 : decode code 532 = .ok (.iconst 1, 1) := dl_1_ok (532, (.iconst 1, 1)) (List.mem_of_getElem? (i := 36) rfl)
set_option maxRecDepth 100000 in
theorem dL_law_533 : decode code 533 = .ok (.iadd, 1) := dl_1_ok (533, (.iadd, 1)) (List.mem_of_getElem? (i := 37) rfl)
set_option maxRecDepth 100000 in
theorem dL_law_534 : decode code 534 = .ok (.iaload, 1) := dl_1_ok (534, (.iaload, 1)) (List.mem_of_getElem? (i := 38) rfl)
set_option maxRecDepth 100000 in
theorem dL_law_535 : decode code 535 = .ok (.aload_n 0, 1) := dl_1_ok (535, (.aload_n 0, 1)) (List.mem_of_getElem? (i := 39) rfl)
set_option maxRecDepth 100000 in
theorem dL_law_536 : decode code 536 = .ok (.iload_n 3, 1) := dl_1_ok (536, (.iload_n 3, 1)) (List.mem_of_getElem? (i := 40) rfl)
set_option maxRecDepth 100000 in
theorem dL_law_537 : decode code 537 = .ok (.iconst 2, 1) := dl_1_ok (537, (.iconst 2, 1)) (List.mem_of_getElem? (i := 41) rfl)
set_option maxRecDepth 100000 in
theorem dL_law_538 : decode code 538 = .ok (.iadd, 1) := dl_1_ok (538, (.iadd, 1)) (List.mem_of_getElem? (i := 42) rfl)
set_option maxRecDepth 100000 in
theorem dL_law_539 : decode code 539 = .ok (.iaload, 1) := dl_1_ok (539, (.iaload, 1)) (List.mem_of_getElem? (i := 43) rfl)
set_option maxRecDepth 100000 in
theorem dL_law_540 : decode code 540 = .ok (.invokevirtual 36, 3) := dl_1_ok (540, (.invokevirtual 36, 3)) (List.mem_of_getElem? (i := 44) rfl)
set_option maxRecDepth 100000 in
theorem dL_law_543 : decode code 543 = .ok (.pop, 1) := dl_1_ok (543, (.pop, 1)) (List.mem_of_getElem? (i := 45) rfl)
set_option maxRecDepth 100000 in
theorem dL_law_544 : decode code 544 = .ok (.goto 2116, 3) := dl_1_ok (544, (.goto 2116, 3)) (List.mem_of_getElem? (i := 46) rfl)
set_option maxRecDepth 100000 in
theorem dL_law_547 : decode code 547 = .ok (.aload_n 1, 1) := dl_1_ok (547, (.aload_n 1, 1)) (List.mem_of_getElem? (i := 47) rfl)
set_option maxRecDepth 100000 in
theorem dL_law_548 : decode code 548 = .ok (.invokevirtual 37, 3) := dl_1_ok (548, (.invokevirtual 37, 3)) (List.mem_of_getElem? (i := 48) rfl)
set_option maxRecDepth 100000 in
theorem dL_law_551 : decode code 551 = .ok (.pop, 1) := dl_1_ok (551, (.pop, 1)) (List.mem_of_getElem? (i := 49) rfl)
set_option maxRecDepth 100000 in
theorem dL_law_552 : decode code 552 = .ok (.aload_n 2, 1) := dl_1_ok (552, (.aload_n 2, 1)) (List.mem_of_getElem? (i := 50) rfl)
set_option maxRecDepth 100000 in
theorem dL_law_553 : decode code 553 = .ok (.invokevirtual 40, 3) := dl_1_ok (553, (.invokevirtual 40, 3)) (List.mem_of_getElem? (i := 51) rfl)
set_option maxRecDepth 100000 in
theorem dL_law_556 : decode code 556 = .ok (.pop, 1) := dl_1_ok (556, (.pop, 1)) (List.mem_of_getElem? (i := 52) rfl)
set_option maxRecDepth 100000 in
theorem dL_law_557 : decode code 557 = .ok (.goto 2103, 3) := dl_1_ok (557, (.goto 2103, 3)) (List.mem_of_getElem? (i := 53) rfl)
set_option maxRecDepth 100000 in
theorem dL_law_560 : decode code 560 = .ok (.aload_n 1, 1) := dl_1_ok (560, (.aload_n 1, 1)) (List.mem_of_getElem? (i := 54) rfl)
set_option maxRecDepth 100000 in
theorem dL_law_561 : decode code 561 = .ok (.invokevirtual 41, 3) := dl_1_ok (561, (.invokevirtual 41, 3)) (List.mem_of_getElem? (i := 55) rfl)
set_option maxRecDepth 100000 in
theorem dL_law_564 : decode code 564 = .ok (.pop, 1) := dl_1_ok (564, (.pop, 1)) (List.mem_of_getElem? (i := 56) rfl)
set_option maxRecDepth 100000 in
theorem dL_law_565 : decode code 565 = .ok (.aload_n 2, 1) := dl_1_ok (565, (.aload_n 2, 1)) (List.mem_of_getElem? (i := 57) rfl)
set_option maxRecDepth 100000 in
theorem dL_law_566 : decode code 566 = .ok (.invokevirtual 44, 3) := dl_1_ok (566, (.invokevirtual 44, 3)) (List.mem_of_getElem? (i := 58) rfl)
set_option maxRecDepth 100000 in
theorem dL_law_569 : decode code 569 = .ok (.pop, 1) := dl_1_ok (569, (.pop, 1)) (List.mem_of_getElem? (i := 59) rfl)
set_option maxRecDepth 100000 in
theorem dL_law_570 : decode code 570 = .ok (.goto 2090, 3) := dl_1_ok (570, (.goto 2090, 3)) (List.mem_of_getElem? (i := 60) rfl)
set_option maxRecDepth 100000 in
theorem dL_law_573 : decode code 573 = .ok (.aload_n 1, 1) := dl_1_ok (573, (.aload_n 1, 1)) (List.mem_of_getElem? (i := 61) rfl)
set_option maxRecDepth 100000 in
theorem dL_law_574 : decode code 574 = .ok (.aload_n 0, 1) := dl_1_ok (574, (.aload_n 0, 1)) (List.mem_of_getElem? (i := 62) rfl)
set_option maxRecDepth 100000 in
theorem dL_law_575 : decode code 575 = .ok (.iload_n 3, 1) := dl_1_ok (575, (.iload_n 3, 1)) (List.mem_of_getElem? (i := 63) rfl)
set_option maxRecDepth 100000 in
theorem dL_law_576 : decode code 576 = .ok (.iconst 1, 1) := dl_1_ok (576, (.iconst 1, 1)) (List.mem_of_getElem? (i := 64) rfl)
set_option maxRecDepth 100000 in
theorem dL_law_577 : decode code 577 = .ok (.iadd, 1) := dl_1_ok (577, (.iadd, 1)) (List.mem_of_getElem? (i := 65) rfl)
set_option maxRecDepth 100000 in
theorem dL_law_578 : decode code 578 = .ok (.iaload, 1) := dl_1_ok (578, (.iaload, 1)) (List.mem_of_getElem? (i := 66) rfl)
set_option maxRecDepth 100000 in
theorem dL_law_579 : decode code 579 = .ok (.aload_n 0, 1) := dl_1_ok (579, (.aload_n 0, 1)) (List.mem_of_getElem? (i := 67) rfl)
set_option maxRecDepth 100000 in
theorem dL_law_580 : decode code 580 = .ok (.iload_n 3, 1) := dl_1_ok (580, (.iload_n 3, 1)) (List.mem_of_getElem? (i := 68) rfl)
set_option maxRecDepth 100000 in
theorem dL_law_581 : decode code 581 = .ok (.iconst 2, 1) := dl_1_ok (581, (.iconst 2, 1)) (List.mem_of_getElem? (i := 69) rfl)
set_option maxRecDepth 100000 in
theorem dL_law_582 : decode code 582 = .ok (.iadd, 1) := dl_1_ok (582, (.iadd, 1)) (List.mem_of_getElem? (i := 70) rfl)
set_option maxRecDepth 100000 in
theorem dL_law_583 : decode code 583 = .ok (.iaload, 1) := dl_1_ok (583, (.iaload, 1)) (List.mem_of_getElem? (i := 71) rfl)
set_option maxRecDepth 100000 in
theorem dL_law_584 : decode code 584 = .ok (.invokevirtual 45, 3) := dl_1_ok (584, (.invokevirtual 45, 3)) (List.mem_of_getElem? (i := 72) rfl)
set_option maxRecDepth 100000 in
theorem dL_law_587 : decode code 587 = .ok (.pop, 1) := dl_1_ok (587, (.pop, 1)) (List.mem_of_getElem? (i := 73) rfl)
set_option maxRecDepth 100000 in
theorem dL_law_588 : decode code 588 = .ok (.aload_n 2, 1) := dl_1_ok (588, (.aload_n 2, 1)) (List.mem_of_getElem? (i := 74) rfl)
set_option maxRecDepth 100000 in
theorem dL_law_589 : decode code 589 = .ok (.aload_n 0, 1) := dl_1_ok (589, (.aload_n 0, 1)) (List.mem_of_getElem? (i := 75) rfl)
set_option maxRecDepth 100000 in
theorem dL_law_590 : decode code 590 = .ok (.iload_n 3, 1) := dl_1_ok (590, (.iload_n 3, 1)) (List.mem_of_getElem? (i := 76) rfl)
set_option maxRecDepth 100000 in
theorem dL_law_591 : decode code 591 = .ok (.iconst 1, 1) := dl_1_ok (591, (.iconst 1, 1)) (List.mem_of_getElem? (i := 77) rfl)
set_option maxRecDepth 100000 in
theorem dL_law_592 : decode code 592 = .ok (.iadd, 1) := dl_1_ok (592, (.iadd, 1)) (List.mem_of_getElem? (i := 78) rfl)
set_option maxRecDepth 100000 in
theorem dL_law_593 : decode code 593 = .ok (.iaload, 1) := dl_1_ok (593, (.iaload, 1)) (List.mem_of_getElem? (i := 79) rfl)
set_option maxRecDepth 100000 in
theorem dL_law_594 : decode code 594 = .ok (.aload_n 0, 1) := dl_1_ok (594, (.aload_n 0, 1)) (List.mem_of_getElem? (i := 80) rfl)
set_option maxRecDepth 100000 in
theorem dL_law_595 : decode code 595 = .ok (.iload_n 3, 1) := dl_1_ok (595, (.iload_n 3, 1)) (List.mem_of_getElem? (i := 81) rfl)
set_option maxRecDepth 100000 in
theorem dL_law_596 : decode code 596 = .ok (.iconst 2, 1) := dl_1_ok (596, (.iconst 2, 1)) (List.mem_of_getElem? (i := 82) rfl)
set_option maxRecDepth 100000 in
theorem dL_law_597 : decode code 597 = .ok (.iadd, 1) := dl_1_ok (597, (.iadd, 1)) (List.mem_of_getElem? (i := 83) rfl)
set_option maxRecDepth 100000 in
theorem dL_law_598 : decode code 598 = .ok (.iaload, 1) := dl_1_ok (598, (.iaload, 1)) (List.mem_of_getElem? (i := 84) rfl)
set_option maxRecDepth 100000 in
theorem dL_law_599 : decode code 599 = .ok (.invokevirtual 48, 3) := dl_1_ok (599, (.invokevirtual 48, 3)) (List.mem_of_getElem? (i := 85) rfl)
set_option maxRecDepth 100000 in
theorem dL_law_602 : decode code 602 = .ok (.pop, 1) := dl_1_ok (602, (.pop, 1)) (List.mem_of_getElem? (i := 86) rfl)
set_option maxRecDepth 100000 in
theorem dL_law_603 : decode code 603 = .ok (.goto 2057, 3) := dl_1_ok (603, (.goto 2057, 3)) (List.mem_of_getElem? (i := 87) rfl)
set_option maxRecDepth 100000 in
theorem dL_law_606 : decode code 606 = .ok (.aload_n 1, 1) := dl_1_ok (606, (.aload_n 1, 1)) (List.mem_of_getElem? (i := 88) rfl)
set_option maxRecDepth 100000 in
theorem dL_law_607 : decode code 607 = .ok (.aload_n 0, 1) := dl_1_ok (607, (.aload_n 0, 1)) (List.mem_of_getElem? (i := 89) rfl)
set_option maxRecDepth 100000 in
theorem dL_law_608 : decode code 608 = .ok (.iload_n 3, 1) := dl_1_ok (608, (.iload_n 3, 1)) (List.mem_of_getElem? (i := 90) rfl)
set_option maxRecDepth 100000 in
theorem dL_law_609 : decode code 609 = .ok (.iconst 1, 1) := dl_1_ok (609, (.iconst 1, 1)) (List.mem_of_getElem? (i := 91) rfl)
set_option maxRecDepth 100000 in
theorem dL_law_610 : decode code 610 = .ok (.iadd, 1) := dl_1_ok (610, (.iadd, 1)) (List.mem_of_getElem? (i := 92) rfl)
set_option maxRecDepth 100000 in
theorem dL_law_611 : decode code 611 = .ok (.iaload, 1) := dl_1_ok (611, (.iaload, 1)) (List.mem_of_getElem? (i := 93) rfl)
set_option maxRecDepth 100000 in
theorem dL_law_612 : decode code 612 = .ok (.invokevirtual 49, 3) := dl_1_ok (612, (.invokevirtual 49, 3)) (List.mem_of_getElem? (i := 94) rfl)
set_option maxRecDepth 100000 in
theorem dL_law_615 : decode code 615 = .ok (.pop, 1) := dl_1_ok (615, (.pop, 1)) (List.mem_of_getElem? (i := 95) rfl)
set_option maxRecDepth 100000 in
theorem dL_law_616 : decode code 616 = .ok (.aload_n 2, 1) := dl_1_ok (616, (.aload_n 2, 1)) (List.mem_of_getElem? (i := 96) rfl)
set_option maxRecDepth 100000 in
theorem dL_law_617 : decode code 617 = .ok (.aload_n 0, 1) := dl_1_ok (617, (.aload_n 0, 1)) (List.mem_of_getElem? (i := 97) rfl)
set_option maxRecDepth 100000 in
theorem dL_law_618 : decode code 618 = .ok (.iload_n 3, 1) := dl_1_ok (618, (.iload_n 3, 1)) (List.mem_of_getElem? (i := 98) rfl)
set_option maxRecDepth 100000 in
theorem dL_law_619 : decode code 619 = .ok (.iconst 1, 1) := dl_1_ok (619, (.iconst 1, 1)) (List.mem_of_getElem? (i := 99) rfl)
def dl_2 : List (Nat × (Instr × Nat)) := [(620, (.iadd, 1)), (621, (.iaload, 1)), (622, (.invokevirtual 52, 3)), (625, (.pop, 1)), (626, (.goto 2034, 3)), (629, (.aload_n 1, 1)), (630, (.aload_n 0, 1)), (631, (.iload_n 3, 1)), (632, (.iconst 1, 1)), (633, (.iadd, 1)), (634, (.iaload, 1)), (635, (.aload_n 0, 1)), (636, (.iload_n 3, 1)), (637, (.iconst 2, 1)), (638, (.iadd, 1)), (639, (.iaload, 1)), (640, (.invokevirtual 53, 3)), (643, (.pop2, 1)), (644, (.aload_n 2, 1)), (645, (.aload_n 0, 1)), (646, (.iload_n 3, 1)), (647, (.iconst 1, 1)), (648, (.iadd, 1)), (649, (.iaload, 1)), (650, (.aload_n 0, 1)), (651, (.iload_n 3, 1)), (652, (.iconst 2, 1)), (653, (.iadd, 1)), (654, (.iaload, 1)), (655, (.invokevirtual 57, 3)), (658, (.pop2, 1)), (659, (.goto 2001, 3)), (662, (.aload_n 1, 1)), (663, (.aload_n 0, 1)), (664, (.iload_n 3, 1)), (665, (.iconst 1, 1)), (666, (.iadd, 1)), (667, (.iaload, 1)), (668, (.aload_n 0, 1)), (669, (.iload_n 3, 1)), (670, (.iconst 2, 1)), (671, (.iadd, 1)), (672, (.iaload, 1)), (673, (.invokevirtual 58, 3)), (676, (.pop2, 1)), (677, (.aload_n 2, 1)), (678, (.aload_n 0, 1)), (679, (.iload_n 3, 1)), (680, (.iconst 1, 1)), (681, (.iadd, 1)), (682, (.iaload, 1)), (683, (.aload_n 0, 1)), (684, (.iload_n 3, 1)), (685, (.iconst 2, 1)), (686, (.iadd, 1)), (687, (.iaload, 1)), (688, (.invokevirtual 61, 3)), (691, (.pop2, 1)), (692, (.goto 1968, 3)), (695, (.aload_n 1, 1)), (696, (.aload_n 0, 1)), (697, (.iload_n 3, 1)), (698, (.iconst 1, 1)), (699, (.iadd, 1)), (700, (.iaload, 1)), (701, (.aload_n 0, 1)), (702, (.iload_n 3, 1)), (703, (.iconst 2, 1)), (704, (.iadd, 1)), (705, (.iaload, 1)), (706, (.aload_n 0, 1)), (707, (.iload_n 3, 1)), (708, (.iconst 3, 1)), (709, (.iadd, 1)), (710, (.iaload, 1)), (711, (.invokevirtual 62, 3)), (714, (.pop2, 1)), (715, (.aload_n 2, 1)), (716, (.aload_n 0, 1)), (717, (.iload_n 3, 1)), (718, (.iconst 1, 1)), (719, (.iadd, 1)), (720, (.iaload, 1)), (721, (.aload_n 0, 1)), (722, (.iload_n 3, 1)), (723, (.iconst 2, 1)), (724, (.iadd, 1)), (725, (.iaload, 1)), (726, (.aload_n 0, 1)), (727, (.iload_n 3, 1)), (728, (.iconst 3, 1)), (729, (.iadd, 1)), (730, (.iaload, 1)), (731, (.invokevirtual 66, 3)), (734, (.pop2, 1)), (735, (.goto 1925, 3)), (738, (.aload_n 1, 1)), (739, (.aload_n 0, 1)), (740, (.iload_n 3, 1)), (741, (.iconst 1, 1))]
set_option maxRecDepth 100000 in
theorem dl_2_ok : ∀ x ∈ dl_2, decode code x.1 = .ok x.2 := by decide +kernel
set_option maxRecDepth 100000 in
theorem dL_law_620 : decode code 620 = .ok (.iadd, 1) := dl_2_ok (620, (.iadd, 1)) (List.mem_of_getElem? (i := 0) rfl)
set_option maxRecDepth 100000 in
theorem dL_law_621 : decode code 621 = .ok (.iaload, 1) := dl_2_ok (621, (.iaload, 1)) (List.mem_of_getElem? (i := 1) rfl)
set_option maxRecDepth 100000 in
theorem dL_law_622 : decode code 622 = .ok (.invokevirtual 52, 3) := dl_2_ok (622, (.invokevirtual 52, 3)) (List.mem_of_getElem? (i := 2) rfl)
set_option maxRecDepth 100000 in
theorem dL_law_625 : decode code 625 = .ok (.pop, 1) := dl_2_ok (625, (.pop, 1)) (List.mem_of_getElem? (i := 3) rfl)
set_option maxRecDepth 100000 in
theorem dL_law_626 : decode code 626 = .ok (.goto 2034, 3) := dl_2_ok (626, (.goto 2034, 3)) (List.mem_of_getElem? (i := 4) rfl)
set_option maxRecDepth 100000 in
theorem dL_law_629 : decode code 629 = .ok (.aload_n 1, 1) := dl_2_ok (629, (.aload_n 1, 1)) (List.mem_of_getElem? (i := 5) rfl)
set_option maxRecDepth 100000 in
theorem dL_law_630 : decode code 630 = .ok (.aload_n 0, 1) := dl_2_ok (630, (.aload_n 0, 1)) (List.mem_of_getElem? (i := 6) rfl)
set_option maxRecDepth 100000 in
theorem dL_law_631 : decode code 631 = .ok (.iload_n 3, 1) := dl_2_ok (631, (.iload_n 3, 1)) (List.mem_of_getElem? (i := 7) rfl)
set_option maxRecDepth 100000 in
theorem dL_law_632 : decode code 632 = .ok (.iconst 1, 1) := dl_2_ok (632, (.iconst 1, 1)) (List.mem_of_getElem? (i := 8) rfl)
set_option maxRecDepth 100000 in
theorem dL_law_633 : decode code 633 = .ok (.iadd, 1) := dl_2_ok (633, (.iadd, 1)) (List.mem_of_getElem? (i := 9) rfl)
set_option maxRecDepth 100000 in
theorem dL_law_634 : decode code 634 = .ok (.iaload, 1) := dl_2_ok (634, (.iaload, 1)) (List.mem_of_getElem? (i := 10) rfl)
set_option maxRecDepth 100000 in
theorem dL_law_635 : decode code 635 = .ok (.aload_n 0, 1) := dl_2_ok (635, (.aload_n 0, 1)) (List.mem_of_getElem? (i := 11) rfl)
set_option maxRecDepth 100000 in
theorem dL_law_636 : decode code 636 = .ok (.iload_n 3, 1) := dl_2_ok (636, (.iload_n 3, 1)) (List.mem_of_getElem? (i := 12) rfl)
set_option maxRecDepth 100000 in
theorem dL_law_637 : decode code 637 = .ok (.iconst 2, 1) := dl_2_ok (637, (.iconst 2, 1)) (List.mem_of_getElem? (i := 13) rfl)
set_option maxRecDepth 100000 in
theorem dL_law_638 : decode code 638 = .ok (.iadd, 1) := dl_2_ok (638, (.iadd, 1)) (List.mem_of_getElem? (i := 14) rfl)
set_option maxRecDepth 100000 in
theorem dL_law_639 : decode code 639 = .ok (.iaload, 1) := dl_2_ok (639, (.iaload, 1)) (List.mem_of_getElem? (i := 15) rfl)
set_option maxRecDepth 100000 in
theorem dL_law_640 : decode code 640 = .ok (.invokevirtual 53, 3) := dl_2_ok (640, (.invokevirtual 53, 3)) (List.mem_of_getElem? (i := 16) rfl)
set_option maxRecDepth 100000 in
theorem dL_law_643 : decode code 643 = .ok (.pop2, 1) := dl_2_ok (643, (.pop2, 1)) (List.mem_of_getElem? (i := 17) rfl)
set_option maxRecDepth 100000 in
theorem dL_law_644 : decode code 644 = .ok (.aload_n 2, 1) := dl_2_ok (644, (.aload_n 2, 1)) (List.mem_of_getElem? (i := 18) rfl)
set_option maxRecDepth 100000 in
theorem dL_law_645 : decode code 645 = .ok (.aload_n 0, 1) := dl_2_ok (645, (.aload_n 0, 1)) (List.mem_of_getElem? (i := 19) rfl)
set_option maxRecDepth 100000 in
theorem dL_law_646 : decode code 646 = .ok (.iload_n 3, 1) := dl_2_ok (646, (.iload_n 3, 1)) (List.mem_of_getElem? (i := 20) rfl)
set_option maxRecDepth 100000 in
theorem dL_law_647 : decode code 647 = .ok (.iconst 1, 1) := dl_2_ok (647, (.iconst 1, 1)) (List.mem_of_getElem? (i := 21) rfl)
set_option maxRecDepth 100000 in
theorem dL_law_648 : decode code 648 = .ok (.iadd, 1) := dl_2_ok (648, (.iadd, 1)) (List.mem_of_getElem? (i := 22) rfl)
set_option maxRecDepth 100000 in
theorem dL_law_649 : decode code 649 = .ok (.iaload, 1) := dl_2_ok (649, (.iaload, 1)) (List.mem_of_getElem? (i := 23) rfl)
set_option maxRecDepth 100000 in
theorem dL_law_650 : decode code 650 = .ok (.aload_n 0, 1) := dl_2_ok (650, (.aload_n 0, 1)) (List.mem_of_getElem? (i := 24) rfl)
set_option maxRecDepth 100000 in
theorem dL_law_651 : decode code 651 = .ok (.iload_n 3, 1) := dl_2_ok (651, (.iload_n 3, 1)) (List.mem_of_getElem? (i := 25) rfl)
set_option maxRecDepth 100000 in
theorem dL_law_652 : decode code 652 = .ok (.iconst 2, 1) := dl_2_ok (652, (.iconst 2, 1)) (List.mem_of_getElem? (i := 26) rfl)
set_option maxRecDepth 100000 in
theorem dL_law_653 : decode code 653 = .ok (.iadd, 1) := dl_2_ok (653, (.iadd, 1)) (List.mem_of_getElem? (i := 27) rfl)
set_option maxRecDepth 100000 in
theorem dL_law_654 : decode code 654 = .ok (.iaload, 1) := dl_2_ok (654, (.iaload, 1)) (List.mem_of_getElem? (i := 28) rfl)
set_option maxRecDepth 100000 in
theorem dL_law_655 : decode code 655 = .ok (.invokevirtual 57, 3) := dl_2_ok (655, (.invokevirtual 57, 3)) (List.mem_of_getElem? (i := 29) rfl)
set_option maxRecDepth 100000 in
theorem dL_law_658 : decode code 658 = .ok (.pop2, 1) := dl_2_ok (658, (.pop2, 1)) (List.mem_of_getElem? (i := 30) rfl)
set_option maxRecDepth 100000 in
theorem dL_law_659 : decode code 659 = .ok (.goto 2001, 3) := dl_2_ok (659, (.goto 2001, 3)) (List.mem_of_getElem? (i := 31) rfl)
set_option maxRecDepth 100000 in
theorem dL_law_662 : decode code 662 = .ok (.aload_n 1, 1) := dl_2_ok (662, (.aload_n 1, 1)) (List.mem_of_getElem? (i := 32) rfl)
set_option maxRecDepth 100000 in
theorem dL_law_663 : decode code 663 = .ok (.aload_n 0, 1) := dl_2_ok (663, (.aload_n 0, 1)) (List.mem_of_getElem? (i := 33) rfl)
set_option maxRecDepth 100000 in
theorem dL_law_664 : decode code 664 = .ok (.iload_n 3, 1) := dl_2_ok (664, (.iload_n 3, 1)) (List.mem_of_getElem? (i := 34) rfl)
set_option maxRecDepth 100000 in
theorem dL_law_665 : decode code 665 = .ok (.iconst 1, 1) := dl_2_ok (665, (.iconst 1, 1)) (List.mem_of_getElem? (i := 35) rfl)
set_option maxRecDepth 100000 in
theorem dL_law_666 : decode code 666 = .ok (.iadd, 1) := dl_2_ok (666, (.iadd, 1)) (List.mem_of_getElem? (i := 36) rfl)
set_option maxRecDepth 100000 in
theorem dL_law_667 : decode code 667 = .ok (.iaload, 1) := dl_2_ok (667, (.iaload, 1)) (List.mem_of_getElem? (i := 37) rfl)
set_option maxRecDepth 100000 in
theorem dL_law_668 : decode code 668 = .ok (.aload_n 0, 1) := dl_2_ok (668, (.aload_n 0, 1)) (List.mem_of_getElem? (i := 38) rfl)
set_option maxRecDepth 100000 in
theorem dL_law_669 : decode code 669 = .ok (.iload_n 3, 1) := dl_2_ok (669, (.iload_n 3, 1)) (List.mem_of_getElem? (i := 39) rfl)
set_option maxRecDepth 100000 in
theorem dL_law_670 : decode code 670 = .ok (.iconst 2, 1) := dl_2_ok (670, (.iconst 2, 1)) (List.mem_of_getElem? (i := 40) rfl)
set_option maxRecDepth 100000 in
theorem dL_law_671 : decode code 671 = .ok (.iadd, 1) := dl_2_ok (671, (.iadd, 1)) (List.mem_of_getElem? (i := 41) rfl)
set_option maxRecDepth 100000 in
theorem dL_law_672 : decode code 672 = .ok (.iaload, 1) := dl_2_ok (672, (.iaload, 1)) (List.mem_of_getElem? (i := 42) rfl)
set_option maxRecDepth 100000 in
theorem dL_law_673 : decode code 673 = .ok (.invokevirtual 58, 3) := dl_2_ok (673, (.invokevirtual 58, 3)) (List.mem_of_getElem? (i := 43) rfl)
set_option maxRecDepth 100000 in
theorem dL_law_676 : decode code 676 = .ok (.pop2, 1) := dl_2_ok (676, (.pop2, 1)) (List.mem_of_getElem? (i := 44) rfl)
set_option maxRecDepth 100000 in
theorem dL_law_677 : decode code 677 = .ok (.aload_n 2, 1) := dl_2_ok (677, (.aload_n 2, 1)) (List.mem_of_getElem? (i := 45) rfl)
set_option maxRecDepth 100000 in
theorem dL_law_678 : decode code 678 = .ok (.aload_n 0, 1) := dl_2_ok (678, (.aload_n 0, 1)) (List.mem_of_getElem? (i := 46) rfl)
set_option maxRecDepth 100000 in
theorem dL_law_679 : decode code 679 = .ok (.iload_n 3, 1) := dl_2_ok (679, (.iload_n 3, 1)) (List.mem_of_getElem? (i := 47) rfl)
set_option maxRecDepth 100000 in
theorem dL_law_680 : decode code 680 = .ok (.iconst 1, 1) := dl_2_ok (680, (.iconst 1, 1)) (List.mem_of_getElem? (i := 48) rfl)
set_option maxRecDepth 100000 in
theorem dL_law_681 : decode code 681 = .ok (.iadd, 1) := dl_2_ok (681, (.iadd, 1)) (List.mem_of_getElem? (i := 49) rfl)
set_option maxRecDepth 100000 in
theorem dL_law_682 : decode code 682 = .ok (.iaload, 1) := dl_2_ok (682, (.iaload, 1)) (List.mem_of_getElem? (i := 50) rfl)
set_option maxRecDepth 100000 in
theorem dL_law_683 : decode code 683 = .ok (.aload_n 0, 1) := dl_2_ok (683, (.aload_n 0, 1)) (List.mem_of_getElem? (i := 51) rfl)
set_option maxRecDepth 100000 in
theorem dL_law_684 : decode code 684 = .ok (.iload_n 3, 1) := dl_2_ok (684, (.iload_n 3, 1)) (List.mem_of_getElem? (i := 52) rfl)
set_option maxRecDepth 100000 in
theorem dL_law_685 : decode code 685 = .ok (.iconst 2, 1) := dl_2_ok (685, (.iconst 2, 1)) (List.mem_of_getElem? (i := 53) rfl)
set_option maxRecDepth 100000 in
theorem dL_law_686 : decode code 686 = .ok (.iadd, 1) := dl_2_ok (686, (.iadd, 1)) (List.mem_of_getElem? (i := 54) rfl)
set_option maxRecDepth 100000 in
theorem dL_law_687 : decode code 687 = .ok (.iaload, 1) := dl_2_ok (687, (.iaload, 1)) (List.mem_of_getElem? (i := 55) rfl)
set_option maxRecDepth 100000 in
theorem dL_law_688 : decode code 688 = .ok (.invokevirtual 61, 3) := dl_2_ok (688, (.invokevirtual 61, 3)) (List.mem_of_getElem? (i := 56) rfl)
set_option maxRecDepth 100000 in
theorem dL_law_691 : decode code 691 = .ok (.pop2, 1) := dl_2_ok (691, (.pop2, 1)) (List.mem_of_getElem? (i := 57) rfl)
set_option maxRecDepth 100000 in
theorem dL_law_692 : decode code 692 = .ok (.goto 1968, 3) := dl_2_ok (692, (.goto 1968, 3)) (List.mem_of_getElem? (i := 58) rfl)
set_option maxRecDepth 100000 in
theorem dL_law_695 : decode code 695 = .ok (.aload_n 1, 1) := dl_2_ok (695, (.aload_n 1, 1)) (List.mem_of_getElem? (i := 59) rfl)
set_option maxRecDepth 100000 in
theorem dL_law_696 : decode code 696 = .ok (.aload_n 0, 1) := dl_2_ok (696, (.aload_n 0, 1)) (List.mem_of_getElem? (i := 60) rfl)
set_option maxRecDepth 100000 in
theorem dL_law_697 : decode code 697 = .ok (.iload_n 3, 1) := dl_2_ok (697, (.iload_n 3, 1)) (List.mem_of_getElem? (i := 61) rfl)
set_option maxRecDepth 100000 in
theorem dL_law_698 : decode code 698 = .ok (.iconst 1, 1) := dl_2_ok (698, (.iconst 1, 1)) (List.mem_of_getElem? (i := 62) rfl)
set_option maxRecDepth 100000 in
theorem dL_law_699 : decode code 699 = .ok (.iadd, 1) := dl_2_ok (699, (.iadd, 1)) (List.mem_of_getElem? (i := 63) rfl)
set_option maxRecDepth 100000 in
theorem dL_law_700 : decode code 700 = .ok (.iaload, 1) := dl_2_ok (700, (.iaload, 1)) (List.mem_of_getElem? (i := 64) rfl)
set_option maxRecDepth 100000 in
theorem dL_law_701 : decode code 701 = .ok (.aload_n 0, 1) := dl_2_ok (701, (.aload_n 0, 1)) (List.mem_of_getElem? (i := 65) rfl)
set_option maxRecDepth 100000 in
theorem dL_law_702 : decode code 702 = .ok (.iload_n 3, 1) := dl_2_ok (702, (.iload_n 3, 1)) (List.mem_of_getElem? (i := 66) rfl)
set_option maxRecDepth 100000 in
theorem dL_law_703 : decode code 703 = .ok (.iconst 2, 1) := dl_2_ok (703, (.iconst 2, 1)) (List.mem_of_getElem? (i := 67) rfl)
set_option maxRecDepth 100000 in
theorem dL_law_704 : decode code 704 = .ok (.iadd, 1) := dl_2_ok (704, (.iadd, 1)) (List.mem_of_getElem? (i := 68) rfl)
set_option maxRecDepth 100000 in
theorem dL_law_705 : decode code 705 = .ok (.iaload, 1) := dl_2_ok (705, (.iaload, 1)) (List.mem_of_getElem? (i := 69) rfl)
set_option maxRecDepth 100000 in
theorem dL_law_706 : decode code 706 = .ok (.aload_n 0, 1) := dl_2_ok (706, (.aload_n 0, 1)) (List.mem_of_getElem? (i := 70) rfl)
set_option maxRecDepth 100000 in
theorem dL_law_707 : decode code 707 = .ok (.iload_n 3, 1) := dl_2_ok (707, (.iload_n 3, 1)) (List.mem_of_getElem? (i := 71) rfl)
set_option maxRecDepth 100000 in
theorem dL_law_708 : decode code 708 = .ok (.iconst 3, 1) := dl_2_ok (708, (.iconst 3, 1)) (List.mem_of_getElem? (i := 72) rfl)
set_option maxRecDepth 100000 in
theorem dL_law_709 : decode code 709 = .ok (.iadd, 1) := dl_2_ok (709, (.iadd, 1)) (List.mem_of_getElem? (i := 73) rfl)
set_option maxRecDepth 100000 in
theorem dL_law_710 : decode code 710 = .ok (.iaload, 1) := dl_2_ok (710, (.iaload, 1)) (List.mem_of_getElem? (i := 74) rfl)
set_option maxRecDepth 100000 in
theorem dL_law_711 : decode code 711 = .ok (.invokevirtual 62, 3) := dl_2_ok (711, (.invokevirtual 62, 3)) (List.mem_of_getElem? (i := 75) rfl)
set_option maxRecDepth 100000 in
theorem dL_law_714 : decode code 714 = .ok (.pop2, 1) := dl_2_ok (714, (.pop2, 1)) (List.mem_of_getElem? (i := 76) rfl)
set_option maxRecDepth 100000 in
theorem dL_law_715 : decode code 715 = .ok (.aload_n 2, 1) := dl_2_ok (715, (.aload_n 2, 1)) (List.mem_of_getElem? (i := 77) rfl)
set_option maxRecDepth 100000 in
theorem dL_law_716 : decode code 716 = .ok (.aload_n 0, 1) := dl_2_ok (716, (.aload_n 0, 1)) (List.mem_of_getElem? (i := 78) rfl)
set_option maxRecDepth 100000 in
theorem dL_law_717 : decode code 717 = .ok (.iload_n 3, 1) := dl_2_ok (717, (.iload_n 3, 1)) (List.mem_of_getElem? (i := 79) rfl)
set_option maxRecDepth 100000 in
theorem dL_law_718 : decode code 718 = .ok (.iconst 1, 1) := dl_2_ok (718, (.iconst 1, 1)) (List.mem_of_getElem? (i := 80) rfl)
set_option maxRecDepth 100000 in
theorem dL_law_719 : decode code 719 = .ok (.iadd, 1) := dl_2_ok (719, (.iadd, 1)) (List.mem_of_getElem? (i := 81) rfl)
set_option maxRecDepth 100000 in
theorem dL_law_720 : decode code 720 = .ok (.iaload, 1) := dl_2_ok (720, (.iaload, 1)) (List.mem_of_getElem? (i := 82) rfl)
set_option maxRecDepth 100000 in
theorem dL_law_721 : decode code 721 = .ok (.aload_n 0, 1) := dl_2_ok (721, (.aload_n 0, 1)) (List.mem_of_getElem? (i := 83) rfl)
set_option maxRecDepth 100000 in
theorem dL_law_722 : decode code 722 = .ok (.iload_n 3, 1) := dl_2_ok (722, (.iload_n 3, 1)) (List.mem_of_getElem? (i := 84) rfl)
set_option maxRecDepth 100000 in
theorem dL_law_723 : decode code 723 = .ok (.iconst 2, 1) := dl_2_ok (723, (.iconst 2, 1)) (List.mem_of_getElem? (i := 85) rfl)
set_option maxRecDepth 100000 in
theorem dL_law_724 : decode code 724 = .ok (.iadd, 1) := dl_2_ok (724, (.iadd, 1)) (List.mem_of_getElem? (i := 86) rfl)
set_option maxRecDepth 100000 in
theorem dL_law_725 : decode code 725 = .ok (.iaload, 1) := dl_2_ok (725, (.iaload, 1)) (List.mem_of_getElem? (i := 87) rfl)
set_option maxRecDepth 100000 in
theorem dL_law_726 : decode code 726 = .ok (.aload_n 0, 1) := dl_2_ok (726, (.aload_n 0, 1)) (List.mem_of_getElem? (i := 88) rfl)
set_option maxRecDepth 100000 in
theorem dL_law_727 : decode code 727 = .ok (.iload_n 3, 1) := dl_2_ok (727, (.iload_n 3, 1)) (List.mem_of_getElem? (i := 89) rfl)
set_option maxRecDepth 100000 in
theorem dL_law_728 : decode code 728 = .ok (.iconst 3, 1) := dl_2_ok (728, (.iconst 3, 1)) (List.mem_of_getElem? (i := 90) rfl)
set_option maxRecDepth 100000 in
theorem dL_law_729 : decode code 729 = .ok (.iadd, 1) := dl_2_ok (729, (.iadd, 1)) (List.mem_of_getElem? (i := 91) rfl)
set_option maxRecDepth 100000 in
theorem dL_law_730 : decode code 730 = .ok (.iaload, 1) := dl_2_ok (730, (.iaload, 1)) (List.mem_of_getElem? (i := 92) rfl)
set_option maxRecDepth 100000 in
theorem dL_law_731 : decode code 731 = .ok (.invokevirtual 66, 3) := dl_2_ok (731, (.invokevirtual 66, 3)) (List.mem_of_getElem? (i := 93) rfl)
set_option maxRecDepth 100000 in
theorem dL_law_734 : decode code 734 = .ok (.pop2, 1) := dl_2_ok (734, (.pop2, 1)) (List.mem_of_getElem? (i := 94) rfl)
set_option maxRecDepth 100000 in
theorem dL_law_735 : decode code 735 = .ok (.goto 1925, 3) := dl_2_ok (735, (.goto 1925, 3)) (List.mem_of_getElem? (i := 95) rfl)
set_option maxRecDepth 100000 in
theorem dL_law_738 : decode code 738 = .ok (.aload_n 1, 1) := dl_2_ok (738, (.aload_n 1, 1)) (List.mem_of_getElem? (i := 96) rfl)
set_option maxRecDepth 100000 in
theorem dL_law_739 : decode code 739 = .ok (.aload_n 0, 1) := dl_2_ok (739, (.aload_n 0, 1)) (List.mem_of_getElem? (i := 97) rfl)
set_option maxRecDepth 100000 in
theorem dL_law_740 : decode code 740 = .ok (.iload_n 3, 1) := dl_2_ok (740, (.iload_n 3, 1)) (List.mem_of_getElem? (i := 98) rfl)
set_option maxRecDepth 100000 in
theorem dL_law_741 : decode code 741 = .ok (.iconst 1, 1) := dl_2_ok (741, (.iconst 1, 1)) (List.mem_of_getElem? (i := 99) rfl)
