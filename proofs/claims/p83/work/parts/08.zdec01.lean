def dl_0 : List (Nat × (Instr × Nat)) := [(0, (.new 7, 3)), (3, (.dup, 1)), (4, (.invokespecial 9, 3)), (7, (.astore_n 1, 1)), (8, (.new 10, 3)), (11, (.dup, 1)), (12, (.invokespecial 12, 3)), (15, (.astore_n 2, 1)), (17, (.istore_n 3, 1)), (20, (.arraylength, 1)), (21, (.bipush 6, 2)), (23, (.isub, 1)), (24, (.if_icmp .gt 2642, 3)), (30, (.bipush 127, 2)), (32, (.iand, 1)), (33, (.tableswitch 2627 0 85 #[359, 422, 445, 458, 481, 514, 527, 540, 573, 596, 629, 662, 705, 738, 781, 824, 847, 870, 893, 916, 939, 962, 985, 1008, 1021, 1034, 1047, 1060, 1083, 1116, 1129, 1162, 1175, 1198, 1211, 1234, 1257, 1290, 1323, 1346, 1369, 1392, 1405, 1418, 1431, 1454, 1487, 1510, 1533, 1556, 1569, 1582, 1605, 1618, 1641, 1664, 1677, 1690, 1723, 1756, 1789, 1822, 1855, 1878, 1901, 1924, 1947, 1960, 1983, 2016, 2049, 2102, 2145, 2178, 2211, 2244, 2257, 2270, 2303, 2346, 2379, 2402, 2425, 2448, 2491, 2564], 359)), (2453, (.if_icmp .eq 207, 3)), (2457, (.ireturn, 1)), (2541, (.bipush 32, 2)), (2550, (.ldc2_w 357, 3)), (2576, (.bipush 32, 2)), (2585, (.ldc2_w 357, 3)), (2660, (.iinc 3 6, 3)), (2667, (.ireturn, 1))]
set_option maxRecDepth 100000 in
theorem dl_0_ok : ∀ x ∈ dl_0, decode code x.1 = .ok x.2 := by decide +kernel
set_option maxRecDepth 100000 in
theorem dL_law_0 : decode code 0 = .ok (.new 7, 3) := dl_0_ok (0, (.new 7, 3)) (List.mem_of_getElem? (i := 0) rfl)
set_option maxRecDepth 100000 in
theorem dL_law_3 : decode code 3 = .ok (.dup, 1) := dl_0_ok (3, (.dup, 1)) (List.mem_of_getElem? (i := 1) rfl)
set_option maxRecDepth 100000 in
theorem dL_law_4 : decode code 4 = .ok (.invokespecial 9, 3) := dl_0_ok (4, (.invokespecial 9, 3)) (List.mem_of_getElem? (i := 2) rfl)
set_option maxRecDepth 100000 in
theorem dL_law_7 : decode code 7 = .ok (.astore_n 1, 1) := dl_0_ok (7, (.astore_n 1, 1)) (List.mem_of_getElem? (i := 3) rfl)
set_option maxRecDepth 100000 in
theorem dL_law_8 : decode code 8 = .ok (.new 10, 3) := dl_0_ok (8, (.new 10, 3)) (List.mem_of_getElem? (i := 4) rfl)
set_option maxRecDepth 100000 in
theorem dL_law_11 : decode code 11 = .ok (.dup, 1) := dl_0_ok (11, (.dup, 1)) (List.mem_of_getElem? (i := 5) rfl)
set_option maxRecDepth 100000 in
theorem dL_law_12 : decode code 12 = .ok (.invokespecial 12, 3) := dl_0_ok (12, (.invokespecial 12, 3)) (List.mem_of_getElem? (i := 6) rfl)
set_option maxRecDepth 100000 in
theorem dL_law_15 : decode code 15 = .ok (.astore_n 2, 1) := dl_0_ok (15, (.astore_n 2, 1)) (List.mem_of_getElem? (i := 7) rfl)
set_option maxRecDepth 100000 in
theorem dL_law_17 : decode code 17 = .ok (.istore_n 3, 1) := dl_0_ok (17, (.istore_n 3, 1)) (List.mem_of_getElem? (i := 8) rfl)
set_option maxRecDepth 100000 in
theorem dL_law_20 : decode code 20 = .ok (.arraylength, 1) := dl_0_ok (20, (.arraylength, 1)) (List.mem_of_getElem? (i := 9) rfl)
set_option maxRecDepth 100000 in
theorem dL_law_21 : decode code 21 = .ok (.bipush 6, 2) := dl_0_ok (21, (.bipush 6, 2)) (List.mem_of_getElem? (i := 10) rfl)
set_option maxRecDepth 100000 in
theorem dL_law_23 : decode code 23 = .ok (.isub, 1) := dl_0_ok (23, (.isub, 1)) (List.mem_of_getElem? (i := 11) rfl)
set_option maxRecDepth 100000 in
theorem dL_law_24 : decode code 24 = .ok (.if_icmp .gt 2642, 3) := dl_0_ok (24, (.if_icmp .gt 2642, 3)) (List.mem_of_getElem? (i := 12) rfl)
set_option maxRecDepth 100000 in
theorem dL_law_30 : decode code 30 = .ok (.bipush 127, 2) := dl_0_ok (30, (.bipush 127, 2)) (List.mem_of_getElem? (i := 13) rfl)
set_option maxRecDepth 100000 in
theorem dL_law_32 : decode code 32 = .ok (.iand, 1) := dl_0_ok (32, (.iand, 1)) (List.mem_of_getElem? (i := 14) rfl)
set_option maxRecDepth 100000 in
theorem dL_law_33 : decode code 33 = .ok (.tableswitch 2627 0 85 #[359, 422, 445, 458, 481, 514, 527, 540, 573, 596, 629, 662, 705, 738, 781, 824, 847, 870, 893, 916, 939, 962, 985, 1008, 1021, 1034, 1047, 1060, 1083, 1116, 1129, 1162, 1175, 1198, 1211, 1234, 1257, 1290, 1323, 1346, 1369, 1392, 1405, 1418, 1431, 1454, 1487, 1510, 1533, 1556, 1569, 1582, 1605, 1618, 1641, 1664, 1677, 1690, 1723, 1756, 1789, 1822, 1855, 1878, 1901, 1924, 1947, 1960, 1983, 2016, 2049, 2102, 2145, 2178, 2211, 2244, 2257, 2270, 2303, 2346, 2379, 2402, 2425, 2448, 2491, 2564], 359) := dl_0_ok (33, (.tableswitch 2627 0 85 #[359, 422, 445, 458, 481, 514, 527, 540, 573, 596, 629, 662, 705, 738, 781, 824, 847, 870, 893, 916, 939, 962, 985, 1008, 1021, 1034, 1047, 1060, 1083, 1116, 1129, 1162, 1175, 1198, 1211, 1234, 1257, 1290, 1323, 1346, 1369, 1392, 1405, 1418, 1431, 1454, 1487, 1510, 1533, 1556, 1569, 1582, 1605, 1618, 1641, 1664, 1677, 1690, 1723, 1756, 1789, 1822, 1855, 1878, 1901, 1924, 1947, 1960, 1983, 2016, 2049, 2102, 2145, 2178, 2211, 2244, 2257, 2270, 2303, 2346, 2379, 2402, 2425, 2448, 2491, 2564], 359)) (List.mem_of_getElem? (i := 15) rfl)
set_option maxRecDepth 100000 in
theorem dL_law_2453 : decode code 2453 = .ok (.if_icmp .eq 207, 3) := dl_0_ok (2453, (.if_icmp .eq 207, 3)) (List.mem_of_getElem? (i := 16) rfl)
set_option maxRecDepth 100000 in
theorem dL_law_2457 : decode code 2457 = .ok (.ireturn, 1) := dl_0_ok (2457, (.ireturn, 1)) (List.mem_of_getElem? (i := 17) rfl)
set_option maxRecDepth 100000 in
theorem dL_law_2541 : decode code 2541 = .ok (.bipush 32, 2) := dl_0_ok (2541, (.bipush 32, 2)) (List.mem_of_getElem? (i := 18) rfl)
set_option maxRecDepth 100000 in
theorem dL_law_2550 : decode code 2550 = .ok (.ldc2_w 357, 3) := dl_0_ok (2550, (.ldc2_w 357, 3)) (List.mem_of_getElem? (i := 19) rfl)
set_option maxRecDepth 100000 in
theorem dL_law_2576 : decode code 2576 = .ok (.bipush 32, 2) := dl_0_ok (2576, (.bipush 32, 2)) (List.mem_of_getElem? (i := 20) rfl)
set_option maxRecDepth 100000 in
theorem dL_law_2585 : decode code 2585 = .ok (.ldc2_w 357, 3) := dl_0_ok (2585, (.ldc2_w 357, 3)) (List.mem_of_getElem? (i := 21) rfl)
set_option maxRecDepth 100000 in
theorem dL_law_2660 : decode code 2660 = .ok (.iinc 3 6, 3) := dl_0_ok (2660, (.iinc 3 6, 3)) (List.mem_of_getElem? (i := 22) rfl)
set_option maxRecDepth 100000 in
theorem dL_law_2667 : decode code 2667 = .ok (.ireturn, 1) := dl_0_ok (2667, (.ireturn, 1)) (List.mem_of_getElem? (i := 23) rfl)
