def dl_12 : List (Nat × (Instr × Nat)) := [(1960, (.iconst 1, 1)), (1961, (.iadd, 1)), (1962, (.iaload, 1)), (1963, (.invokevirtual 279, 3)), (1966, (.pop, 1)), (1967, (.aload_n 2, 1)), (1968, (.aload_n 0, 1)), (1969, (.iload_n 3, 1)), (1970, (.iconst 1, 1)), (1971, (.iadd, 1)), (1972, (.iaload, 1)), (1973, (.invokevirtual 282, 3)), (1976, (.pop, 1)), (1977, (.goto 683, 3)), (1980, (.aload_n 1, 1)), (1981, (.invokevirtual 283, 3)), (1984, (.pop, 1)), (1985, (.aload_n 2, 1)), (1986, (.invokevirtual 286, 3)), (1989, (.pop, 1)), (1990, (.goto 670, 3)), (1993, (.aload_n 1, 1)), (1994, (.aload_n 0, 1)), (1995, (.iload_n 3, 1)), (1996, (.iconst 1, 1)), (1997, (.iadd, 1)), (1998, (.iaload, 1)), (1999, (.invokevirtual 287, 3)), (2002, (.pop, 1)), (2003, (.aload_n 2, 1)), (2004, (.aload_n 0, 1)), (2005, (.iload_n 3, 1)), (2006, (.iconst 1, 1)), (2007, (.iadd, 1)), (2008, (.iaload, 1)), (2009, (.invokevirtual 290, 3)), (2012, (.pop, 1)), (2013, (.goto 647, 3)), (2016, (.aload_n 1, 1)), (2017, (.aload_n 0, 1)), (2018, (.iload_n 3, 1)), (2019, (.iconst 1, 1)), (2020, (.iadd, 1)), (2021, (.iaload, 1)), (2022, (.aload_n 0, 1)), (2023, (.iload_n 3, 1)), (2024, (.iconst 2, 1)), (2025, (.iadd, 1)), (2026, (.iaload, 1)), (2027, (.invokevirtual 291, 3)), (2030, (.pop, 1)), (2031, (.aload_n 2, 1)), (2032, (.aload_n 0, 1)), (2033, (.iload_n 3, 1)), (2034, (.iconst 1, 1)), (2035, (.iadd, 1)), (2036, (.iaload, 1)), (2037, (.aload_n 0, 1)), (2038, (.iload_n 3, 1)), (2039, (.iconst 2, 1)), (2040, (.iadd, 1)), (2041, (.iaload, 1)), (2042, (.invokevirtual 294, 3)), (2045, (.pop, 1)), (2046, (.goto 614, 3)), (2049, (.aload_n 1, 1)), (2050, (.aload_n 0, 1)), (2051, (.iload_n 3, 1)), (2052, (.iconst 1, 1)), (2053, (.iadd, 1)), (2054, (.iaload, 1)), (2055, (.aload_n 0, 1)), (2056, (.iload_n 3, 1)), (2057, (.iconst 2, 1)), (2058, (.iadd, 1)), (2059, (.iaload, 1)), (2060, (.invokevirtual 295, 3)), (2063, (.pop, 1)), (2064, (.aload_n 2, 1)), (2065, (.aload_n 0, 1)), (2066, (.iload_n 3, 1)), (2067, (.iconst 1, 1)), (2068, (.iadd, 1)), (2069, (.iaload, 1)), (2070, (.aload_n 0, 1)), (2071, (.iload_n 3, 1)), (2072, (.iconst 2, 1)), (2073, (.iadd, 1)), (2074, (.iaload, 1)), (2075, (.invokevirtual 298, 3)), (2078, (.pop, 1)), (2079, (.goto 581, 3)), (2082, (.aload_n 1, 1)), (2083, (.aload_n 0, 1)), (2084, (.iload_n 3, 1)), (2085, (.iconst 1, 1)), (2086, (.iadd, 1)), (2087, (.iaload, 1)), (2088, (.aload_n 0, 1)), (2089, (.iload_n 3, 1))]
set_option maxRecDepth 100000 in
theorem dl_12_ok : ∀ x ∈ dl_12, decode code x.1 = .ok x.2 := by decide +kernel
set_option maxRecDepth 100000 in
theorem dL_law_1960 : decode code 1960 = .ok (.iconst 1, 1) := dl_12_ok (1960, (.iconst 1, 1)) (List.mem_of_getElem? (i := 0) rfl)
set_option maxRecDepth 100000 in
theorem dL_law_1961 : decode code 1961 = .ok (.iadd, 1) := dl_12_ok (1961, (.iadd, 1)) (List.mem_of_getElem? (i := 1) rfl)
set_option maxRecDepth 100000 in
theorem dL_law_1962 : decode code 1962 = .ok (.iaload, 1) := dl_12_ok (1962, (.iaload, 1)) (List.mem_of_getElem? (i := 2) rfl)
set_option maxRecDepth 100000 in
theorem dL_law_1963 : decode code 1963 = .ok (.invokevirtual 279, 3) := dl_12_ok (1963, (.invokevirtual 279, 3)) (List.mem_of_getElem? (i := 3) rfl)
set_option maxRecDepth 100000 in
theorem dL_law_1966 : decode code 1966 = .ok (.pop, 1) := dl_12_ok (1966, (.pop, 1)) (List.mem_of_getElem? (i := 4) rfl)
set_option maxRecDepth 100000 in
theorem dL_law_1967 : decode code 1967 = .ok (.aload_n 2, 1) := dl_12_ok (1967, (.aload_n 2, 1)) (List.mem_of_getElem? (i := 5) rfl)
set_option maxRecDepth 100000 in
theorem dL_law_1968 : decode code 1968 = .ok (.aload_n 0, 1) := dl_12_ok (1968, (.aload_n 0, 1)) (List.mem_of_getElem? (i := 6) rfl)
set_option maxRecDepth 100000 in
theorem dL_law_1969 : decode code 1969 = .ok (.iload_n 3, 1) := dl_12_ok (1969, (.iload_n 3, 1)) (List.mem_of_getElem? (i := 7) rfl)
set_option maxRecDepth 100000 in
theorem dL_law_1970 : decode code 1970 = .ok (.iconst 1, 1) := dl_12_ok (1970, (.iconst 1, 1)) (List.mem_of_getElem? (i := 8) rfl)
set_option maxRecDepth 100000 in
theorem dL_law_1971 : decode code 1971 = .ok (.iadd, 1) := dl_12_ok (1971, (.iadd, 1)) (List.mem_of_getElem? (i := 9) rfl)
set_option maxRecDepth 100000 in
theorem dL_law_1972 : decode code 1972 = .ok (.iaload, 1) := dl_12_ok (1972, (.iaload, 1)) (List.mem_of_getElem? (i := 10) rfl)
set_option maxRecDepth 100000 in
theorem dL_law_1973 : decode code 1973 = .ok (.invokevirtual 282, 3) := dl_12_ok (1973, (.invokevirtual 282, 3)) (List.mem_of_getElem? (i := 11) rfl)
set_option maxRecDepth 100000 in
theorem dL_law_1976 : decode code 1976 = .ok (.pop, 1) := dl_12_ok (1976, (.pop, 1)) (List.mem_of_getElem? (i := 12) rfl)
set_option maxRecDepth 100000 in
theorem dL_law_1977 : decode code 1977 = .ok (.goto 683, 3) := dl_12_ok (1977, (.goto 683, 3)) (List.mem_of_getElem? (i := 13) rfl)
set_option maxRecDepth 100000 in
theorem dL_law_1980 : decode code 1980 = .ok (.aload_n 1, 1) := dl_12_ok (1980, (.aload_n 1, 1)) (List.mem_of_getElem? (i := 14) rfl)
set_option maxRecDepth 100000 in
theorem dL_law_1981 : decode code 1981 = .ok (.invokevirtual 283, 3) := dl_12_ok (1981, (.invokevirtual 283, 3)) (List.mem_of_getElem? (i := 15) rfl)
set_option maxRecDepth 100000 in
theorem dL_law_1984 : decode code 1984 = .ok (.pop, 1) := dl_12_ok (1984, (.pop, 1)) (List.mem_of_getElem? (i := 16) rfl)
set_option maxRecDepth 100000 in
theorem dL_law_1985 : decode code 1985 = .ok (.aload_n 2, 1) := dl_12_ok (1985, (.aload_n 2, 1)) (List.mem_of_getElem? (i := 17) rfl)
set_option maxRecDepth 100000 in
theorem dL_law_1986 : decode code 1986 = .ok (.invokevirtual 286, 3) := dl_12_ok (1986, (.invokevirtual 286, 3)) (List.mem_of_getElem? (i := 18) rfl)
set_option maxRecDepth 100000 in
theorem dL_law_1989 : decode code 1989 = .ok (.pop, 1) := dl_12_ok (1989, (.pop, 1)) (List.mem_of_getElem? (i := 19) rfl)
set_option maxRecDepth 100000 in
theorem dL_law_1990 : decode code 1990 = .ok (.goto 670, 3) := dl_12_ok (1990, (.goto 670, 3)) (List.mem_of_getElem? (i := 20) rfl)
set_option maxRecDepth 100000 in
theorem dL_law_1993 : decode code 1993 = .ok (.aload_n 1, 1) := dl_12_ok (1993, (.aload_n 1, 1)) (List.mem_of_getElem? (i := 21) rfl)
set_option maxRecDepth 100000 in
theorem dL_law_1994 : decode code 1994 = .ok (.aload_n 0, 1) := dl_12_ok (1994, (.aload_n 0, 1)) (List.mem_of_getElem? (i := 22) rfl)
set_option maxRecDepth 100000 in
theorem dL_law_1995 : decode code 1995 = .ok (.iload_n 3, 1) := dl_12_ok (1995, (.iload_n 3, 1)) (List.mem_of_getElem? (i := 23) rfl)
set_option maxRecDepth 100000 in
theorem dL_law_1996 : decode code 1996 = .ok (.iconst 1, 1) := dl_12_ok (1996, (.iconst 1, 1)) (List.mem_of_getElem? (i := 24) rfl)
set_option maxRecDepth 100000 in
theorem dL_law_1997 : decode code 1997 = .ok (.iadd, 1) := dl_12_ok (1997, (.iadd, 1)) (List.mem_of_getElem? (i := 25) rfl)
set_option maxRecDepth 100000 in
theorem dL_law_1998 : decode code 1998 = .ok (.iaload, 1) := dl_12_ok (1998, (.iaload, 1)) (List.mem_of_getElem? (i := 26) rfl)
set_option maxRecDepth 100000 in
theorem dL_law_1999 : decode code 1999 = .ok (.invokevirtual 287, 3) := dl_12_ok (1999, (.invokevirtual 287, 3)) (List.mem_of_getElem? (i := 27) rfl)
set_option maxRecDepth 100000 in
theorem dL_law_2002 : decode code 2002 = .ok (.pop, 1) := dl_12_ok (2002, (.pop, 1)) (List.mem_of_getElem? (i := 28) rfl)
set_option maxRecDepth 100000 in
theorem dL_law_2003 : decode code 2003 = .ok (.aload_n 2, 1) := dl_12_ok (2003, (.aload_n 2, 1)) (List.mem_of_getElem? (i := 29) rfl)
set_option maxRecDepth 100000 in
theorem dL_law_2004 : decode code 2004 = .ok (.aload_n 0, 1) := dl_12_ok (2004, (.aload_n 0, 1)) (List.mem_of_getElem? (i := 30) rfl)
set_option maxRecDepth 100000 in
theorem dL_law_2005 : decode code 2005 = .ok (.iload_n 3, 1) := dl_12_ok (2005, (.iload_n 3, 1)) (List.mem_of_getElem? (i := 31) rfl)
set_option maxRecDepth 100000 in
theorem dL_law_2006 : decode code 2006 = .ok (.iconst 1, 1) := dl_12_ok (2006, (.iconst 1, 1)) (List.mem_of_getElem? (i := 32) rfl)
set_option maxRecDepth 100000 in
theorem dL_law_2007 : decode code 2007 = .ok (.iadd, 1) := dl_12_ok (2007, (.iadd, 1)) (List.mem_of_getElem? (i := 33) rfl)
set_option maxRecDepth 100000 in
theorem dL_law_2008 : decode code 2008 = .ok (.iaload, 1) := dl_12_ok (2008, (.iaload, 1)) (List.mem_of_getElem? (i := 34) rfl)
set_option maxRecDepth 100000 in
theorem dL_law_2009 : decode code 2009 = .ok (.invokevirtual 290, 3) := dl_12_ok (2009, (.invokevirtual 290, 3)) (List.mem_of_getElem? (i := 35) rfl)
set_option maxRecDepth 100000 in
theorem dL_law_2012 : decode code 2012 = .ok (.pop, 1) := dl_12_ok (2012, (.pop, 1)) (List.mem_of_getElem? (i := 36) rfl)
set_option maxRecDepth 100000 in
theorem dL_law_2013 : decode code 2013 = .ok (.goto 647, 3) := dl_12_ok (2013, (.goto 647, 3)) (List.mem_of_getElem? (i := 37) rfl)
set_option maxRecDepth 100000 in
theorem dL_law_2016 : decode code 2016 = .ok (.aload_n 1, 1) := dl_12_ok (2016, (.aload_n 1, 1)) (List.mem_of_getElem? (i := 38) rfl)
set_option maxRecDepth 100000 in
theorem dL_law_2017 : decode code 2017 = .ok (.aload_n 0, 1) := dl_12_ok (2017, (.aload_n 0, 1)) (List.mem_of_getElem? (i := 39) rfl)
set_option maxRecDepth 100000 in
theorem dL_law_2018 : decode code 2018 = .ok (.iload_n 3, 1) := dl_12_ok (2018, (.iload_n 3, 1)) (List.mem_of_getElem? (i := 40) rfl)
set_option maxRecDepth 100000 in
theorem dL_law_2019 : decode code 2019 = .ok (.iconst 1, 1) := dl_12_ok (2019, (.iconst 1, 1)) (List.mem_of_getElem? (i := 41) rfl)
set_option maxRecDepth 100000 in
theorem dL_law_2020 : decode code 2020 = .ok (.iadd, 1) := dl_12_ok (2020, (.iadd, 1)) (List.mem_of_getElem? (i := 42) rfl)
set_option maxRecDepth 100000 in
theorem dL_law_2021 : decode code 2021 = .ok (.iaload, 1) := dl_12_ok (2021, (.iaload, 1)) (List.mem_of_getElem? (i := 43) rfl)
set_option maxRecDepth 100000 in
theorem dL_law_2022 : decode code 2022 = .ok (.aload_n 0, 1) := dl_12_ok (2022, (.aload_n 0, 1)) (List.mem_of_getElem? (i := 44) rfl)
set_option maxRecDepth 100000 in
theorem dL_law_2023 : decode code 2023 = .ok (.iload_n 3, 1) := dl_12_ok (2023, (.iload_n 3, 1)) (List.mem_of_getElem? (i := 45) rfl)
set_option maxRecDepth 100000 in
theorem dL_law_2024 : decode code 2024 = .ok (.iconst 2, 1) := dl_12_ok (2024, (.iconst 2, 1)) (List.mem_of_getElem? (i := 46) rfl)
set_option maxRecDepth 100000 in
theorem dL_law_2025 : decode code 2025 = .ok (.iadd, 1) := dl_12_ok (2025, (.iadd, 1)) (List.mem_of_getElem? (i := 47) rfl)
set_option maxRecDepth 100000 in
theorem dL_law_2026 : decode code 2026 = .ok (.iaload, 1) := dl_12_ok (2026, (.iaload, 1)) (List.mem_of_getElem? (i := 48) rfl)
set_option maxRecDepth 100000 in
theorem dL_law_2027 : decode code 2027 = .ok (.invokevirtual 291, 3) := dl_12_ok (2027, (.invokevirtual 291, 3)) (List.mem_of_getElem? (i := 49) rfl)
set_option maxRecDepth 100000 in
theorem dL_law_2030 : decode code 2030 = .ok (.pop, 1) := dl_12_ok (2030, (.pop, 1)) (List.mem_of_getElem? (i := 50) rfl)
set_option maxRecDepth 100000 in
theorem dL_law_2031 : decode code 2031 = .ok (.aload_n 2, 1) := dl_12_ok (2031, (.aload_n 2, 1)) (List.mem_of_getElem? (i := 51) rfl)
set_option maxRecDepth 100000 in
theorem dL_law_2032 : decode code 2032 = .ok (.aload_n 0, 1) := dl_12_ok (2032, (.aload_n 0, 1)) (List.mem_of_getElem? (i := 52) rfl)
set_option maxRecDepth 100000 in
theorem dL_law_2033 : decode code 2033 = .ok (.iload_n 3, 1) := dl_12_ok (2033, (.iload_n 3, 1)) (List.mem_of_getElem? (i := 53) rfl)
set_option maxRecDepth 100000 in
theorem dL_law_2034 : decode code 2034 = .ok (.iconst 1, 1) := dl_12_ok (2034, (.iconst 1, 1)) (List.mem_of_getElem? (i := 54) rfl)
set_option maxRecDepth 100000 in
theorem dL_law_2035 : decode code 2035 = .ok (.iadd, 1) := dl_12_ok (2035, (.iadd, 1)) (List.mem_of_getElem? (i := 55) rfl)
set_option maxRecDepth 100000 in
theorem dL_law_2036 : decode code 2036 = .ok (.iaload, 1) := dl_12_ok (2036, (.iaload, 1)) (List.mem_of_getElem? (i := 56) rfl)
set_option maxRecDepth 100000 in
theorem dL_law_2037 : decode code 2037 = .ok (.aload_n 0, 1) := dl_12_ok (2037, (.aload_n 0, 1)) (List.mem_of_getElem? (i := 57) rfl)
set_option maxRecDepth 100000 in
theorem dL_law_2038 : decode code 2038 = .ok (.iload_n 3, 1) := dl_12_ok (2038, (.iload_n 3, 1)) (List.mem_of_getElem? (i := 58) rfl)
set_option maxRecDepth 100000 in
theorem dL_law_2039 : decode code 2039 = .ok (.iconst 2, 1) := dl_12_ok (2039, (.iconst 2, 1)) (List.mem_of_getElem? (i := 59) rfl)
set_option maxRecDepth 100000 in
theorem dL_law_2040 : decode code 2040 = .ok (.iadd, 1) := dl_12_ok (2040, (.iadd, 1)) (List.mem_of_getElem? (i := 60) rfl)
set_option maxRecDepth 100000 in
theorem dL_law_2041 : decode code 2041 = .ok (.iaload, 1) := dl_12_ok (2041, (.iaload, 1)) (List.mem_of_getElem? (i := 61) rfl)
set_option maxRecDepth 100000 in
theorem dL_law_2042 : decode code 2042 = .ok (.invokevirtual 294, 3) := dl_12_ok (2042, (.invokevirtual 294, 3)) (List.mem_of_getElem? (i := 62) rfl)
set_option maxRecDepth 100000 in
theorem dL_law_2045 : decode code 2045 = .ok (.pop, 1) := dl_12_ok (2045, (.pop, 1)) (List.mem_of_getElem? (i := 63) rfl)
set_option maxRecDepth 100000 in
theorem dL_law_2046 : decode code 2046 = .ok (.goto 614, 3) := dl_12_ok (2046, (.goto 614, 3)) (List.mem_of_getElem? (i := 64) rfl)
set_option maxRecDepth 100000 in
theorem dL_law_2049 : decode code 2049 = .ok (.aload_n 1, 1) := dl_12_ok (2049, (.aload_n 1, 1)) (List.mem_of_getElem? (i := 65) rfl)
set_option maxRecDepth 100000 in
theorem dL_law_2050 : decode code 2050 = .ok (.aload_n 0, 1) := dl_12_ok (2050, (.aload_n 0, 1)) (List.mem_of_getElem? (i := 66) rfl)
set_option maxRecDepth 100000 in
theorem dL_law_2051 : decode code 2051 = .ok (.iload_n 3, 1) := dl_12_ok (2051, (.iload_n 3, 1)) (List.mem_of_getElem? (i := 67) rfl)
set_option maxRecDepth 100000 in
theorem dL_law_2052 : decode code 2052 = .ok (.iconst 1, 1) := dl_12_ok (2052, (.iconst 1, 1)) (List.mem_of_getElem? (i := 68) rfl)
set_option maxRecDepth 100000 in
theorem dL_law_2053 : decode code 2053 = .ok (.iadd, 1) := dl_12_ok (2053, (.iadd, 1)) (List.mem_of_getElem? (i := 69) rfl)
set_option maxRecDepth 100000 in
theorem dL_law_2054 : decode code 2054 = .ok (.iaload, 1) := dl_12_ok (2054, (.iaload, 1)) (List.mem_of_getElem? (i := 70) rfl)
set_option maxRecDepth 100000 in
theorem dL_law_2055 : decode code 2055 = .ok (.aload_n 0, 1) := dl_12_ok (2055, (.aload_n 0, 1)) (List.mem_of_getElem? (i := 71) rfl)
set_option maxRecDepth 100000 in
theorem dL_law_2056 : decode code 2056 = .ok (.iload_n 3, 1) := dl_12_ok (2056, (.iload_n 3, 1)) (List.mem_of_getElem? (i := 72) rfl)
set_option maxRecDepth 100000 in
theorem dL_law_2057 : decode code 2057 = .ok (.iconst 2, 1) := dl_12_ok (2057, (.iconst 2, 1)) (List.mem_of_getElem? (i := 73) rfl)
set_option maxRecDepth 100000 in
theorem dL_law_2058 : decode code 2058 = .ok (.iadd, 1) := dl_12_ok (2058, (.iadd, 1)) (List.mem_of_getElem? (i := 74) rfl)
set_option maxRecDepth 100000 in
theorem dL_law_2059 : decode code 2059 = .ok (.iaload, 1) := dl_12_ok (2059, (.iaload, 1)) (List.mem_of_getElem? (i := 75) rfl)
set_option maxRecDepth 100000 in
theorem dL_law_2060 : decode code 2060 = .ok (.invokevirtual 295, 3) := dl_12_ok (2060, (.invokevirtual 295, 3)) (List.mem_of_getElem? (i := 76) rfl)
set_option maxRecDepth 100000 in
theorem dL_law_2063 : decode code 2063 = .ok (.pop, 1) := dl_12_ok (2063, (.pop, 1)) (List.mem_of_getElem? (i := 77) rfl)
set_option maxRecDepth 100000 in
theorem dL_law_2064 : decode code 2064 = .ok (.aload_n 2, 1) := dl_12_ok (2064, (.aload_n 2, 1)) (List.mem_of_getElem? (i := 78) rfl)
set_option maxRecDepth 100000 in
theorem dL_law_2065 : decode code 2065 = .ok (.aload_n 0, 1) := dl_12_ok (2065, (.aload_n 0, 1)) (List.mem_of_getElem? (i := 79) rfl)
set_option maxRecDepth 100000 in
theorem dL_law_2066 : decode code 2066 = .ok (.iload_n 3, 1) := dl_12_ok (2066, (.iload_n 3, 1)) (List.mem_of_getElem? (i := 80) rfl)
set_option maxRecDepth 100000 in
theorem dL_law_2067 : decode code 2067 = .ok (.iconst 1, 1) := dl_12_ok (2067, (.iconst 1, 1)) (List.mem_of_getElem? (i := 81) rfl)
set_option maxRecDepth 100000 in
theorem dL_law_2068 : decode code 2068 = .ok (.iadd, 1) := dl_12_ok (2068, (.iadd, 1)) (List.mem_of_getElem? (i := 82) rfl)
set_option maxRecDepth 100000 in
theorem dL_law_2069 : decode code 2069 = .ok (.iaload, 1) := dl_12_ok (2069, (.iaload, 1)) (List.mem_of_getElem? (i := 83) rfl)
set_option maxRecDepth 100000 in
theorem dL_law_2070 : decode code 2070 = .ok (.aload_n 0, 1) := dl_12_ok (2070, (.aload_n 0, 1)) (List.mem_of_getElem? (i := 84) rfl)
set_option maxRecDepth 100000 in
theorem dL_law_2071 : decode code 2071 = .ok (.iload_n 3, 1) := dl_12_ok (2071, (.iload_n 3, 1)) (List.mem_of_getElem? (i := 85) rfl)
set_option maxRecDepth 100000 in
theorem dL_law_2072 : decode code 2072 = .ok (.iconst 2, 1) := dl_12_ok (2072, (.iconst 2, 1)) (List.mem_of_getElem? (i := 86) rfl)
set_option maxRecDepth 100000 in
theorem dL_law_2073 : decode code 2073 = .ok (.iadd, 1) := dl_12_ok (2073, (.iadd, 1)) (List.mem_of_getElem? (i := 87) rfl)
set_option maxRecDepth 100000 in
theorem dL_law_2074 : decode code 2074 = .ok (.iaload, 1) := dl_12_ok (2074, (.iaload, 1)) (List.mem_of_getElem? (i := 88) rfl)
set_option maxRecDepth 100000 in
theorem dL_law_2075 : decode code 2075 = .ok (.invokevirtual 298, 3) := dl_12_ok (2075, (.invokevirtual 298, 3)) (List.mem_of_getElem? (i := 89) rfl)
set_option maxRecDepth 100000 in
theorem dL_law_2078 : decode code 2078 = .ok (.pop, 1) := dl_12_ok (2078, (.pop, 1)) (List.mem_of_getElem? (i := 90) rfl)
set_option maxRecDepth 100000 in
theorem dL_law_2079 : decode code 2079 = .ok (.goto 581, 3) := dl_12_ok (2079, (.goto 581, 3)) (List.mem_of_getElem? (i := 91) rfl)
set_option maxRecDepth 100000 in
theorem dL_law_2082 : decode code 2082 = .ok (.aload_n 1, 1) := dl_12_ok (2082, (.aload_n 1, 1)) (List.mem_of_getElem? (i := 92) rfl)
set_option maxRecDepth 100000 in
theorem dL_law_2083 : decode code 2083 = .ok (.aload_n 0, 1) := dl_12_ok (2083, (.aload_n 0, 1)) (List.mem_of_getElem? (i := 93) rfl)
set_option maxRecDepth 100000 in
theorem dL_law_2084 : decode code 2084 = .ok (.iload_n 3, 1) := dl_12_ok (2084, (.iload_n 3, 1)) (List.mem_of_getElem? (i := 94) rfl)
set_option maxRecDepth 100000 in
theorem dL_law_2085 : decode code 2085 = .ok (.iconst 1, 1) := dl_12_ok (2085, (.iconst 1, 1)) (List.mem_of_getElem? (i := 95) rfl)
set_option maxRecDepth 100000 in
theorem dL_law_2086 : decode code 2086 = .ok (.iadd, 1) := dl_12_ok (2086, (.iadd, 1)) (List.mem_of_getElem? (i := 96) rfl)
set_option maxRecDepth 100000 in
theorem dL_law_2087 : decode code 2087 = .ok (.iaload, 1) := dl_12_ok (2087, (.iaload, 1)) (List.mem_of_getElem? (i := 97) rfl)
set_option maxRecDepth 100000 in
theorem dL_law_2088 : decode code 2088 = .ok (.aload_n 0, 1) := dl_12_ok (2088, (.aload_n 0, 1)) (List.mem_of_getElem? (i := 98) rfl)
set_option maxRecDepth 100000 in
theorem dL_law_2089 : decode code 2089 = .ok (.iload_n 3, 1) := dl_12_ok (2089, (.iload_n 3, 1)) (List.mem_of_getElem? (i := 99) rfl)
def dl_13 : List (Nat × (Instr × Nat)) := [(2090, (.iconst 2, 1)), (2091, (.iadd, 1)), (2092, (.iaload, 1)), (2093, (.aload_n 0, 1)), (2094, (.iload_n 3, 1)), (2095, (.iconst 3, 1)), (2096, (.iadd, 1)), (2097, (.iaload, 1)), (2098, (.aload_n 0, 1)), (2099, (.iload_n 3, 1)), (2100, (.iconst 4, 1)), (2101, (.iadd, 1)), (2102, (.iaload, 1)), (2103, (.invokevirtual 299, 3)), (2106, (.pop, 1)), (2107, (.aload_n 2, 1)), (2108, (.aload_n 0, 1)), (2109, (.iload_n 3, 1)), (2110, (.iconst 1, 1)), (2111, (.iadd, 1)), (2112, (.iaload, 1)), (2113, (.aload_n 0, 1)), (2114, (.iload_n 3, 1)), (2115, (.iconst 2, 1)), (2116, (.iadd, 1)), (2117, (.iaload, 1)), (2118, (.aload_n 0, 1)), (2119, (.iload_n 3, 1)), (2120, (.iconst 3, 1)), (2121, (.iadd, 1)), (2122, (.iaload, 1)), (2123, (.aload_n 0, 1)), (2124, (.iload_n 3, 1)), (2125, (.iconst 4, 1)), (2126, (.iadd, 1)), (2127, (.iaload, 1)), (2128, (.invokevirtual 303, 3)), (2131, (.pop, 1)), (2132, (.goto 528, 3)), (2135, (.aload_n 1, 1)), (2136, (.aload_n 0, 1)), (2137, (.iload_n 3, 1)), (2138, (.iconst 1, 1)), (2139, (.iadd, 1)), (2140, (.iaload, 1)), (2141, (.aload_n 0, 1)), (2142, (.iload_n 3, 1)), (2143, (.iconst 2, 1)), (2144, (.iadd, 1)), (2145, (.iaload, 1)), (2146, (.aload_n 0, 1)), (2147, (.iload_n 3, 1)), (2148, (.iconst 3, 1)), (2149, (.iadd, 1)), (2150, (.iaload, 1)), (2151, (.invokevirtual 304, 3)), (2154, (.pop, 1)), (2155, (.aload_n 2, 1)), (2156, (.aload_n 0, 1)), (2157, (.iload_n 3, 1)), (2158, (.iconst 1, 1)), (2159, (.iadd, 1)), (2160, (.iaload, 1)), (2161, (.aload_n 0, 1)), (2162, (.iload_n 3, 1)), (2163, (.iconst 2, 1)), (2164, (.iadd, 1)), (2165, (.iaload, 1)), (2166, (.aload_n 0, 1)), (2167, (.iload_n 3, 1)), (2168, (.iconst 3, 1)), (2169, (.iadd, 1)), (2170, (.iaload, 1)), (2171, (.invokevirtual 308, 3)), (2174, (.pop, 1)), (2175, (.goto 485, 3)), (2178, (.aload_n 1, 1)), (2179, (.aload_n 0, 1)), (2180, (.iload_n 3, 1)), (2181, (.iconst 1, 1)), (2182, (.iadd, 1)), (2183, (.iaload, 1)), (2184, (.aload_n 0, 1)), (2185, (.iload_n 3, 1)), (2186, (.iconst 2, 1)), (2187, (.iadd, 1)), (2188, (.iaload, 1)), (2189, (.invokevirtual 309, 3)), (2192, (.pop2, 1)), (2193, (.aload_n 2, 1)), (2194, (.aload_n 0, 1)), (2195, (.iload_n 3, 1)), (2196, (.iconst 1, 1)), (2197, (.iadd, 1)), (2198, (.iaload, 1)), (2199, (.aload_n 0, 1)), (2200, (.iload_n 3, 1)), (2201, (.iconst 2, 1)), (2202, (.iadd, 1)), (2203, (.iaload, 1))]
set_option maxRecDepth 100000 in
theorem dl_13_ok : ∀ x ∈ dl_13, decode code x.1 = .ok x.2 := by decide +kernel
set_option maxRecDepth 100000 in
theorem dL_law_2090 : decode code 2090 = .ok (.iconst 2, 1) := dl_13_ok (2090, (.iconst 2, 1)) (List.mem_of_getElem? (i := 0) rfl)
set_option maxRecDepth 100000 in
theorem dL_law_2091 : decode code 2091 = .ok (.iadd, 1) := dl_13_ok (2091, (.iadd, 1)) (List.mem_of_getElem? (i := 1) rfl)
set_option maxRecDepth 100000 in
theorem dL_law_2092 : decode code 2092 = .ok (.iaload, 1) := dl_13_ok (2092, (.iaload, 1)) (List.mem_of_getElem? (i := 2) rfl)
set_option maxRecDepth 100000 in
theorem dL_law_2093 : decode code 2093 = .ok (.aload_n 0, 1) := dl_13_ok (2093, (.aload_n 0, 1)) (List.mem_of_getElem? (i := 3) rfl)
set_option maxRecDepth 100000 in
theorem dL_law_2094 : decode code 2094 = .ok (.iload_n 3, 1) := dl_13_ok (2094, (.iload_n 3, 1)) (List.mem_of_getElem? (i := 4) rfl)
set_option maxRecDepth 100000 in
theorem dL_law_2095 : decode code 2095 = .ok (.iconst 3, 1) := dl_13_ok (2095, (.iconst 3, 1)) (List.mem_of_getElem? (i := 5) rfl)
set_option maxRecDepth 100000 in
theorem dL_law_2096 : decode code 2096 = .ok (.iadd, 1) := dl_13_ok (2096, (.iadd, 1)) (List.mem_of_getElem? (i := 6) rfl)
set_option maxRecDepth 100000 in
theorem dL_law_2097 : decode code 2097 = .ok (.iaload, 1) := dl_13_ok (2097, (.iaload, 1)) (List.mem_of_getElem? (i := 7) rfl)
set_option maxRecDepth 100000 in
theorem dL_law_2098 : decode code 2098 = .ok (.aload_n 0, 1) := dl_13_ok (2098, (.aload_n 0, 1)) (List.mem_of_getElem? (i := 8) rfl)
set_option maxRecDepth 100000 in
theorem dL_law_2099 : decode code 2099 = .ok (.iload_n 3, 1) := dl_13_ok (2099, (.iload_n 3, 1)) (List.mem_of_getElem? (i := 9) rfl)
set_option maxRecDepth 100000 in
theorem dL_law_2100 : decode code 2100 = .ok (.iconst 4, 1) := dl_13_ok (2100, (.iconst 4, 1)) (List.mem_of_getElem? (i := 10) rfl)
set_option maxRecDepth 100000 in
theorem dL_law_2101 : decode code 2101 = .ok (.iadd, 1) := dl_13_ok (2101, (.iadd, 1)) (List.mem_of_getElem? (i := 11) rfl)
set_option maxRecDepth 100000 in
theorem dL_law_2102 : decode code 2102 = .ok (.iaload, 1) := dl_13_ok (2102, (.iaload, 1)) (List.mem_of_getElem? (i := 12) rfl)
set_option maxRecDepth 100000 in
theorem dL_law_2103 : decode code 2103 = .ok (.invokevirtual 299, 3) := dl_13_ok (2103, (.invokevirtual 299, 3)) (List.mem_of_getElem? (i := 13) rfl)
set_option maxRecDepth 100000 in
theorem dL_law_2106 : decode code 2106 = .ok (.pop, 1) := dl_13_ok (2106, (.pop, 1)) (List.mem_of_getElem? (i := 14) rfl)
set_option maxRecDepth 100000 in
theorem dL_law_2107 : decode code 2107 = .ok (.aload_n 2, 1) := dl_13_ok (2107, (.aload_n 2, 1)) (List.mem_of_getElem? (i := 15) rfl)
set_option maxRecDepth 100000 in
theorem dL_law_2108 : decode code 2108 = .ok (.aload_n 0, 1) := dl_13_ok (2108, (.aload_n 0, 1)) (List.mem_of_getElem? (i := 16) rfl)
set_option maxRecDepth 100000 in
theorem dL_law_2109 : decode code 2109 = .ok (.iload_n 3, 1) := dl_13_ok (2109, (.iload_n 3, 1)) (List.mem_of_getElem? (i := 17) rfl)
set_option maxRecDepth 100000 in
theorem dL_law_2110 : decode code 2110 = .ok (.iconst 1, 1) := dl_13_ok (2110, (.iconst 1, 1)) (List.mem_of_getElem? (i := 18) rfl)
set_option maxRecDepth 100000 in
theorem dL_law_2111 : decode code 2111 = .ok (.iadd, 1) := dl_13_ok (2111, (.iadd, 1)) (List.mem_of_getElem? (i := 19) rfl)
set_option maxRecDepth 100000 in
theorem dL_law_2112 : decode code 2112 = .ok (.iaload, 1) := dl_13_ok (2112, (.iaload, 1)) (List.mem_of_getElem? (i := 20) rfl)
set_option maxRecDepth 100000 in
theorem dL_law_2113 : decode code 2113 = .ok (.aload_n 0, 1) := dl_13_ok (2113, (.aload_n 0, 1)) (List.mem_of_getElem? (i := 21) rfl)
set_option maxRecDepth 100000 in
theorem dL_law_2114 : decode code 2114 = .ok (.iload_n 3, 1) := dl_13_ok (2114, (.iload_n 3, 1)) (List.mem_of_getElem? (i := 22) rfl)
set_option maxRecDepth 100000 in
theorem dL_law_2115 : decode code 2115 = .ok (.iconst 2, 1) := dl_13_ok (2115, (.iconst 2, 1)) (List.mem_of_getElem? (i := 23) rfl)
set_option maxRecDepth 100000 in
theorem dL_law_2116 : decode code 2116 = .ok (.iadd, 1) := dl_13_ok (2116, (.iadd, 1)) (List.mem_of_getElem? (i := 24) rfl)
set_option maxRecDepth 100000 in
theorem dL_law_2117 : decode code 2117 = .ok (.iaload, 1) := dl_13_ok (2117, (.iaload, 1)) (List.mem_of_getElem? (i := 25) rfl)
set_option maxRecDepth 100000 in
theorem dL_law_2118 : decode code 2118 = .ok (.aload_n 0, 1) := dl_13_ok (2118, (.aload_n 0, 1)) (List.mem_of_getElem? (i := 26) rfl)
set_option maxRecDepth 100000 in
theorem dL_law_2119 : decode code 2119 = .ok (.iload_n 3, 1) := dl_13_ok (2119, (.iload_n 3, 1)) (List.mem_of_getElem? (i := 27) rfl)
set_option maxRecDepth 100000 in
theorem dL_law_2120 : decode code 2120 = .ok (.iconst 3, 1) := dl_13_ok (2120, (.iconst 3, 1)) (List.mem_of_getElem? (i := 28) rfl)
set_option maxRecDepth 100000 in
theorem dL_law_2121 : decode code 2121 = .ok (.iadd, 1) := dl_13_ok (2121, (.iadd, 1)) (List.mem_of_getElem? (i := 29) rfl)
set_option maxRecDepth 100000 in
theorem dL_law_2122 : decode code 2122 = .ok (.iaload, 1) := dl_13_ok (2122, (.iaload, 1)) (List.mem_of_getElem? (i := 30) rfl)
set_option maxRecDepth 100000 in
theorem dL_law_2123 : decode code 2123 = .ok (.aload_n 0, 1) := dl_13_ok (2123, (.aload_n 0, 1)) (List.mem_of_getElem? (i := 31) rfl)
set_option maxRecDepth 100000 in
theorem dL_law_2124 : decode code 2124 = .ok (.iload_n 3, 1) := dl_13_ok (2124, (.iload_n 3, 1)) (List.mem_of_getElem? (i := 32) rfl)
set_option maxRecDepth 100000 in
theorem dL_law_2125 : decode code 2125 = .ok (.iconst 4, 1) := dl_13_ok (2125, (.iconst 4, 1)) (List.mem_of_getElem? (i := 33) rfl)
set_option maxRecDepth 100000 in
theorem dL_law_2126 : decode code 2126 = .ok (.iadd, 1) := dl_13_ok (2126, (.iadd, 1)) (List.mem_of_getElem? (i := 34) rfl)
set_option maxRecDepth 100000 in
theorem dL_law_2127 : decode code 2127 = .ok (.iaload, 1) := dl_13_ok (2127, (.iaload, 1)) (List.mem_of_getElem? (i := 35) rfl)
set_option maxRecDepth 100000 in
theorem dL_law_2128 : decode code 2128 = .ok (.invokevirtual 303, 3) := dl_13_ok (2128, (.invokevirtual 303, 3)) (List.mem_of_getElem? (i := 36) rfl)
set_option maxRecDepth 100000 in
theorem dL_law_2131 : decode code 2131 = .ok (.pop, 1) := dl_13_ok (2131, (.pop, 1)) (List.mem_of_getElem? (i := 37) rfl)
set_option maxRecDepth 100000 in
theorem dL_law_2132 : decode code 2132 = .ok (.goto 528, 3) := dl_13_ok (2132, (.goto 528, 3)) (List.mem_of_getElem? (i := 38) rfl)
set_option maxRecDepth 100000 in
theorem dL_law_2135 : decode code 2135 = .ok (.aload_n 1, 1) := dl_13_ok (2135, (.aload_n 1, 1)) (List.mem_of_getElem? (i := 39) rfl)
set_option maxRecDepth 100000 in
theorem dL_law_2136 : decode code 2136 = .ok (.aload_n 0, 1) := dl_13_ok (2136, (.aload_n 0, 1)) (List.mem_of_getElem? (i := 40) rfl)
set_option maxRecDepth 100000 in
theorem dL_law_2137 : decode code 2137 = .ok (.iload_n 3, 1) := dl_13_ok (2137, (.iload_n 3, 1)) (List.mem_of_getElem? (i := 41) rfl)
set_option maxRecDepth 100000 in
theorem dL_law_2138 : decode code 2138 = .ok (.iconst 1, 1) := dl_13_ok (2138, (.iconst 1, 1)) (List.mem_of_getElem? (i := 42) rfl)
set_option maxRecDepth 100000 in
theorem dL_law_2139 : decode code 2139 = .ok (.iadd, 1) := dl_13_ok (2139, (.iadd, 1)) (List.mem_of_getElem? (i := 43) rfl)
set_option maxRecDepth 100000 in
theorem dL_law_2140 : decode code 2140 = .ok (.iaload, 1) := dl_13_ok (2140, (.iaload, 1)) (List.mem_of_getElem? (i := 44) rfl)
set_option maxRecDepth 100000 in
theorem dL_law_2141 : decode code 2141 = .ok (.aload_n 0, 1) := dl_13_ok (2141, (.aload_n 0, 1)) (List.mem_of_getElem? (i := 45) rfl)
set_option maxRecDepth 100000 in
theorem dL_law_2142 : decode code 2142 = .ok (.iload_n 3, 1) := dl_13_ok (2142, (.iload_n 3, 1)) (List.mem_of_getElem? (i := 46) rfl)
set_option maxRecDepth 100000 in
theorem dL_law_2143 : decode code 2143 = .ok (.iconst 2, 1) := dl_13_ok (2143, (.iconst 2, 1)) (List.mem_of_getElem? (i := 47) rfl)
set_option maxRecDepth 100000 in
theorem dL_law_2144 : decode code 2144 = .ok (.iadd, 1) := dl_13_ok (2144, (.iadd, 1)) (List.mem_of_getElem? (i := 48) rfl)
set_option maxRecDepth 100000 in
theorem dL_law_2145 : decode code 2145 = .ok (.iaload, 1) := dl_13_ok (2145, (.iaload, 1)) (List.mem_of_getElem? (i := 49) rfl)
set_option maxRecDepth 100000 in
theorem dL_law_2146 : decode code 2146 = .ok (.aload_n 0, 1) := dl_13_ok (2146, (.aload_n 0, 1)) (List.mem_of_getElem? (i := 50) rfl)
set_option maxRecDepth 100000 in
theorem dL_law_2147 : decode code 2147 = .ok (.iload_n 3, 1) := dl_13_ok (2147, (.iload_n 3, 1)) (List.mem_of_getElem? (i := 51) rfl)
set_option maxRecDepth 100000 in
theorem dL_law_2148 : decode code 2148 = .ok (.iconst 3, 1) := dl_13_ok (2148, (.iconst 3, 1)) (List.mem_of_getElem? (i := 52) rfl)
set_option maxRecDepth 100000 in
theorem dL_law_2149 : decode code 2149 = .ok (.iadd, 1) := dl_13_ok (2149, (.iadd, 1)) (List.mem_of_getElem? (i := 53) rfl)
set_option maxRecDepth 100000 in
theorem dL_law_2150 : decode code 2150 = .ok (.iaload, 1) := dl_13_ok (2150, (.iaload, 1)) (List.mem_of_getElem? (i := 54) rfl)
set_option maxRecDepth 100000 in
theorem dL_law_2151 : decode code 2151 = .ok (.invokevirtual 304, 3) := dl_13_ok (2151, (.invokevirtual 304, 3)) (List.mem_of_getElem? (i := 55) rfl)
set_option maxRecDepth 100000 in
theorem dL_law_2154 : decode code 2154 = .ok (.pop, 1) := dl_13_ok (2154, (.pop, 1)) (List.mem_of_getElem? (i := 56) rfl)
set_option maxRecDepth 100000 in
theorem dL_law_2155 : decode code 2155 = .ok (.aload_n 2, 1) := dl_13_ok (2155, (.aload_n 2, 1)) (List.mem_of_getElem? (i := 57) rfl)
set_option maxRecDepth 100000 in
theorem dL_law_2156 : decode code 2156 = .ok (.aload_n 0, 1) := dl_13_ok (2156, (.aload_n 0, 1)) (List.mem_of_getElem? (i := 58) rfl)
set_option maxRecDepth 100000 in
theorem dL_law_2157 : decode code 2157 = .ok (.iload_n 3, 1) := dl_13_ok (2157, (.iload_n 3, 1)) (List.mem_of_getElem? (i := 59) rfl)
set_option maxRecDepth 100000 in
theorem dL_law_2158 : decode code 2158 = .ok (.iconst 1, 1) := dl_13_ok (2158, (.iconst 1, 1)) (List.mem_of_getElem? (i := 60) rfl)
set_option maxRecDepth 100000 in
theorem dL_law_2159 : decode code 2159 = .ok (.iadd, 1) := dl_13_ok (2159, (.iadd, 1)) (List.mem_of_getElem? (i := 61) rfl)
set_option maxRecDepth 100000 in
theorem dL_law_2160 : decode code 2160 = .ok (.iaload, 1) := dl_13_ok (2160, (.iaload, 1)) (List.mem_of_getElem? (i := 62) rfl)
set_option maxRecDepth 100000 in
theorem dL_law_2161 : decode code 2161 = .ok (.aload_n 0, 1) := dl_13_ok (2161, (.aload_n 0, 1)) (List.mem_of_getElem? (i := 63) rfl)
set_option maxRecDepth 100000 in
theorem dL_law_2162 : decode code 2162 = .ok (.iload_n 3, 1) := dl_13_ok (2162, (.iload_n 3, 1)) (List.mem_of_getElem? (i := 64) rfl)
set_option maxRecDepth 100000 in
theorem dL_law_2163 : decode code 2163 = .ok (.iconst 2, 1) := dl_13_ok (2163, (.iconst 2, 1)) (List.mem_of_getElem? (i := 65) rfl)
set_option maxRecDepth 100000 in
theorem dL_law_2164 : decode code 2164 = .ok (.iadd, 1) := dl_13_ok (2164, (.iadd, 1)) (List.mem_of_getElem? (i := 66) rfl)
set_option maxRecDepth 100000 in
theorem dL_law_2165 : decode code 2165 = .ok (.iaload, 1) := dl_13_ok (2165, (.iaload, 1)) (List.mem_of_getElem? (i := 67) rfl)
set_option maxRecDepth 100000 in
theorem dL_law_2166 : decode code 2166 = .ok (.aload_n 0, 1) := dl_13_ok (2166, (.aload_n 0, 1)) (List.mem_of_getElem? (i := 68) rfl)
set_option maxRecDepth 100000 in
theorem dL_law_2167 : decode code 2167 = .ok (.iload_n 3, 1) := dl_13_ok (2167, (.iload_n 3, 1)) (List.mem_of_getElem? (i := 69) rfl)
set_option maxRecDepth 100000 in
theorem dL_law_2168 : decode code 2168 = .ok (.iconst 3, 1) := dl_13_ok (2168, (.iconst 3, 1)) (List.mem_of_getElem? (i := 70) rfl)
set_option maxRecDepth 100000 in
theorem dL_law_2169 : decode code 2169 = .ok (.iadd, 1) := dl_13_ok (2169, (.iadd, 1)) (List.mem_of_getElem? (i := 71) rfl)
set_option maxRecDepth 100000 in
theorem dL_law_2170 : decode code 2170 = .ok (.iaload, 1) := dl_13_ok (2170, (.iaload, 1)) (List.mem_of_getElem? (i := 72) rfl)
set_option maxRecDepth 100000 in
theorem dL_law_2171 : decode code 2171 = .ok (.invokevirtual 308, 3) := dl_13_ok (2171, (.invokevirtual 308, 3)) (List.mem_of_getElem? (i := 73) rfl)
set_option maxRecDepth 100000 in
theorem dL_law_2174 : decode code 2174 = .ok (.pop, 1) := dl_13_ok (2174, (.pop, 1)) (List.mem_of_getElem? (i := 74) rfl)
set_option maxRecDepth 100000 in
theorem dL_law_2175 : decode code 2175 = .ok (.goto 485, 3) := dl_13_ok (2175, (.goto 485, 3)) (List.mem_of_getElem? (i := 75) rfl)
set_option maxRecDepth 100000 in
theorem dL_law_2178 : decode code 2178 = .ok (.aload_n 1, 1) := dl_13_ok (2178, (.aload_n 1, 1)) (List.mem_of_getElem? (i := 76) rfl)
set_option maxRecDepth 100000 in
theorem dL_law_2179 : decode code 2179 = .ok (.aload_n 0, 1) := dl_13_ok (2179, (.aload_n 0, 1)) (List.mem_of_getElem? (i := 77) rfl)
set_option maxRecDepth 100000 in
theorem dL_law_2180 : decode code 2180 = .ok (.iload_n 3, 1) := dl_13_ok (2180, (.iload_n 3, 1)) (List.mem_of_getElem? (i := 78) rfl)
set_option maxRecDepth 100000 in
theorem dL_law_2181 : decode code 2181 = .ok (.iconst 1, 1) := dl_13_ok (2181, (.iconst 1, 1)) (List.mem_of_getElem? (i := 79) rfl)
set_option maxRecDepth 100000 in
theorem dL_law_2182 : decode code 2182 = .ok (.iadd, 1) := dl_13_ok (2182, (.iadd, 1)) (List.mem_of_getElem? (i := 80) rfl)
set_option maxRecDepth 100000 in
theorem dL_law_2183 : decode code 2183 = .ok (.iaload, 1) := dl_13_ok (2183, (.iaload, 1)) (List.mem_of_getElem? (i := 81) rfl)
set_option maxRecDepth 100000 in
theorem dL_law_2184 : decode code 2184 = .ok (.aload_n 0, 1) := dl_13_ok (2184, (.aload_n 0, 1)) (List.mem_of_getElem? (i := 82) rfl)
set_option maxRecDepth 100000 in
theorem dL_law_2185 : decode code 2185 = .ok (.iload_n 3, 1) := dl_13_ok (2185, (.iload_n 3, 1)) (List.mem_of_getElem? (i := 83) rfl)
set_option maxRecDepth 100000 in
theorem dL_law_2186 : decode code 2186 = .ok (.iconst 2, 1) := dl_13_ok (2186, (.iconst 2, 1)) (List.mem_of_getElem? (i := 84) rfl)
set_option maxRecDepth 100000 in
theorem dL_law_2187 : decode code 2187 = .ok (.iadd, 1) := dl_13_ok (2187, (.iadd, 1)) (List.mem_of_getElem? (i := 85) rfl)
set_option maxRecDepth 100000 in
theorem dL_law_2188 : decode code 2188 = .ok (.iaload, 1) := dl_13_ok (2188, (.iaload, 1)) (List.mem_of_getElem? (i := 86) rfl)
set_option maxRecDepth 100000 in
theorem dL_law_2189 : decode code 2189 = .ok (.invokevirtual 309, 3) := dl_13_ok (2189, (.invokevirtual 309, 3)) (List.mem_of_getElem? (i := 87) rfl)
set_option maxRecDepth 100000 in
theorem dL_law_2192 : decode code 2192 = .ok (.pop2, 1) := dl_13_ok (2192, (.pop2, 1)) (List.mem_of_getElem? (i := 88) rfl)
set_option maxRecDepth 100000 in
theorem dL_law_2193 : decode code 2193 = .ok (.aload_n 2, 1) := dl_13_ok (2193, (.aload_n 2, 1)) (List.mem_of_getElem? (i := 89) rfl)
set_option maxRecDepth 100000 in
theorem dL_law_2194 : decode code 2194 = .ok (.aload_n 0, 1) := dl_13_ok (2194, (.aload_n 0, 1)) (List.mem_of_getElem? (i := 90) rfl)
set_option maxRecDepth 100000 in
theorem dL_law_2195 : decode code 2195 = .ok (.iload_n 3, 1) := dl_13_ok (2195, (.iload_n 3, 1)) (List.mem_of_getElem? (i := 91) rfl)
set_option maxRecDepth 100000 in
theorem dL_law_2196 : decode code 2196 = .ok (.iconst 1, 1) := dl_13_ok (2196, (.iconst 1, 1)) (List.mem_of_getElem? (i := 92) rfl)
set_option maxRecDepth 100000 in
theorem dL_law_2197 : decode code 2197 = .ok (.iadd, 1) := dl_13_ok (2197, (.iadd, 1)) (List.mem_of_getElem? (i := 93) rfl)
set_option maxRecDepth 100000 in
theorem dL_law_2198 : decode code 2198 = .ok (.iaload, 1) := dl_13_ok (2198, (.iaload, 1)) (List.mem_of_getElem? (i := 94) rfl)
set_option maxRecDepth 100000 in
theorem dL_law_2199 : decode code 2199 = .ok (.aload_n 0, 1) := dl_13_ok (2199, (.aload_n 0, 1)) (List.mem_of_getElem? (i := 95) rfl)
set_option maxRecDepth 100000 in
theorem dL_law_2200 : decode code 2200 = .ok (.iload_n 3, 1) := dl_13_ok (2200, (.iload_n 3, 1)) (List.mem_of_getElem? (i := 96) rfl)
set_option maxRecDepth 100000 in
theorem dL_law_2201 : decode code 2201 = .ok (.iconst 2, 1) := dl_13_ok (2201, (.iconst 2, 1)) (List.mem_of_getElem? (i := 97) rfl)
set_option maxRecDepth 100000 in
theorem dL_law_2202 : decode code 2202 = .ok (.iadd, 1) := dl_13_ok (2202, (.iadd, 1)) (List.mem_of_getElem? (i := 98) rfl)
set_option maxRecDepth 100000 in
theorem dL_law_2203 : decode code 2203 = .ok (.iaload, 1) := dl_13_ok (2203, (.iaload, 1)) (List.mem_of_getElem? (i := 99) rfl)
def dl_14 : List (Nat × (Instr × Nat)) := [(2204, (.invokevirtual 312, 3)), (2207, (.pop2, 1)), (2208, (.goto 452, 3)), (2211, (.aload_n 1, 1)), (2212, (.aload_n 0, 1)), (2213, (.iload_n 3, 1)), (2214, (.iconst 1, 1)), (2215, (.iadd, 1)), (2216, (.iaload, 1)), (2217, (.aload_n 0, 1)), (2218, (.iload_n 3, 1)), (2219, (.iconst 2, 1)), (2220, (.iadd, 1)), (2221, (.iaload, 1)), (2222, (.invokevirtual 313, 3)), (2225, (.pop, 1)), (2226, (.aload_n 2, 1)), (2227, (.aload_n 0, 1)), (2228, (.iload_n 3, 1)), (2229, (.iconst 1, 1)), (2230, (.iadd, 1)), (2231, (.iaload, 1)), (2232, (.aload_n 0, 1)), (2233, (.iload_n 3, 1)), (2234, (.iconst 2, 1)), (2235, (.iadd, 1)), (2236, (.iaload, 1)), (2237, (.invokevirtual 316, 3)), (2240, (.pop, 1)), (2241, (.goto 419, 3)), (2244, (.aload_n 1, 1)), (2245, (.aload_n 0, 1)), (2246, (.iload_n 3, 1)), (2247, (.iconst 1, 1)), (2248, (.iadd, 1)), (2249, (.iaload, 1)), (2250, (.aload_n 0, 1)), (2251, (.iload_n 3, 1)), (2252, (.iconst 2, 1)), (2253, (.iadd, 1)), (2254, (.iaload, 1)), (2255, (.invokevirtual 317, 3)), (2258, (.pop, 1)), (2259, (.aload_n 2, 1)), (2260, (.aload_n 0, 1)), (2261, (.iload_n 3, 1)), (2262, (.iconst 1, 1)), (2263, (.iadd, 1)), (2264, (.iaload, 1)), (2265, (.aload_n 0, 1)), (2266, (.iload_n 3, 1)), (2267, (.iconst 2, 1)), (2268, (.iadd, 1)), (2269, (.iaload, 1)), (2270, (.invokevirtual 320, 3)), (2273, (.pop, 1)), (2274, (.goto 386, 3)), (2277, (.aload_n 1, 1)), (2278, (.invokevirtual 321, 3)), (2281, (.pop, 1)), (2282, (.aload_n 2, 1)), (2283, (.invokevirtual 324, 3)), (2286, (.pop, 1)), (2287, (.goto 373, 3)), (2290, (.aload_n 1, 1)), (2291, (.invokevirtual 325, 3)), (2294, (.pop, 1)), (2295, (.aload_n 2, 1)), (2296, (.invokevirtual 328, 3)), (2299, (.pop, 1)), (2300, (.goto 360, 3)), (2303, (.aload_n 1, 1)), (2304, (.aload_n 0, 1)), (2305, (.iload_n 3, 1)), (2306, (.iconst 1, 1)), (2307, (.iadd, 1)), (2308, (.iaload, 1)), (2309, (.aload_n 0, 1)), (2310, (.iload_n 3, 1)), (2311, (.iconst 2, 1)), (2312, (.iadd, 1)), (2313, (.iaload, 1)), (2314, (.invokevirtual 329, 3)), (2317, (.pop, 1)), (2318, (.aload_n 2, 1)), (2319, (.aload_n 0, 1)), (2320, (.iload_n 3, 1)), (2321, (.iconst 1, 1)), (2322, (.iadd, 1)), (2323, (.iaload, 1)), (2324, (.aload_n 0, 1)), (2325, (.iload_n 3, 1)), (2326, (.iconst 2, 1)), (2327, (.iadd, 1)), (2328, (.iaload, 1)), (2329, (.invokevirtual 332, 3)), (2332, (.pop, 1)), (2333, (.goto 327, 3)), (2336, (.aload_n 1, 1)), (2337, (.aload_n 0, 1))]
set_option maxRecDepth 100000 in
theorem dl_14_ok : ∀ x ∈ dl_14, decode code x.1 = .ok x.2 := by decide +kernel
set_option maxRecDepth 100000 in
theorem dL_law_2204 : decode code 2204 = .ok (.invokevirtual 312, 3) := dl_14_ok (2204, (.invokevirtual 312, 3)) (List.mem_of_getElem? (i := 0) rfl)
set_option maxRecDepth 100000 in
theorem dL_law_2207 : decode code 2207 = .ok (.pop2, 1) := dl_14_ok (2207, (.pop2, 1)) (List.mem_of_getElem? (i := 1) rfl)
set_option maxRecDepth 100000 in
theorem dL_law_2208 : decode code 2208 = .ok (.goto 452, 3) := dl_14_ok (2208, (.goto 452, 3)) (List.mem_of_getElem? (i := 2) rfl)
set_option maxRecDepth 100000 in
theorem dL_law_2211 : decode code 2211 = .ok (.aload_n 1, 1) := dl_14_ok (2211, (.aload_n 1, 1)) (List.mem_of_getElem? (i := 3) rfl)
set_option maxRecDepth 100000 in
theorem dL_law_2212 : decode code 2212 = .ok (.aload_n 0, 1) := dl_14_ok (2212, (.aload_n 0, 1)) (List.mem_of_getElem? (i := 4) rfl)
set_option maxRecDepth 100000 in
theorem dL_law_2213 : decode code 2213 = .ok (.iload_n 3, 1) := dl_14_ok (2213, (.iload_n 3, 1)) (List.mem_of_getElem? (i := 5) rfl)
set_option maxRecDepth 100000 in
theorem dL_law_2214 : decode code 2214 = .ok (.iconst 1, 1) := dl_14_ok (2214, (.iconst 1, 1)) (List.mem_of_getElem? (i := 6) rfl)
set_option maxRecDepth 100000 in
theorem dL_law_2215 : decode code 2215 = .ok (.iadd, 1) := dl_14_ok (2215, (.iadd, 1)) (List.mem_of_getElem? (i := 7) rfl)
set_option maxRecDepth 100000 in
theorem dL_law_2216 : decode code 2216 = .ok (.iaload, 1) := dl_14_ok (2216, (.iaload, 1)) (List.mem_of_getElem? (i := 8) rfl)
set_option maxRecDepth 100000 in
theorem dL_law_2217 : decode code 2217 = .ok (.aload_n 0, 1) := dl_14_ok (2217, (.aload_n 0, 1)) (List.mem_of_getElem? (i := 9) rfl)
set_option maxRecDepth 100000 in
theorem dL_law_2218 : decode code 2218 = .ok (.iload_n 3, 1) := dl_14_ok (2218, (.iload_n 3, 1)) (List.mem_of_getElem? (i := 10) rfl)
set_option maxRecDepth 100000 in
theorem dL_law_2219 : decode code 2219 = .ok (.iconst 2, 1) := dl_14_ok (2219, (.iconst 2, 1)) (List.mem_of_getElem? (i := 11) rfl)
set_option maxRecDepth 100000 in
theorem dL_law_2220 : decode code 2220 = .ok (.iadd, 1) := dl_14_ok (2220, (.iadd, 1)) (List.mem_of_getElem? (i := 12) rfl)
set_option maxRecDepth 100000 in
theorem dL_law_2221 : decode code 2221 = .ok (.iaload, 1) := dl_14_ok (2221, (.iaload, 1)) (List.mem_of_getElem? (i := 13) rfl)
set_option maxRecDepth 100000 in
theorem dL_law_2222 : decode code 2222 = .ok (.invokevirtual 313, 3) := dl_14_ok (2222, (.invokevirtual 313, 3)) (List.mem_of_getElem? (i := 14) rfl)
set_option maxRecDepth 100000 in
theorem dL_law_2225 : decode code 2225 = .ok (.pop, 1) := dl_14_ok (2225, (.pop, 1)) (List.mem_of_getElem? (i := 15) rfl)
set_option maxRecDepth 100000 in
theorem dL_law_2226 : decode code 2226 = .ok (.aload_n 2, 1) := dl_14_ok (2226, (.aload_n 2, 1)) (List.mem_of_getElem? (i := 16) rfl)
set_option maxRecDepth 100000 in
theorem dL_law_2227 : decode code 2227 = .ok (.aload_n 0, 1) := dl_14_ok (2227, (.aload_n 0, 1)) (List.mem_of_getElem? (i := 17) rfl)
set_option maxRecDepth 100000 in
theorem dL_law_2228 : decode code 2228 = .ok (.iload_n 3, 1) := dl_14_ok (2228, (.iload_n 3, 1)) (List.mem_of_getElem? (i := 18) rfl)
set_option maxRecDepth 100000 in
theorem dL_law_2229 : decode code 2229 = .ok (.iconst 1, 1) := dl_14_ok (2229, (.iconst 1, 1)) (List.mem_of_getElem? (i := 19) rfl)
set_option maxRecDepth 100000 in
theorem dL_law_2230 : decode code 2230 = .ok (.iadd, 1) := dl_14_ok (2230, (.iadd, 1)) (List.mem_of_getElem? (i := 20) rfl)
set_option maxRecDepth 100000 in
theorem dL_law_2231 : decode code 2231 = .ok (.iaload, 1) := dl_14_ok (2231, (.iaload, 1)) (List.mem_of_getElem? (i := 21) rfl)
set_option maxRecDepth 100000 in
theorem dL_law_2232 : decode code 2232 = .ok (.aload_n 0, 1) := dl_14_ok (2232, (.aload_n 0, 1)) (List.mem_of_getElem? (i := 22) rfl)
set_option maxRecDepth 100000 in
theorem dL_law_2233 : decode code 2233 = .ok (.iload_n 3, 1) := dl_14_ok (2233, (.iload_n 3, 1)) (List.mem_of_getElem? (i := 23) rfl)
set_option maxRecDepth 100000 in
theorem dL_law_2234 : decode code 2234 = .ok (.iconst 2, 1) := dl_14_ok (2234, (.iconst 2, 1)) (List.mem_of_getElem? (i := 24) rfl)
set_option maxRecDepth 100000 in
theorem dL_law_2235 : decode code 2235 = .ok (.iadd, 1) := dl_14_ok (2235, (.iadd, 1)) (List.mem_of_getElem? (i := 25) rfl)
set_option maxRecDepth 100000 in
theorem dL_law_2236 : decode code 2236 = .ok (.iaload, 1) := dl_14_ok (2236, (.iaload, 1)) (List.mem_of_getElem? (i := 26) rfl)
set_option maxRecDepth 100000 in
theorem dL_law_2237 : decode code 2237 = .ok (.invokevirtual 316, 3) := dl_14_ok (2237, (.invokevirtual 316, 3)) (List.mem_of_getElem? (i := 27) rfl)
set_option maxRecDepth 100000 in
theorem dL_law_2240 : decode code 2240 = .ok (.pop, 1) := dl_14_ok (2240, (.pop, 1)) (List.mem_of_getElem? (i := 28) rfl)
set_option maxRecDepth 100000 in
theorem dL_law_2241 : decode code 2241 = .ok (.goto 419, 3) := dl_14_ok (2241, (.goto 419, 3)) (List.mem_of_getElem? (i := 29) rfl)
set_option maxRecDepth 100000 in
theorem dL_law_2244 : decode code 2244 = .ok (.aload_n 1, 1) := dl_14_ok (2244, (.aload_n 1, 1)) (List.mem_of_getElem? (i := 30) rfl)
set_option maxRecDepth 100000 in
theorem dL_law_2245 : decode code 2245 = .ok (.aload_n 0, 1) := dl_14_ok (2245, (.aload_n 0, 1)) (List.mem_of_getElem? (i := 31) rfl)
set_option maxRecDepth 100000 in
theorem dL_law_2246 : decode code 2246 = .ok (.iload_n 3, 1) := dl_14_ok (2246, (.iload_n 3, 1)) (List.mem_of_getElem? (i := 32) rfl)
set_option maxRecDepth 100000 in
theorem dL_law_2247 : decode code 2247 = .ok (.iconst 1, 1) := dl_14_ok (2247, (.iconst 1, 1)) (List.mem_of_getElem? (i := 33) rfl)
set_option maxRecDepth 100000 in
theorem dL_law_2248 : decode code 2248 = .ok (.iadd, 1) := dl_14_ok (2248, (.iadd, 1)) (List.mem_of_getElem? (i := 34) rfl)
set_option maxRecDepth 100000 in
theorem dL_law_2249 : decode code 2249 = .ok (.iaload, 1) := dl_14_ok (2249, (.iaload, 1)) (List.mem_of_getElem? (i := 35) rfl)
set_option maxRecDepth 100000 in
theorem dL_law_2250 : decode code 2250 = .ok (.aload_n 0, 1) := dl_14_ok (2250, (.aload_n 0, 1)) (List.mem_of_getElem? (i := 36) rfl)
set_option maxRecDepth 100000 in
theorem dL_law_2251 : decode code 2251 = .ok (.iload_n 3, 1) := dl_14_ok (2251, (.iload_n 3, 1)) (List.mem_of_getElem? (i := 37) rfl)
set_option maxRecDepth 100000 in
theorem dL_law_2252 : decode code 2252 = .ok (.iconst 2, 1) := dl_14_ok (2252, (.iconst 2, 1)) (List.mem_of_getElem? (i := 38) rfl)
set_option maxRecDepth 100000 in
theorem dL_law_2253 : decode code 2253 = .ok (.iadd, 1) := dl_14_ok (2253, (.iadd, 1)) (List.mem_of_getElem? (i := 39) rfl)
set_option maxRecDepth 100000 in
theorem dL_law_2254 : decode code 2254 = .ok (.iaload, 1) := dl_14_ok (2254, (.iaload, 1)) (List.mem_of_getElem? (i := 40) rfl)
set_option maxRecDepth 100000 in
theorem dL_law_2255 : decode code 2255 = .ok (.invokevirtual 317, 3) := dl_14_ok (2255, (.invokevirtual 317, 3)) (List.mem_of_getElem? (i := 41) rfl)
set_option maxRecDepth 100000 in
theorem dL_law_2258 : decode code 2258 = .ok (.pop, 1) := dl_14_ok (2258, (.pop, 1)) (List.mem_of_getElem? (i := 42) rfl)
set_option maxRecDepth 100000 in
theorem dL_law_2259 : decode code 2259 = .ok (.aload_n 2, 1) := dl_14_ok (2259, (.aload_n 2, 1)) (List.mem_of_getElem? (i := 43) rfl)
set_option maxRecDepth 100000 in
theorem dL_law_2260 : decode code 2260 = .ok (.aload_n 0, 1) := dl_14_ok (2260, (.aload_n 0, 1)) (List.mem_of_getElem? (i := 44) rfl)
set_option maxRecDepth 100000 in
theorem dL_law_2261 : decode code 2261 = .ok (.iload_n 3, 1) := dl_14_ok (2261, (.iload_n 3, 1)) (List.mem_of_getElem? (i := 45) rfl)
set_option maxRecDepth 100000 in
theorem dL_law_2262 : decode code 2262 = .ok (.iconst 1, 1) := dl_14_ok (2262, (.iconst 1, 1)) (List.mem_of_getElem? (i := 46) rfl)
set_option maxRecDepth 100000 in
theorem dL_law_2263 : decode code 2263 = .ok (.iadd, 1) := dl_14_ok (2263, (.iadd, 1)) (List.mem_of_getElem? (i := 47) rfl)
set_option maxRecDepth 100000 in
theorem dL_law_2264 : decode code 2264 = .ok (.iaload, 1) := dl_14_ok (2264, (.iaload, 1)) (List.mem_of_getElem? (i := 48) rfl)
set_option maxRecDepth 100000 in
theorem dL_law_2265 : decode code 2265 = .ok (.aload_n 0, 1) := dl_14_ok (2265, (.aload_n 0, 1)) (List.mem_of_getElem? (i := 49) rfl)
set_option maxRecDepth 100000 in
theorem dL_law_2266 : decode code 2266 = .ok (.iload_n 3, 1) := dl_14_ok (2266, (.iload_n 3, 1)) (List.mem_of_getElem? (i := 50) rfl)
set_option maxRecDepth 100000 in
theorem dL_law_2267 : decode code 2267 = .ok (.iconst 2, 1) := dl_14_ok (2267, (.iconst 2, 1)) (List.mem_of_getElem? (i := 51) rfl)
set_option maxRecDepth 100000 in
theorem dL_law_2268 : decode code 2268 = .ok (.iadd, 1) := dl_14_ok (2268, (.iadd, 1)) (List.mem_of_getElem? (i := 52) rfl)
set_option maxRecDepth 100000 in
theorem dL_law_2269 : decode code 2269 = .ok (.iaload, 1) := dl_14_ok (2269, (.iaload, 1)) (List.mem_of_getElem? (i := 53) rfl)
set_option maxRecDepth 100000 in
theorem dL_law_2270 : decode code 2270 = .ok (.invokevirtual 320, 3) := dl_14_ok (2270, (.invokevirtual 320, 3)) (List.mem_of_getElem? (i := 54) rfl)
set_option maxRecDepth 100000 in
theorem dL_law_2273 : decode code 2273 = .ok (.pop, 1) := dl_14_ok (2273, (.pop, 1)) (List.mem_of_getElem? (i := 55) rfl)
set_option maxRecDepth 100000 in
theorem dL_law_2274 : decode code 2274 = .ok (.goto 386, 3) := dl_14_ok (2274, (.goto 386, 3)) (List.mem_of_getElem? (i := 56) rfl)
set_option maxRecDepth 100000 in
theorem dL_law_2277 : decode code 2277 = .ok (.aload_n 1, 1) := dl_14_ok (2277, (.aload_n 1, 1)) (List.mem_of_getElem? (i := 57) rfl)
set_option maxRecDepth 100000 in
theorem dL_law_2278 : decode code 2278 = .ok (.invokevirtual 321, 3) := dl_14_ok (2278, (.invokevirtual 321, 3)) (List.mem_of_getElem? (i := 58) rfl)
set_option maxRecDepth 100000 in
theorem dL_law_2281 : decode code 2281 = .ok (.pop, 1) := dl_14_ok (2281, (.pop, 1)) (List.mem_of_getElem? (i := 59) rfl)
set_option maxRecDepth 100000 in
theorem dL_law_2282 : decode code 2282 = .ok (.aload_n 2, 1) := dl_14_ok (2282, (.aload_n 2, 1)) (List.mem_of_getElem? (i := 60) rfl)
set_option maxRecDepth 100000 in
theorem dL_law_2283 : decode code 2283 = .ok (.invokevirtual 324, 3) := dl_14_ok (2283, (.invokevirtual 324, 3)) (List.mem_of_getElem? (i := 61) rfl)
set_option maxRecDepth 100000 in
theorem dL_law_2286 : decode code 2286 = .ok (.pop, 1) := dl_14_ok (2286, (.pop, 1)) (List.mem_of_getElem? (i := 62) rfl)
set_option maxRecDepth 100000 in
theorem dL_law_2287 : decode code 2287 = .ok (.goto 373, 3) := dl_14_ok (2287, (.goto 373, 3)) (List.mem_of_getElem? (i := 63) rfl)
set_option maxRecDepth 100000 in
theorem dL_law_2290 : decode code 2290 = .ok (.aload_n 1, 1) := dl_14_ok (2290, (.aload_n 1, 1)) (List.mem_of_getElem? (i := 64) rfl)
set_option maxRecDepth 100000 in
theorem dL_law_2291 : decode code 2291 = .ok (.invokevirtual 325, 3) := dl_14_ok (2291, (.invokevirtual 325, 3)) (List.mem_of_getElem? (i := 65) rfl)
set_option maxRecDepth 100000 in
theorem dL_law_2294 : decode code 2294 = .ok (.pop, 1) := dl_14_ok (2294, (.pop, 1)) (List.mem_of_getElem? (i := 66) rfl)
set_option maxRecDepth 100000 in
theorem dL_law_2295 : decode code 2295 = .ok (.aload_n 2, 1) := dl_14_ok (2295, (.aload_n 2, 1)) (List.mem_of_getElem? (i := 67) rfl)
set_option maxRecDepth 100000 in
theorem dL_law_2296 : decode code 2296 = .ok (.invokevirtual 328, 3) := dl_14_ok (2296, (.invokevirtual 328, 3)) (List.mem_of_getElem? (i := 68) rfl)
set_option maxRecDepth 100000 in
theorem dL_law_2299 : decode code 2299 = .ok (.pop, 1) := dl_14_ok (2299, (.pop, 1)) (List.mem_of_getElem? (i := 69) rfl)
set_option maxRecDepth 100000 in
theorem dL_law_2300 : decode code 2300 = .ok (.goto 360, 3) := dl_14_ok (2300, (.goto 360, 3)) (List.mem_of_getElem? (i := 70) rfl)
set_option maxRecDepth 100000 in
theorem dL_law_2303 : decode code 2303 = .ok (.aload_n 1, 1) := dl_14_ok (2303, (.aload_n 1, 1)) (List.mem_of_getElem? (i := 71) rfl)
set_option maxRecDepth 100000 in
theorem dL_law_2304 : decode code 2304 = .ok (.aload_n 0, 1) := dl_14_ok (2304, (.aload_n 0, 1)) (List.mem_of_getElem? (i := 72) rfl)
set_option maxRecDepth 100000 in
theorem dL_law_2305 : decode code 2305 = .ok (.iload_n 3, 1) := dl_14_ok (2305, (.iload_n 3, 1)) (List.mem_of_getElem? (i := 73) rfl)
set_option maxRecDepth 100000 in
theorem dL_law_2306 : decode code 2306 = .ok (.iconst 1, 1) := dl_14_ok (2306, (.iconst 1, 1)) (List.mem_of_getElem? (i := 74) rfl)
set_option maxRecDepth 100000 in
theorem dL_law_2307 : decode code 2307 = .ok (.iadd, 1) := dl_14_ok (2307, (.iadd, 1)) (List.mem_of_getElem? (i := 75) rfl)
set_option maxRecDepth 100000 in
theorem dL_law_2308 : decode code 2308 = .ok (.iaload, 1) := dl_14_ok (2308, (.iaload, 1)) (List.mem_of_getElem? (i := 76) rfl)
set_option maxRecDepth 100000 in
theorem dL_law_2309 : decode code 2309 = .ok (.aload_n 0, 1) := dl_14_ok (2309, (.aload_n 0, 1)) (List.mem_of_getElem? (i := 77) rfl)
set_option maxRecDepth 100000 in
theorem dL_law_2310 : decode code 2310 = .ok (.iload_n 3, 1) := dl_14_ok (2310, (.iload_n 3, 1)) (List.mem_of_getElem? (i := 78) rfl)
set_option maxRecDepth 100000 in
theorem dL_law_2311 : decode code 2311 = .ok (.iconst 2, 1) := dl_14_ok (2311, (.iconst 2, 1)) (List.mem_of_getElem? (i := 79) rfl)
set_option maxRecDepth 100000 in
theorem dL_law_2312 : decode code 2312 = .ok (.iadd, 1) := dl_14_ok (2312, (.iadd, 1)) (List.mem_of_getElem? (i := 80) rfl)
set_option maxRecDepth 100000 in
theorem dL_law_2313 : decode code 2313 = .ok (.iaload, 1) := dl_14_ok (2313, (.iaload, 1)) (List.mem_of_getElem? (i := 81) rfl)
set_option maxRecDepth 100000 in
theorem dL_law_2314 : decode code 2314 = .ok (.invokevirtual 329, 3) := dl_14_ok (2314, (.invokevirtual 329, 3)) (List.mem_of_getElem? (i := 82) rfl)
set_option maxRecDepth 100000 in
theorem dL_law_2317 : decode code 2317 = .ok (.pop, 1) := dl_14_ok (2317, (.pop, 1)) (List.mem_of_getElem? (i := 83) rfl)
set_option maxRecDepth 100000 in
theorem dL_law_2318 : decode code 2318 = .ok (.aload_n 2, 1) := dl_14_ok (2318, (.aload_n 2, 1)) (List.mem_of_getElem? (i := 84) rfl)
set_option maxRecDepth 100000 in
theorem dL_law_2319 : decode code 2319 = .ok (.aload_n 0, 1) := dl_14_ok (2319, (.aload_n 0, 1)) (List.mem_of_getElem? (i := 85) rfl)
set_option maxRecDepth 100000 in
theorem dL_law_2320 : decode code 2320 = .ok (.iload_n 3, 1) := dl_14_ok (2320, (.iload_n 3, 1)) (List.mem_of_getElem? (i := 86) rfl)
set_option maxRecDepth 100000 in
theorem dL_law_2321 : decode code 2321 = .ok (.iconst 1, 1) := dl_14_ok (2321, (.iconst 1, 1)) (List.mem_of_getElem? (i := 87) rfl)
set_option maxRecDepth 100000 in
theorem dL_law_2322 : decode code 2322 = .ok (.iadd, 1) := dl_14_ok (2322, (.iadd, 1)) (List.mem_of_getElem? (i := 88) rfl)
set_option maxRecDepth 100000 in
theorem dL_law_2323 : decode code 2323 = .ok (.iaload, 1) := dl_14_ok (2323, (.iaload, 1)) (List.mem_of_getElem? (i := 89) rfl)
set_option maxRecDepth 100000 in
theorem dL_law_2324 : decode code 2324 = .ok (.aload_n 0, 1) := dl_14_ok (2324, (.aload_n 0, 1)) (List.mem_of_getElem? (i := 90) rfl)
set_option maxRecDepth 100000 in
theorem dL_law_2325 : decode code 2325 = .ok (.iload_n 3, 1) := dl_14_ok (2325, (.iload_n 3, 1)) (List.mem_of_getElem? (i := 91) rfl)
set_option maxRecDepth 100000 in
theorem dL_law_2326 : decode code 2326 = .ok (.iconst 2, 1) := dl_14_ok (2326, (.iconst 2, 1)) (List.mem_of_getElem? (i := 92) rfl)
set_option maxRecDepth 100000 in
theorem dL_law_2327 : decode code 2327 = .ok (.iadd, 1) := dl_14_ok (2327, (.iadd, 1)) (List.mem_of_getElem? (i := 93) rfl)
set_option maxRecDepth 100000 in
theorem dL_law_2328 : decode code 2328 = .ok (.iaload, 1) := dl_14_ok (2328, (.iaload, 1)) (List.mem_of_getElem? (i := 94) rfl)
set_option maxRecDepth 100000 in
theorem dL_law_2329 : decode code 2329 = .ok (.invokevirtual 332, 3) := dl_14_ok (2329, (.invokevirtual 332, 3)) (List.mem_of_getElem? (i := 95) rfl)
set_option maxRecDepth 100000 in
theorem dL_law_2332 : decode code 2332 = .ok (.pop, 1) := dl_14_ok (2332, (.pop, 1)) (List.mem_of_getElem? (i := 96) rfl)
set_option maxRecDepth 100000 in
theorem dL_law_2333 : decode code 2333 = .ok (.goto 327, 3) := dl_14_ok (2333, (.goto 327, 3)) (List.mem_of_getElem? (i := 97) rfl)
set_option maxRecDepth 100000 in
theorem dL_law_2336 : decode code 2336 = .ok (.aload_n 1, 1) := dl_14_ok (2336, (.aload_n 1, 1)) (List.mem_of_getElem? (i := 98) rfl)
set_option maxRecDepth 100000 in
theorem dL_law_2337 : decode code 2337 = .ok (.aload_n 0, 1) := dl_14_ok (2337, (.aload_n 0, 1)) (List.mem_of_getElem? (i := 99) rfl)
