abbrev cJ6_bitCount_0f7a4 : ByteArray := prog_12_method_49_code
def yJ6_bitCount_0f7a4 : MethodName := ⟨RJ6, "bitCount", "(I)I"⟩
abbrev cJ6_numberOfLeadingZeros_0f7a4 : ByteArray := prog_12_method_47_code
def yJ6_numberOfLeadingZeros_0f7a4 : MethodName := ⟨RJ6, "numberOfLeadingZeros", "(I)I"⟩
abbrev cJ6_numberOfTrailingZeros_0f7a4 : ByteArray := prog_12_method_48_code
def yJ6_numberOfTrailingZeros_0f7a4 : MethodName := ⟨RJ6, "numberOfTrailingZeros", "(I)I"⟩
abbrev cJ9_abs_067f4 : ByteArray := prog_13_method_61_code
def yJ9_abs_067f4 : MethodName := ⟨RJ9, "abs", "(J)J"⟩
abbrev cJ9_max_7cf53 : ByteArray := prog_13_method_65_code
def yJ9_max_7cf53 : MethodName := ⟨RJ9, "max", "(II)I"⟩
abbrev cJ9_max_f86c9 : ByteArray := prog_13_method_66_code
def yJ9_max_f86c9 : MethodName := ⟨RJ9, "max", "(JJ)J"⟩
abbrev cX0_commonDivisor : ByteArray := prog_2_method_4_code
def yX0_commonDivisor : MethodName := ⟨RX0, "commonDivisor", "(JJ)J"⟩
abbrev cX0_init : ByteArray := prog_2_method_1_code
def yX0_init : MethodName := ⟨RX0, "<init>", "()V"⟩
abbrev cX0_part : ByteArray := prog_2_method_3_code
def yX0_part : MethodName := ⟨RX0, "part", "(I)J"⟩
abbrev cX0_set : ByteArray := prog_2_method_2_code
def yX0_set : MethodName := ⟨RX0, "set", "(JJ)V"⟩
abbrev cX1_fallOver : ByteArray := prog_3_method_5_code
def yX1_fallOver : MethodName := ⟨RX1, "fallOver", "(I)J"⟩
abbrev cX1_firstAmps : ByteArray := prog_3_method_3_code
def yX1_firstAmps : MethodName := ⟨RX1, "firstAmps", "()J"⟩
abbrev cX1_init : ByteArray := prog_3_method_1_code
def yX1_init : MethodName := ⟨RX1, "<init>", "()V"⟩
abbrev cX1_isEnough : ByteArray := prog_3_method_7_code
def yX1_isEnough : MethodName := ⟨RX1, "isEnough", "(IJJ)Z"⟩
abbrev cX1_leaksMore : ByteArray := prog_3_method_6_code
def yX1_leaksMore : MethodName := ⟨RX1, "leaksMore", "(II)Z"⟩
abbrev cX1_readsInto : ByteArray := prog_3_method_4_code
def yX1_readsInto : MethodName := ⟨RX1, "readsInto", "(LLeakyLine$Fraction;)V"⟩
abbrev cX1_settle : ByteArray := prog_3_method_2_code
def yX1_settle : MethodName := ⟨RX1, "settle", "(LLeakyLine$Line;LLeakyLine$Supposed;I)V"⟩
abbrev cX2_firstSnap : ByteArray := prog_4_method_8_code
def yX2_firstSnap : MethodName := ⟨RX2, "firstSnap", "(I)I"⟩
abbrev cX2_init : ByteArray := prog_4_method_1_code
def yX2_init : MethodName := ⟨RX2, "<init>", "()V"⟩
abbrev cX2_isBroken : ByteArray := prog_4_method_9_code
def yX2_isBroken : MethodName := ⟨RX2, "isBroken", "(II)Z"⟩
abbrev cX2_latestCup : ByteArray := prog_4_method_7_code
def yX2_latestCup : MethodName := ⟨RX2, "latestCup", "(II)I"⟩
abbrev cX2_stationBits : ByteArray := prog_4_method_6_code
def yX2_stationBits : MethodName := ⟨RX2, "stationBits", "()I"⟩
abbrev cX3_at : ByteArray := prog_5_method_5_code
def yX3_at : MethodName := ⟨RX3, "at", "(II)J"⟩
abbrev cX3_cut : ByteArray := prog_5_method_9_code
def yX3_cut : MethodName := ⟨RX3, "cut", "(IJ)J"⟩
abbrev cX3_has : ByteArray := prog_5_method_2_code
def yX3_has : MethodName := ⟨RX3, "has", "(I)Z"⟩
abbrev cX3_init : ByteArray := prog_5_method_1_code
def yX3_init : MethodName := ⟨RX3, "<init>", "()V"⟩
abbrev cX3_put : ByteArray := prog_5_method_6_code
def yX3_put : MethodName := ⟨RX3, "put", "(IIJ)V"⟩
abbrev cX3_used : ByteArray := prog_5_method_3_code
def yX3_used : MethodName := ⟨RX3, "used", "()I"⟩
abbrev cX4_asTold : ByteArray := prog_6_method_2_code
def yX4_asTold : MethodName := ⟨RX4, "asTold", "(LLeakyLine$Line;)V"⟩
abbrev cX4_halved : ByteArray := prog_6_method_7_code
def yX4_halved : MethodName := ⟨RX4, "halved", "(I)I"⟩
abbrev cX4_init : ByteArray := prog_6_method_1_code
def yX4_init : MethodName := ⟨RX4, "<init>", "()V"⟩
abbrev cX4_isWet : ByteArray := prog_6_method_5_code
def yX4_isWet : MethodName := ⟨RX4, "isWet", "(I)Z"⟩
abbrev cX4_leadingOn : ByteArray := prog_6_method_4_code
def yX4_leadingOn : MethodName := ⟨RX4, "leadingOn", "(LLeakyLine$Line;I)I"⟩
abbrev cX4_leakOn : ByteArray := prog_6_method_3_code
def yX4_leakOn : MethodName := ⟨RX4, "leakOn", "(LLeakyLine$Line;II)I"⟩
abbrev cX4_wetDays : ByteArray := prog_6_method_6_code
def yX4_wetDays : MethodName := ⟨RX4, "wetDays", "(II)I"⟩
abbrev cX5_at : ByteArray := prog_7_method_3_code
def yX5_at : MethodName := ⟨RX5, "at", "(I)I"⟩
abbrev cX5_init : ByteArray := prog_7_method_1_code
def yX5_init : MethodName := ⟨RX5, "<init>", "()V"⟩
abbrev cX6_init : ByteArray := prog_8_method_1_code
def yX6_init : MethodName := ⟨RX6, "<init>", "()V"⟩
abbrev cX7_init : ByteArray := prog_9_method_1_code
def yX7_init : MethodName := ⟨RX7, "<init>", "()V"⟩
abbrev cX8_alikeFrom : ByteArray := prog_1_method_125_code
def yX8_alikeFrom : MethodName := ⟨RX8, "alikeFrom", "(II)I"⟩
abbrev cX8_all : ByteArray := prog_1_method_45_code
def yX8_all : MethodName := ⟨RX8, "all", "()I"⟩
abbrev cX8_allDays : ByteArray := prog_1_method_96_code
def yX8_allDays : MethodName := ⟨RX8, "allDays", "()I"⟩
abbrev cX8_allPoles : ByteArray := prog_1_method_97_code
def yX8_allPoles : MethodName := ⟨RX8, "allPoles", "()I"⟩
abbrev cX8_amps : ByteArray := prog_1_method_12_code
def yX8_amps : MethodName := ⟨RX8, "amps", "(II)J"⟩
abbrev cX8_apart : ByteArray := prog_1_method_39_code
def yX8_apart : MethodName := ⟨RX8, "apart", "(II)I"⟩
abbrev cX8_ask : ByteArray := prog_1_method_62_code
def yX8_ask : MethodName := ⟨RX8, "ask", "(II)I"⟩
abbrev cX8_batteries : ByteArray := prog_1_method_54_code
def yX8_batteries : MethodName := ⟨RX8, "batteries", "()I"⟩
abbrev cX8_battery : ByteArray := prog_1_method_53_code
def yX8_battery : MethodName := ⟨RX8, "battery", "(I)I"⟩
abbrev cX8_best : ByteArray := prog_1_method_57_code
def yX8_best : MethodName := ⟨RX8, "best", "()I"⟩
abbrev cX8_both : ByteArray := prog_1_method_38_code
def yX8_both : MethodName := ⟨RX8, "both", "(II)I"⟩
abbrev cX8_breaks : ByteArray := prog_1_method_65_code
def yX8_breaks : MethodName := ⟨RX8, "breaks", "(I)I"⟩
abbrev cX8_bright : ByteArray := prog_1_method_33_code
def yX8_bright : MethodName := ⟨RX8, "bright", "()I"⟩
abbrev cX8_by : ByteArray := prog_1_method_67_code
def yX8_by : MethodName := ⟨RX8, "by", "(I)I"⟩
abbrev cX8_chance : ByteArray := prog_1_method_73_code
def yX8_chance : MethodName := ⟨RX8, "chance", "(III)I"⟩
abbrev cX8_changes : ByteArray := prog_1_method_44_code
def yX8_changes : MethodName := ⟨RX8, "changes", "()I"⟩
abbrev cX8_clear : ByteArray := prog_1_method_25_code
def yX8_clear : MethodName := ⟨RX8, "clear", "()I"⟩
abbrev cX8_clearDays : ByteArray := prog_1_method_111_code
def yX8_clearDays : MethodName := ⟨RX8, "clearDays", "()I"⟩
abbrev cX8_cupped : ByteArray := prog_1_method_47_code
def yX8_cupped : MethodName := ⟨RX8, "cupped", "(II)I"⟩
abbrev cX8_cure : ByteArray := prog_1_method_55_code
def yX8_cure : MethodName := ⟨RX8, "cure", "(I)I"⟩
abbrev cX8_cures : ByteArray := prog_1_method_56_code
def yX8_cures : MethodName := ⟨RX8, "cures", "(I)I"⟩
abbrev cX8_damp : ByteArray := prog_1_method_30_code
def yX8_damp : MethodName := ⟨RX8, "damp", "(II)I"⟩
abbrev cX8_dayToAsk : ByteArray := prog_1_method_122_code
def yX8_dayToAsk : MethodName := ⟨RX8, "dayToAsk", "(II)I"⟩
abbrev cX8_daysHeard : ByteArray := prog_1_method_109_code
def yX8_daysHeard : MethodName := ⟨RX8, "daysHeard", "(I)I"⟩
abbrev cX8_deaf : ByteArray := prog_1_method_22_code
def yX8_deaf : MethodName := ⟨RX8, "deaf", "(I)I"⟩
abbrev cX8_dim : ByteArray := prog_1_method_27_code
def yX8_dim : MethodName := ⟨RX8, "dim", "()I"⟩
abbrev cX8_drawn : ByteArray := prog_1_method_79_code
def yX8_drawn : MethodName := ⟨RX8, "drawn", "(II)I"⟩
abbrev cX8_dry : ByteArray := prog_1_method_35_code
def yX8_dry : MethodName := ⟨RX8, "dry", "()I"⟩
abbrev cX8_earth : ByteArray := prog_1_method_16_code
def yX8_earth : MethodName := ⟨RX8, "earth", "(III)J"⟩
abbrev cX8_ends : ByteArray := prog_1_method_36_code
def yX8_ends : MethodName := ⟨RX8, "ends", "(I)I"⟩
abbrev cX8_factorial : ByteArray := prog_1_method_101_code
def yX8_factorial : MethodName := ⟨RX8, "factorial", "(I)J"⟩
abbrev cX8_faint : ByteArray := prog_1_method_20_code
def yX8_faint : MethodName := ⟨RX8, "faint", "(I)I"⟩
abbrev cX8_falls : ByteArray := prog_1_method_15_code
def yX8_falls : MethodName := ⟨RX8, "falls", "(III)J"⟩
abbrev cX8_fault : ByteArray := prog_1_method_5_code
def yX8_fault : MethodName := ⟨RX8, "fault", "(I)I"⟩
abbrev cX8_firstByDays : ByteArray := prog_1_method_112_code
def yX8_firstByDays : MethodName := ⟨RX8, "firstByDays", "(I)I"⟩
abbrev cX8_fits : ByteArray := prog_1_method_59_code
def yX8_fits : MethodName := ⟨RX8, "fits", "(II)I"⟩
abbrev cX8_fittingLeaks : ByteArray := prog_1_method_121_code
def yX8_fittingLeaks : MethodName := ⟨RX8, "fittingLeaks", "(II)I"⟩
abbrev cX8_flips : ByteArray := prog_1_method_24_code
def yX8_flips : MethodName := ⟨RX8, "flips", "(I)I"⟩
abbrev cX8_gainOf : ByteArray := prog_1_method_127_code
def yX8_gainOf : MethodName := ⟨RX8, "gainOf", "(II)I"⟩
abbrev cX8_gets : ByteArray := prog_1_method_72_code
def yX8_gets : MethodName := ⟨RX8, "gets", "(IIII)I"⟩
abbrev cX8_grounds : ByteArray := prog_1_method_41_code
def yX8_grounds : MethodName := ⟨RX8, "grounds", "(I)I"⟩
abbrev cX8_half : ByteArray := prog_1_method_40_code
def yX8_half : MethodName := ⟨RX8, "half", "(I)I"⟩
abbrev cX8_hasBit : ByteArray := prog_1_method_98_code
def yX8_hasBit : MethodName := ⟨RX8, "hasBit", "(II)Z"⟩
abbrev cX8_heardBits : ByteArray := prog_1_method_106_code
def yX8_heardBits : MethodName := ⟨RX8, "heardBits", "(I)I"⟩
abbrev cX8_heardByChance : ByteArray := prog_1_method_128_code
def yX8_heardByChance : MethodName := ⟨RX8, "heardByChance", "(II)J"⟩
abbrev cX8_heardByDraws : ByteArray := prog_1_method_130_code
def yX8_heardByDraws : MethodName := ⟨RX8, "heardByDraws", "(I)I"⟩
abbrev cX8_heardByLaw : ByteArray := prog_1_method_115_code
def yX8_heardByLaw : MethodName := ⟨RX8, "heardByLaw", "(I)I"⟩
abbrev cX8_heardDaysOf : ByteArray := prog_1_method_113_code
def yX8_heardDaysOf : MethodName := ⟨RX8, "heardDaysOf", "(I)I"⟩
abbrev cX8_heardInAll : ByteArray := prog_1_method_108_code
def yX8_heardInAll : MethodName := ⟨RX8, "heardInAll", "()I"⟩
abbrev cX8_hearingDays : ByteArray := prog_1_method_110_code
def yX8_hearingDays : MethodName := ⟨RX8, "hearingDays", "(I)I"⟩
abbrev cX8_hears : ByteArray := prog_1_method_18_code
def yX8_hears : MethodName := ⟨RX8, "hears", "(I)I"⟩
abbrev cX8_high : ByteArray := prog_1_method_61_code
def yX8_high : MethodName := ⟨RX8, "high", "(II)I"⟩
abbrev cX8_highestBit : ByteArray := prog_1_method_99_code
def yX8_highestBit : MethodName := ⟨RX8, "highestBit", "(I)I"⟩
abbrev cX8_isAsSeen : ByteArray := prog_1_method_120_code
def yX8_isAsSeen : MethodName := ⟨RX8, "isAsSeen", "(I)Z"⟩
abbrev cX8_isChanceDay : ByteArray := prog_1_method_90_code
def yX8_isChanceDay : MethodName := ⟨RX8, "isChanceDay", "(I)Z"⟩
abbrev cX8_isDay : ByteArray := prog_1_method_89_code
def yX8_isDay : MethodName := ⟨RX8, "isDay", "(I)Z"⟩
abbrev cX8_isPart : ByteArray := prog_1_method_93_code
def yX8_isPart : MethodName := ⟨RX8, "isPart", "(I)Z"⟩
abbrev cX8_isPole : ByteArray := prog_1_method_91_code
def yX8_isPole : MethodName := ⟨RX8, "isPole", "(I)Z"⟩
abbrev cX8_isSeed : ByteArray := prog_1_method_94_code
def yX8_isSeed : MethodName := ⟨RX8, "isSeed", "(I)Z"⟩
abbrev cX8_isSlot : ByteArray := prog_1_method_95_code
def yX8_isSlot : MethodName := ⟨RX8, "isSlot", "(I)Z"⟩
abbrev cX8_isStation : ByteArray := prog_1_method_92_code
def yX8_isStation : MethodName := ⟨RX8, "isStation", "(I)Z"⟩
abbrev cX8_isTold : ByteArray := prog_1_method_88_code
def yX8_isTold : MethodName := ⟨RX8, "isTold", "()Z"⟩
abbrev cX8_joined : ByteArray := prog_1_method_10_code
def yX8_joined : MethodName := ⟨RX8, "joined", "(I)I"⟩
abbrev cX8_lack : ByteArray := prog_1_method_49_code
def yX8_lack : MethodName := ⟨RX8, "lack", "(I)I"⟩
abbrev cX8_last : ByteArray := prog_1_method_26_code
def yX8_last : MethodName := ⟨RX8, "last", "()I"⟩
abbrev cX8_law : ByteArray := prog_1_method_68_code
def yX8_law : MethodName := ⟨RX8, "law", "()I"⟩
abbrev cX8_laws : ByteArray := prog_1_method_66_code
def yX8_laws : MethodName := ⟨RX8, "laws", "(I)I"⟩
abbrev cX8_leak : ByteArray := prog_1_method_9_code
def yX8_leak : MethodName := ⟨RX8, "leak", "(II)I"⟩
abbrev cX8_leastBattery : ByteArray := prog_1_method_116_code
def yX8_leastBattery : MethodName := ⟨RX8, "leastBattery", "()I"⟩
abbrev cX8_leastCure : ByteArray := prog_1_method_117_code
def yX8_leastCure : MethodName := ⟨RX8, "leastCure", "(I)I"⟩
abbrev cX8_leaves : ByteArray := prog_1_method_63_code
def yX8_leaves : MethodName := ⟨RX8, "leaves", "(II)I"⟩
abbrev cX8_leftAtWorst : ByteArray := prog_1_method_123_code
def yX8_leftAtWorst : MethodName := ⟨RX8, "leftAtWorst", "(III)I"⟩
abbrev cX8_listenAsTold : ByteArray := prog_1_method_107_code
def yX8_listenAsTold : MethodName := ⟨RX8, "listenAsTold", "()V"⟩
abbrev cX8_longest : ByteArray := prog_1_method_23_code
def yX8_longest : MethodName := ⟨RX8, "longest", "(I)I"⟩
abbrev cX8_longestRun : ByteArray := prog_1_method_100_code
def yX8_longestRun : MethodName := ⟨RX8, "longestRun", "(I)I"⟩
abbrev cX8_loud : ByteArray := prog_1_method_50_code
def yX8_loud : MethodName := ⟨RX8, "loud", "(I)I"⟩
abbrev cX8_low : ByteArray := prog_1_method_60_code
def yX8_low : MethodName := ⟨RX8, "low", "(II)I"⟩
abbrev cX8_luck : ByteArray := prog_1_method_80_code
def yX8_luck : MethodName := ⟨RX8, "luck", "(III)I"⟩
abbrev cX8_margin : ByteArray := prog_1_method_32_code
def yX8_margin : MethodName := ⟨RX8, "margin", "(II)I"⟩
abbrev cX8_mean : ByteArray := prog_1_method_74_code
def yX8_mean : MethodName := ⟨RX8, "mean", "(II)J"⟩
abbrev cX8_mute : ByteArray := prog_1_method_43_code
def yX8_mute : MethodName := ⟨RX8, "mute", "()I"⟩
abbrev cX8_ohms : ByteArray := prog_1_method_11_code
def yX8_ohms : MethodName := ⟨RX8, "ohms", "(II)J"⟩
abbrev cX8_pairSet : ByteArray := prog_1_method_126_code
def yX8_pairSet : MethodName := ⟨RX8, "pairSet", "(IIII)I"⟩
abbrev cX8_partOf : ByteArray := prog_1_method_103_code
def yX8_partOf : MethodName := ⟨RX8, "partOf", "(JJI)J"⟩
abbrev cX8_power : ByteArray := prog_1_method_102_code
def yX8_power : MethodName := ⟨RX8, "power", "(II)J"⟩
abbrev cX8_rate : ByteArray := prog_1_method_81_code
def yX8_rate : MethodName := ⟨RX8, "rate", "(II)I"⟩
abbrev cX8_reach : ByteArray := prog_1_method_37_code
def yX8_reach : MethodName := ⟨RX8, "reach", "(I)I"⟩
abbrev cX8_readByLeaks : ByteArray := prog_1_method_124_code
def yX8_readByLeaks : MethodName := ⟨RX8, "readByLeaks", "(III)V"⟩
abbrev cX8_refusalOfRow : ByteArray := prog_1_method_119_code
def yX8_refusalOfRow : MethodName := ⟨RX8, "refusalOfRow", "(I)I"⟩
abbrev cX8_refusalOfSeen : ByteArray := prog_1_method_118_code
def yX8_refusalOfSeen : MethodName := ⟨RX8, "refusalOfSeen", "(II)I"⟩
abbrev cX8_rests : ByteArray := prog_1_method_71_code
def yX8_rests : MethodName := ⟨RX8, "rests", "(II)I"⟩
abbrev cX8_rises : ByteArray := prog_1_method_34_code
def yX8_rises : MethodName := ⟨RX8, "rises", "(I)I"⟩
abbrev cX8_settleAsTold : ByteArray := prog_1_method_104_code
def yX8_settleAsTold : MethodName := ⟨RX8, "settleAsTold", "(I)V"⟩
abbrev cX8_share : ByteArray := prog_1_method_70_code
def yX8_share : MethodName := ⟨RX8, "share", "(II)I"⟩
abbrev cX8_silent : ByteArray := prog_1_method_19_code
def yX8_silent : MethodName := ⟨RX8, "silent", "(I)I"⟩
abbrev cX8_snapped : ByteArray := prog_1_method_48_code
def yX8_snapped : MethodName := ⟨RX8, "snapped", "(I)I"⟩
abbrev cX8_sore : ByteArray := prog_1_method_17_code
def yX8_sore : MethodName := ⟨RX8, "sore", "(I)I"⟩
abbrev cX8_span : ByteArray := prog_1_method_6_code
def yX8_span : MethodName := ⟨RX8, "span", "(II)I"⟩
abbrev cX8_spell : ByteArray := prog_1_method_31_code
def yX8_spell : MethodName := ⟨RX8, "spell", "()I"⟩
abbrev cX8_spots : ByteArray := prog_1_method_64_code
def yX8_spots : MethodName := ⟨RX8, "spots", "(I)I"⟩
abbrev cX8_stations : ByteArray := prog_1_method_7_code
def yX8_stations : MethodName := ⟨RX8, "stations", "()I"⟩
abbrev cX8_steep : ByteArray := prog_1_method_42_code
def yX8_steep : MethodName := ⟨RX8, "steep", "(I)I"⟩
abbrev cX8_strong : ByteArray := prog_1_method_52_code
def yX8_strong : MethodName := ⟨RX8, "strong", "()I"⟩
abbrev cX8_sum : ByteArray := prog_1_method_28_code
def yX8_sum : MethodName := ⟨RX8, "sum", "()I"⟩
abbrev cX8_thick : ByteArray := prog_1_method_58_code
def yX8_thick : MethodName := ⟨RX8, "thick", "()I"⟩
abbrev cX8_volts : ByteArray := prog_1_method_13_code
def yX8_volts : MethodName := ⟨RX8, "volts", "(III)J"⟩
abbrev cX8_weakest : ByteArray := prog_1_method_51_code
def yX8_weakest : MethodName := ⟨RX8, "weakest", "()I"⟩
abbrev cX8_wetByDraws : ByteArray := prog_1_method_129_code
def yX8_wetByDraws : MethodName := ⟨RX8, "wetByDraws", "(I)I"⟩
abbrev cX8_wets : ByteArray := prog_1_method_8_code
def yX8_wets : MethodName := ⟨RX8, "wets", "()I"⟩
abbrev cX8_when : ByteArray := prog_1_method_21_code
def yX8_when : MethodName := ⟨RX8, "when", "(I)I"⟩
abbrev cX8_whole : ByteArray := prog_1_method_14_code
def yX8_whole : MethodName := ⟨RX8, "whole", "(II)I"⟩
abbrev cX8_wholeVolts : ByteArray := prog_1_method_105_code
def yX8_wholeVolts : MethodName := ⟨RX8, "wholeVolts", "(I)I"⟩
abbrev cX8_without : ByteArray := prog_1_method_46_code
def yX8_without : MethodName := ⟨RX8, "without", "(I)I"⟩
abbrev cX8_worst : ByteArray := prog_1_method_29_code
def yX8_worst : MethodName := ⟨RX8, "worst", "(I)I"⟩
abbrev cX8_worth : ByteArray := prog_1_method_69_code
def yX8_worth : MethodName := ⟨RX8, "worth", "(I)I"⟩
abbrev cX8_worthOf : ByteArray := prog_1_method_114_code
def yX8_worthOf : MethodName := ⟨RX8, "worthOf", "(I)I"⟩
theorem w_10 : Cond.selects RX8 yX8_isPole yX8_isPole ∈ lw_ok := List.mem_filter.mpr ⟨List.mem_of_getElem? (i := 10) (by decide +kernel), rfl⟩
theorem w_11 : Cond.selects RX8 yX8_isTold yX8_isTold ∈ lw_ok := List.mem_filter.mpr ⟨List.mem_of_getElem? (i := 11) (by decide +kernel), rfl⟩
theorem w_12 : Cond.selects RX8 yX8_isDay yX8_isDay ∈ lw_ok := List.mem_filter.mpr ⟨List.mem_of_getElem? (i := 12) (by decide +kernel), rfl⟩
theorem w_13 : Cond.selects RX4 yX4_isWet yX4_isWet ∈ lw_ok := List.mem_filter.mpr ⟨List.mem_of_getElem? (i := 13) (by decide +kernel), rfl⟩
theorem w_14 : Cond.selects RX4 yX4_wetDays yX4_wetDays ∈ lw_ok := List.mem_filter.mpr ⟨List.mem_of_getElem? (i := 14) (by decide +kernel), rfl⟩
theorem w_15 : Cond.selects RX8 yX8_settleAsTold yX8_settleAsTold ∈ lw_ok := List.mem_filter.mpr ⟨List.mem_of_getElem? (i := 15) (by decide +kernel), rfl⟩
theorem w_16 : Cond.selects RX8 yX8_partOf yX8_partOf ∈ lw_ok := List.mem_filter.mpr ⟨List.mem_of_getElem? (i := 16) (by decide +kernel), rfl⟩
theorem w_17 : Cond.selects RX8 yX8_wholeVolts yX8_wholeVolts ∈ lw_ok := List.mem_filter.mpr ⟨List.mem_of_getElem? (i := 17) (by decide +kernel), rfl⟩
theorem w_18 : Cond.selects RX8 yX8_heardBits yX8_heardBits ∈ lw_ok := List.mem_filter.mpr ⟨List.mem_of_getElem? (i := 18) (by decide +kernel), rfl⟩
theorem w_19 : Cond.selects RX8 yX8_isStation yX8_isStation ∈ lw_ok := List.mem_filter.mpr ⟨List.mem_of_getElem? (i := 19) (by decide +kernel), rfl⟩
theorem w_20 : Cond.selects RX8 yX8_allDays yX8_allDays ∈ lw_ok := List.mem_filter.mpr ⟨List.mem_of_getElem? (i := 20) (by decide +kernel), rfl⟩
theorem w_21 : Cond.selects RX8 yX8_hearingDays yX8_hearingDays ∈ lw_ok := List.mem_filter.mpr ⟨List.mem_of_getElem? (i := 21) (by decide +kernel), rfl⟩
theorem w_22 : Cond.selects RX8 yX8_daysHeard yX8_daysHeard ∈ lw_ok := List.mem_filter.mpr ⟨List.mem_of_getElem? (i := 22) (by decide +kernel), rfl⟩
theorem w_23 : Cond.selects RX8 yX8_clearDays yX8_clearDays ∈ lw_ok := List.mem_filter.mpr ⟨List.mem_of_getElem? (i := 23) (by decide +kernel), rfl⟩
theorem w_24 : Cond.selects RX8 yX8_listenAsTold yX8_listenAsTold ∈ lw_ok := List.mem_filter.mpr ⟨List.mem_of_getElem? (i := 24) (by decide +kernel), rfl⟩
theorem w_25 : Cond.selects RX8 yX8_heardInAll yX8_heardInAll ∈ lw_ok := List.mem_filter.mpr ⟨List.mem_of_getElem? (i := 25) (by decide +kernel), rfl⟩
theorem w_26 : Cond.selects RX8 yX8_allPoles yX8_allPoles ∈ lw_ok := List.mem_filter.mpr ⟨List.mem_of_getElem? (i := 26) (by decide +kernel), rfl⟩
theorem w_27 : Cond.selects RX8 yX8_worthOf yX8_worthOf ∈ lw_ok := List.mem_filter.mpr ⟨List.mem_of_getElem? (i := 27) (by decide +kernel), rfl⟩
theorem w_28 : Cond.selects RX8 yX8_firstByDays yX8_firstByDays ∈ lw_ok := List.mem_filter.mpr ⟨List.mem_of_getElem? (i := 28) (by decide +kernel), rfl⟩
theorem w_29 : Cond.selects RX8 yX8_heardDaysOf yX8_heardDaysOf ∈ lw_ok := List.mem_filter.mpr ⟨List.mem_of_getElem? (i := 29) (by decide +kernel), rfl⟩
theorem w_30 : Cond.selects RX8 yX8_leastBattery yX8_leastBattery ∈ lw_ok := List.mem_filter.mpr ⟨List.mem_of_getElem? (i := 30) (by decide +kernel), rfl⟩
theorem w_31 : Cond.selects RX8 yX8_leastCure yX8_leastCure ∈ lw_ok := List.mem_filter.mpr ⟨List.mem_of_getElem? (i := 31) (by decide +kernel), rfl⟩
theorem w_32 : Cond.selects RX8 yX8_refusalOfSeen yX8_refusalOfSeen ∈ lw_ok := List.mem_filter.mpr ⟨List.mem_of_getElem? (i := 32) (by decide +kernel), rfl⟩
theorem w_33 : Cond.selects RX8 yX8_refusalOfRow yX8_refusalOfRow ∈ lw_ok := List.mem_filter.mpr ⟨List.mem_of_getElem? (i := 33) (by decide +kernel), rfl⟩
theorem w_34 : Cond.selects RX8 yX8_fittingLeaks yX8_fittingLeaks ∈ lw_ok := List.mem_filter.mpr ⟨List.mem_of_getElem? (i := 34) (by decide +kernel), rfl⟩
theorem w_35 : Cond.selects RX8 yX8_isAsSeen yX8_isAsSeen ∈ lw_ok := List.mem_filter.mpr ⟨List.mem_of_getElem? (i := 35) (by decide +kernel), rfl⟩
theorem w_36 : Cond.selects RX8 yX8_dayToAsk yX8_dayToAsk ∈ lw_ok := List.mem_filter.mpr ⟨List.mem_of_getElem? (i := 36) (by decide +kernel), rfl⟩
theorem w_37 : Cond.selects RX8 yX8_leftAtWorst yX8_leftAtWorst ∈ lw_ok := List.mem_filter.mpr ⟨List.mem_of_getElem? (i := 37) (by decide +kernel), rfl⟩
theorem w_38 : Cond.selects RX8 yX8_readByLeaks yX8_readByLeaks ∈ lw_ok := List.mem_filter.mpr ⟨List.mem_of_getElem? (i := 38) (by decide +kernel), rfl⟩
theorem w_39 : Cond.selects RX8 yX8_alikeFrom yX8_alikeFrom ∈ lw_ok := List.mem_filter.mpr ⟨List.mem_of_getElem? (i := 39) (by decide +kernel), rfl⟩
theorem w_40 : Cond.selects RX8 yX8_heardByLaw yX8_heardByLaw ∈ lw_ok := List.mem_filter.mpr ⟨List.mem_of_getElem? (i := 40) (by decide +kernel), rfl⟩
theorem w_41 : Cond.selects RX8 yX8_gainOf yX8_gainOf ∈ lw_ok := List.mem_filter.mpr ⟨List.mem_of_getElem? (i := 41) (by decide +kernel), rfl⟩
theorem w_42 : Cond.selects RX8 yX8_isChanceDay yX8_isChanceDay ∈ lw_ok := List.mem_filter.mpr ⟨List.mem_of_getElem? (i := 42) (by decide +kernel), rfl⟩
theorem w_43 : Cond.selects RX8 yX8_heardByChance yX8_heardByChance ∈ lw_ok := List.mem_filter.mpr ⟨List.mem_of_getElem? (i := 43) (by decide +kernel), rfl⟩
theorem w_44 : Cond.selects RX8 yX8_wetByDraws yX8_wetByDraws ∈ lw_ok := List.mem_filter.mpr ⟨List.mem_of_getElem? (i := 44) (by decide +kernel), rfl⟩
theorem w_45 : Cond.selects RX8 yX8_heardByDraws yX8_heardByDraws ∈ lw_ok := List.mem_filter.mpr ⟨List.mem_of_getElem? (i := 45) (by decide +kernel), rfl⟩
theorem w_105 : Cond.initialized RX8 ∈ lw_ok := List.mem_filter.mpr ⟨List.mem_of_getElem? (i := 105) (by decide +kernel), rfl⟩
theorem w_109 : Cond.initialized RX2 ∈ lw_ok := List.mem_filter.mpr ⟨List.mem_of_getElem? (i := 109) (by decide +kernel), rfl⟩
theorem w_110 : Cond.initialized RX3 ∈ lw_ok := List.mem_filter.mpr ⟨List.mem_of_getElem? (i := 110) (by decide +kernel), rfl⟩
theorem w_111 : Cond.initialized RX4 ∈ lw_ok := List.mem_filter.mpr ⟨List.mem_of_getElem? (i := 111) (by decide +kernel), rfl⟩
theorem w_112 : Cond.initialized RX1 ∈ lw_ok := List.mem_filter.mpr ⟨List.mem_of_getElem? (i := 112) (by decide +kernel), rfl⟩
theorem w_113 : Cond.initialized RX0 ∈ lw_ok := List.mem_filter.mpr ⟨List.mem_of_getElem? (i := 113) (by decide +kernel), rfl⟩
theorem w_119 : Cond.initialized RJ9 ∈ lw_ok := List.mem_filter.mpr ⟨List.mem_of_getElem? (i := 119) (by decide +kernel), rfl⟩
theorem w_121 : Cond.initialized RJ10 ∈ lw_ok := List.mem_filter.mpr ⟨List.mem_of_getElem? (i := 121) (by decide +kernel), rfl⟩
theorem w_122 : Cond.initialized RJ6 ∈ lw_ok := List.mem_filter.mpr ⟨List.mem_of_getElem? (i := 122) (by decide +kernel), rfl⟩
theorem w_137 : Cond.fieldLink RX5 9 "LeakyLine$Tape" "bytes" "[B" ∈ lw_ok := List.mem_filter.mpr ⟨List.mem_of_getElem? (i := 137) (by decide +kernel), rfl⟩
theorem w_138 : Cond.fieldLink RX5 15 "LeakyLine$Tape" "length" "I" ∈ lw_ok := List.mem_filter.mpr ⟨List.mem_of_getElem? (i := 138) (by decide +kernel), rfl⟩
theorem w_203 : Cond.fieldLink RX8 118 "LeakyLine$Line" "lines" "I" ∈ lw_ok := List.mem_filter.mpr ⟨List.mem_of_getElem? (i := 203) (by decide +kernel), rfl⟩
theorem w_206 : Cond.fieldLink RX8 242 "LeakyLine$Line" "days" "I" ∈ lw_ok := List.mem_filter.mpr ⟨List.mem_of_getElem? (i := 206) (by decide +kernel), rfl⟩
theorem w_208 : Cond.fieldLink RX4 31 "LeakyLine$Line" "law" "I" ∈ lw_ok := List.mem_filter.mpr ⟨List.mem_of_getElem? (i := 208) (by decide +kernel), rfl⟩
theorem w_213 : Cond.fieldLink RX8 355 "LeakyLine$Line" "odds" "I" ∈ lw_ok := List.mem_filter.mpr ⟨List.mem_of_getElem? (i := 213) (by decide +kernel), rfl⟩
theorem w_216 : Cond.fieldLink RX8 175 "LeakyLine$Line" "volts" "I" ∈ lw_ok := List.mem_filter.mpr ⟨List.mem_of_getElem? (i := 216) (by decide +kernel), rfl⟩
theorem w_217 : Cond.fieldLink RX2 27 "LeakyLine$Line" "spans" "I" ∈ lw_ok := List.mem_filter.mpr ⟨List.mem_of_getElem? (i := 217) (by decide +kernel), rfl⟩
theorem w_218 : Cond.fieldLink RX1 36 "LeakyLine$Line" "spans" "I" ∈ lw_ok := List.mem_filter.mpr ⟨List.mem_of_getElem? (i := 218) (by decide +kernel), rfl⟩
theorem w_219 : Cond.fieldLink RX4 67 "LeakyLine$Line" "spans" "I" ∈ lw_ok := List.mem_filter.mpr ⟨List.mem_of_getElem? (i := 219) (by decide +kernel), rfl⟩
theorem w_221 : Cond.fieldLink RX8 210 "LeakyLine$Line" "spans" "I" ∈ lw_ok := List.mem_filter.mpr ⟨List.mem_of_getElem? (i := 221) (by decide +kernel), rfl⟩
theorem w_226 : Cond.fieldLink RX4 34 "LeakyLine$Line" "wet" "I" ∈ lw_ok := List.mem_filter.mpr ⟨List.mem_of_getElem? (i := 226) (by decide +kernel), rfl⟩
theorem w_228 : Cond.fieldLink RX8 142 "LeakyLine$Line" "wet" "I" ∈ lw_ok := List.mem_filter.mpr ⟨List.mem_of_getElem? (i := 228) (by decide +kernel), rfl⟩
theorem w_230 : Cond.fieldLink RX8 335 "LeakyLine$Line" "acts" "I" ∈ lw_ok := List.mem_filter.mpr ⟨List.mem_of_getElem? (i := 230) (by decide +kernel), rfl⟩
theorem w_232 : Cond.fieldLink RX4 35 "LeakyLine$Line" "ohms" "[I" ∈ lw_ok := List.mem_filter.mpr ⟨List.mem_of_getElem? (i := 232) (by decide +kernel), rfl⟩
theorem w_234 : Cond.fieldLink RX8 125 "LeakyLine$Line" "ohms" "[I" ∈ lw_ok := List.mem_filter.mpr ⟨List.mem_of_getElem? (i := 234) (by decide +kernel), rfl⟩
theorem w_236 : Cond.fieldLink RX4 42 "LeakyLine$Line" "leaks" "[I" ∈ lw_ok := List.mem_filter.mpr ⟨List.mem_of_getElem? (i := 236) (by decide +kernel), rfl⟩
theorem w_238 : Cond.fieldLink RX8 128 "LeakyLine$Line" "leaks" "[I" ∈ lw_ok := List.mem_filter.mpr ⟨List.mem_of_getElem? (i := 238) (by decide +kernel), rfl⟩
theorem w_239 : Cond.fieldLink RX2 46 "LeakyLine$Line" "needs" "[I" ∈ lw_ok := List.mem_filter.mpr ⟨List.mem_of_getElem? (i := 239) (by decide +kernel), rfl⟩
theorem w_241 : Cond.fieldLink RX8 131 "LeakyLine$Line" "needs" "[I" ∈ lw_ok := List.mem_filter.mpr ⟨List.mem_of_getElem? (i := 241) (by decide +kernel), rfl⟩
theorem w_245 : Cond.fieldLink RX2 58 "LeakyLine$Line" "cupDays" "[I" ∈ lw_ok := List.mem_filter.mpr ⟨List.mem_of_getElem? (i := 245) (by decide +kernel), rfl⟩
theorem w_246 : Cond.fieldLink RX2 61 "LeakyLine$Line" "snapDays" "[I" ∈ lw_ok := List.mem_filter.mpr ⟨List.mem_of_getElem? (i := 246) (by decide +kernel), rfl⟩
theorem w_289 : Cond.fieldLink RX3 9 "LeakyLine$Slots" "numbers" "[J" ∈ lw_ok := List.mem_filter.mpr ⟨List.mem_of_getElem? (i := 289) (by decide +kernel), rfl⟩
theorem w_290 : Cond.fieldLink RX3 15 "LeakyLine$Slots" "widths" "[I" ∈ lw_ok := List.mem_filter.mpr ⟨List.mem_of_getElem? (i := 290) (by decide +kernel), rfl⟩
theorem w_292 : Cond.fieldLink RX3 19 "LeakyLine$Slots" "sizes" "[I" ∈ lw_ok := List.mem_filter.mpr ⟨List.mem_of_getElem? (i := 292) (by decide +kernel), rfl⟩
theorem w_293 : Cond.fieldLink RX8 373 "LeakyLine$Slots" "sizes" "[I" ∈ lw_ok := List.mem_filter.mpr ⟨List.mem_of_getElem? (i := 293) (by decide +kernel), rfl⟩
theorem w_308 : Cond.fieldLink RX4 9 "LeakyLine$Supposed" "law" "I" ∈ lw_ok := List.mem_filter.mpr ⟨List.mem_of_getElem? (i := 308) (by decide +kernel), rfl⟩
theorem w_309 : Cond.fieldLink RX8 308 "LeakyLine$Supposed" "law" "I" ∈ lw_ok := List.mem_filter.mpr ⟨List.mem_of_getElem? (i := 309) (by decide +kernel), rfl⟩
theorem w_310 : Cond.fieldLink RX4 15 "LeakyLine$Supposed" "wet" "I" ∈ lw_ok := List.mem_filter.mpr ⟨List.mem_of_getElem? (i := 310) (by decide +kernel), rfl⟩
theorem w_311 : Cond.fieldLink RX8 248 "LeakyLine$Supposed" "wet" "I" ∈ lw_ok := List.mem_filter.mpr ⟨List.mem_of_getElem? (i := 311) (by decide +kernel), rfl⟩
theorem w_312 : Cond.fieldLink RX4 18 "LeakyLine$Supposed" "cupSet" "I" ∈ lw_ok := List.mem_filter.mpr ⟨List.mem_of_getElem? (i := 312) (by decide +kernel), rfl⟩
theorem w_313 : Cond.fieldLink RX8 409 "LeakyLine$Supposed" "cupSet" "I" ∈ lw_ok := List.mem_filter.mpr ⟨List.mem_of_getElem? (i := 313) (by decide +kernel), rfl⟩
theorem w_314 : Cond.fieldLink RX4 21 "LeakyLine$Supposed" "broken" "I" ∈ lw_ok := List.mem_filter.mpr ⟨List.mem_of_getElem? (i := 314) (by decide +kernel), rfl⟩
theorem w_315 : Cond.fieldLink RX8 263 "LeakyLine$Supposed" "broken" "I" ∈ lw_ok := List.mem_filter.mpr ⟨List.mem_of_getElem? (i := 315) (by decide +kernel), rfl⟩
theorem w_316 : Cond.fieldLink RX4 24 "LeakyLine$Supposed" "ohms" "[I" ∈ lw_ok := List.mem_filter.mpr ⟨List.mem_of_getElem? (i := 316) (by decide +kernel), rfl⟩
theorem w_317 : Cond.fieldLink RX1 51 "LeakyLine$Supposed" "ohms" "[I" ∈ lw_ok := List.mem_filter.mpr ⟨List.mem_of_getElem? (i := 317) (by decide +kernel), rfl⟩
theorem w_318 : Cond.fieldLink RX8 288 "LeakyLine$Supposed" "ohms" "[I" ∈ lw_ok := List.mem_filter.mpr ⟨List.mem_of_getElem? (i := 318) (by decide +kernel), rfl⟩
theorem w_319 : Cond.fieldLink RX4 28 "LeakyLine$Supposed" "leaks" "[I" ∈ lw_ok := List.mem_filter.mpr ⟨List.mem_of_getElem? (i := 319) (by decide +kernel), rfl⟩
theorem w_320 : Cond.fieldLink RX8 426 "LeakyLine$Supposed" "leaks" "[I" ∈ lw_ok := List.mem_filter.mpr ⟨List.mem_of_getElem? (i := 320) (by decide +kernel), rfl⟩
theorem w_340 : Cond.fieldLink RX1 9 "LeakyLine$Ladder" "lead" "I" ∈ lw_ok := List.mem_filter.mpr ⟨List.mem_of_getElem? (i := 340) (by decide +kernel), rfl⟩
theorem w_341 : Cond.fieldLink RX8 200 "LeakyLine$Ladder" "lead" "I" ∈ lw_ok := List.mem_filter.mpr ⟨List.mem_of_getElem? (i := 341) (by decide +kernel), rfl⟩
theorem w_342 : Cond.fieldLink RX1 15 "LeakyLine$Ladder" "source" "J" ∈ lw_ok := List.mem_filter.mpr ⟨List.mem_of_getElem? (i := 342) (by decide +kernel), rfl⟩
theorem w_343 : Cond.fieldLink RX8 182 "LeakyLine$Ladder" "source" "J" ∈ lw_ok := List.mem_filter.mpr ⟨List.mem_of_getElem? (i := 343) (by decide +kernel), rfl⟩
theorem w_344 : Cond.fieldLink RX1 19 "LeakyLine$Ladder" "leaks" "[I" ∈ lw_ok := List.mem_filter.mpr ⟨List.mem_of_getElem? (i := 344) (by decide +kernel), rfl⟩
theorem w_345 : Cond.fieldLink RX8 199 "LeakyLine$Ladder" "leaks" "[I" ∈ lw_ok := List.mem_filter.mpr ⟨List.mem_of_getElem? (i := 345) (by decide +kernel), rfl⟩
theorem w_346 : Cond.fieldLink RX1 23 "LeakyLine$Ladder" "volts" "[J" ∈ lw_ok := List.mem_filter.mpr ⟨List.mem_of_getElem? (i := 346) (by decide +kernel), rfl⟩
theorem w_347 : Cond.fieldLink RX8 190 "LeakyLine$Ladder" "volts" "[J" ∈ lw_ok := List.mem_filter.mpr ⟨List.mem_of_getElem? (i := 347) (by decide +kernel), rfl⟩
theorem w_348 : Cond.fieldLink RX1 27 "LeakyLine$Ladder" "amps" "[J" ∈ lw_ok := List.mem_filter.mpr ⟨List.mem_of_getElem? (i := 348) (by decide +kernel), rfl⟩
theorem w_366 : Cond.fieldLink RX0 9 "LeakyLine$Fraction" "above" "J" ∈ lw_ok := List.mem_filter.mpr ⟨List.mem_of_getElem? (i := 366) (by decide +kernel), rfl⟩
theorem w_367 : Cond.fieldLink RX8 420 "LeakyLine$Fraction" "above" "J" ∈ lw_ok := List.mem_filter.mpr ⟨List.mem_of_getElem? (i := 367) (by decide +kernel), rfl⟩
theorem w_368 : Cond.fieldLink RX0 15 "LeakyLine$Fraction" "below" "J" ∈ lw_ok := List.mem_filter.mpr ⟨List.mem_of_getElem? (i := 368) (by decide +kernel), rfl⟩
theorem w_369 : Cond.fieldLink RX8 423 "LeakyLine$Fraction" "below" "J" ∈ lw_ok := List.mem_filter.mpr ⟨List.mem_of_getElem? (i := 369) (by decide +kernel), rfl⟩
theorem w_378 : Cond.fieldLink RX8 33 "LeakyLine" "line" "LLeakyLine$Line;" ∈ lw_ok := List.mem_filter.mpr ⟨List.mem_of_getElem? (i := 378) (by decide +kernel), rfl⟩
theorem w_381 : Cond.fieldLink RX8 47 "LeakyLine" "slots" "LLeakyLine$Slots;" ∈ lw_ok := List.mem_filter.mpr ⟨List.mem_of_getElem? (i := 381) (by decide +kernel), rfl⟩
theorem w_382 : Cond.fieldLink RX8 54 "LeakyLine" "supposed" "LLeakyLine$Supposed;" ∈ lw_ok := List.mem_filter.mpr ⟨List.mem_of_getElem? (i := 382) (by decide +kernel), rfl⟩
theorem w_383 : Cond.fieldLink RX8 61 "LeakyLine" "ladder" "LLeakyLine$Ladder;" ∈ lw_ok := List.mem_filter.mpr ⟨List.mem_of_getElem? (i := 383) (by decide +kernel), rfl⟩
theorem w_384 : Cond.fieldLink RX8 68 "LeakyLine" "fraction" "LLeakyLine$Fraction;" ∈ lw_ok := List.mem_filter.mpr ⟨List.mem_of_getElem? (i := 384) (by decide +kernel), rfl⟩
theorem w_385 : Cond.fieldLink RX8 72 "LeakyLine" "heardOn" "[I" ∈ lw_ok := List.mem_filter.mpr ⟨List.mem_of_getElem? (i := 385) (by decide +kernel), rfl⟩
theorem w_386 : Cond.fieldLink RX8 76 "LeakyLine" "worths" "[I" ∈ lw_ok := List.mem_filter.mpr ⟨List.mem_of_getElem? (i := 386) (by decide +kernel), rfl⟩
theorem w_387 : Cond.fieldLink RX8 79 "LeakyLine" "readsAbove" "[J" ∈ lw_ok := List.mem_filter.mpr ⟨List.mem_of_getElem? (i := 387) (by decide +kernel), rfl⟩
theorem w_388 : Cond.fieldLink RX8 83 "LeakyLine" "readsBelow" "[J" ∈ lw_ok := List.mem_filter.mpr ⟨List.mem_of_getElem? (i := 388) (by decide +kernel), rfl⟩
theorem w_389 : Cond.fieldLink RX8 86 "LeakyLine" "faultKind" "I" ∈ lw_ok := List.mem_filter.mpr ⟨List.mem_of_getElem? (i := 389) (by decide +kernel), rfl⟩
theorem w_390 : Cond.fieldLink RX8 90 "LeakyLine" "faultPlace" "I" ∈ lw_ok := List.mem_filter.mpr ⟨List.mem_of_getElem? (i := 390) (by decide +kernel), rfl⟩
theorem w_540 : Cond.static yJ9_max_7cf53 ∈ lw_ok := List.mem_filter.mpr ⟨List.mem_of_getElem? (i := 540) (by decide +kernel), rfl⟩
theorem w_599 : Cond.static arraycopyName ∈ lw_ok := List.mem_filter.mpr ⟨List.mem_of_getElem? (i := 599) (by decide +kernel), rfl⟩
theorem w_600 : Cond.native arraycopyName ∈ lw_ok := List.mem_filter.mpr ⟨List.mem_of_getElem? (i := 600) (by decide +kernel), rfl⟩
theorem w_609 : Cond.methodLink RX8 121 yX8_isPole ∈ lw_ok := List.mem_filter.mpr ⟨List.mem_of_getElem? (i := 609) (by decide +kernel), rfl⟩
theorem w_611 : Cond.instanceMethod yX8_isPole ∈ lw_ok := List.mem_filter.mpr ⟨List.mem_of_getElem? (i := 611) (by decide +kernel), rfl⟩
theorem w_612 : Cond.code yX8_isPole cX8_isPole 2 (some .boolean) ∈ lw_ok := List.mem_filter.mpr ⟨List.mem_of_getElem? (i := 612) (by decide +kernel), rfl⟩
theorem w_617 : Cond.methodLink RX8 134 yX8_isTold ∈ lw_ok := List.mem_filter.mpr ⟨List.mem_of_getElem? (i := 617) (by decide +kernel), rfl⟩
theorem w_619 : Cond.instanceMethod yX8_isTold ∈ lw_ok := List.mem_filter.mpr ⟨List.mem_of_getElem? (i := 619) (by decide +kernel), rfl⟩
theorem w_620 : Cond.code yX8_isTold cX8_isTold 1 (some .boolean) ∈ lw_ok := List.mem_filter.mpr ⟨List.mem_of_getElem? (i := 620) (by decide +kernel), rfl⟩
theorem w_621 : Cond.methodLink RX8 138 yX2_stationBits ∈ lw_ok := List.mem_filter.mpr ⟨List.mem_of_getElem? (i := 621) (by decide +kernel), rfl⟩
theorem w_622 : Cond.instanceMethod yX2_stationBits ∈ lw_ok := List.mem_filter.mpr ⟨List.mem_of_getElem? (i := 622) (by decide +kernel), rfl⟩
theorem w_623 : Cond.selects RX2 yX2_stationBits yX2_stationBits ∈ lw_ok := List.mem_filter.mpr ⟨List.mem_of_getElem? (i := 623) (by decide +kernel), rfl⟩
theorem w_624 : Cond.code yX2_stationBits cX2_stationBits 3 (some .int) ∈ lw_ok := List.mem_filter.mpr ⟨List.mem_of_getElem? (i := 624) (by decide +kernel), rfl⟩
theorem w_633 : Cond.methodLink RX8 145 yX8_isDay ∈ lw_ok := List.mem_filter.mpr ⟨List.mem_of_getElem? (i := 633) (by decide +kernel), rfl⟩
theorem w_635 : Cond.instanceMethod yX8_isDay ∈ lw_ok := List.mem_filter.mpr ⟨List.mem_of_getElem? (i := 635) (by decide +kernel), rfl⟩
theorem w_636 : Cond.code yX8_isDay cX8_isDay 2 (some .boolean) ∈ lw_ok := List.mem_filter.mpr ⟨List.mem_of_getElem? (i := 636) (by decide +kernel), rfl⟩
theorem w_637 : Cond.methodLink RX8 148 yX4_asTold ∈ lw_ok := List.mem_filter.mpr ⟨List.mem_of_getElem? (i := 637) (by decide +kernel), rfl⟩
theorem w_638 : Cond.instanceMethod yX4_asTold ∈ lw_ok := List.mem_filter.mpr ⟨List.mem_of_getElem? (i := 638) (by decide +kernel), rfl⟩
theorem w_639 : Cond.selects RX4 yX4_asTold yX4_asTold ∈ lw_ok := List.mem_filter.mpr ⟨List.mem_of_getElem? (i := 639) (by decide +kernel), rfl⟩
theorem w_640 : Cond.code yX4_asTold cX4_asTold 2 none ∈ lw_ok := List.mem_filter.mpr ⟨List.mem_of_getElem? (i := 640) (by decide +kernel), rfl⟩
theorem w_641 : Cond.methodLink RX4 36 arraycopyName ∈ lw_ok := List.mem_filter.mpr ⟨List.mem_of_getElem? (i := 641) (by decide +kernel), rfl⟩
theorem w_642 : Cond.methodLink RX8 151 yX4_leakOn ∈ lw_ok := List.mem_filter.mpr ⟨List.mem_of_getElem? (i := 642) (by decide +kernel), rfl⟩
theorem w_643 : Cond.instanceMethod yX4_leakOn ∈ lw_ok := List.mem_filter.mpr ⟨List.mem_of_getElem? (i := 643) (by decide +kernel), rfl⟩
theorem w_644 : Cond.selects RX4 yX4_leakOn yX4_leakOn ∈ lw_ok := List.mem_filter.mpr ⟨List.mem_of_getElem? (i := 644) (by decide +kernel), rfl⟩
theorem w_645 : Cond.code yX4_leakOn cX4_leakOn 6 (some .int) ∈ lw_ok := List.mem_filter.mpr ⟨List.mem_of_getElem? (i := 645) (by decide +kernel), rfl⟩
theorem w_646 : Cond.methodLink RX4 43 yX2_latestCup ∈ lw_ok := List.mem_filter.mpr ⟨List.mem_of_getElem? (i := 646) (by decide +kernel), rfl⟩
theorem w_647 : Cond.instanceMethod yX2_latestCup ∈ lw_ok := List.mem_filter.mpr ⟨List.mem_of_getElem? (i := 647) (by decide +kernel), rfl⟩
theorem w_648 : Cond.selects RX2 yX2_latestCup yX2_latestCup ∈ lw_ok := List.mem_filter.mpr ⟨List.mem_of_getElem? (i := 648) (by decide +kernel), rfl⟩
theorem w_649 : Cond.code yX2_latestCup cX2_latestCup 4 (some .int) ∈ lw_ok := List.mem_filter.mpr ⟨List.mem_of_getElem? (i := 649) (by decide +kernel), rfl⟩
theorem w_650 : Cond.methodLink RX2 86 yJ6_numberOfLeadingZeros_0f7a4 ∈ lw_ok := List.mem_filter.mpr ⟨List.mem_of_getElem? (i := 650) (by decide +kernel), rfl⟩
theorem w_651 : Cond.static yJ6_numberOfLeadingZeros_0f7a4 ∈ lw_ok := List.mem_filter.mpr ⟨List.mem_of_getElem? (i := 651) (by decide +kernel), rfl⟩
theorem w_652 : Cond.code yJ6_numberOfLeadingZeros_0f7a4 cJ6_numberOfLeadingZeros_0f7a4 2 (some .int) ∈ lw_ok := List.mem_filter.mpr ⟨List.mem_of_getElem? (i := 652) (by decide +kernel), rfl⟩
theorem w_653 : Cond.constant RJ6 264 65536 ∈ lw_ok := List.mem_filter.mpr ⟨List.mem_of_getElem? (i := 653) (by decide +kernel), rfl⟩
theorem w_655 : Cond.static yX8_hasBit ∈ lw_ok := List.mem_filter.mpr ⟨List.mem_of_getElem? (i := 655) (by decide +kernel), rfl⟩
theorem w_656 : Cond.code yX8_hasBit cX8_hasBit 2 (some .boolean) ∈ lw_ok := List.mem_filter.mpr ⟨List.mem_of_getElem? (i := 656) (by decide +kernel), rfl⟩
theorem w_657 : Cond.methodLink RX4 51 yX4_isWet ∈ lw_ok := List.mem_filter.mpr ⟨List.mem_of_getElem? (i := 657) (by decide +kernel), rfl⟩
theorem w_659 : Cond.instanceMethod yX4_isWet ∈ lw_ok := List.mem_filter.mpr ⟨List.mem_of_getElem? (i := 659) (by decide +kernel), rfl⟩
theorem w_660 : Cond.code yX4_isWet cX4_isWet 2 (some .boolean) ∈ lw_ok := List.mem_filter.mpr ⟨List.mem_of_getElem? (i := 660) (by decide +kernel), rfl⟩
theorem w_661 : Cond.methodLink RX4 55 yX4_halved ∈ lw_ok := List.mem_filter.mpr ⟨List.mem_of_getElem? (i := 661) (by decide +kernel), rfl⟩
theorem w_662 : Cond.static yX4_halved ∈ lw_ok := List.mem_filter.mpr ⟨List.mem_of_getElem? (i := 662) (by decide +kernel), rfl⟩
theorem w_663 : Cond.code yX4_halved cX4_halved 1 (some .int) ∈ lw_ok := List.mem_filter.mpr ⟨List.mem_of_getElem? (i := 663) (by decide +kernel), rfl⟩
theorem w_664 : Cond.methodLink RX4 59 yJ9_max_7cf53 ∈ lw_ok := List.mem_filter.mpr ⟨List.mem_of_getElem? (i := 664) (by decide +kernel), rfl⟩
theorem w_665 : Cond.methodLink RX4 64 yX4_wetDays ∈ lw_ok := List.mem_filter.mpr ⟨List.mem_of_getElem? (i := 665) (by decide +kernel), rfl⟩
theorem w_667 : Cond.instanceMethod yX4_wetDays ∈ lw_ok := List.mem_filter.mpr ⟨List.mem_of_getElem? (i := 667) (by decide +kernel), rfl⟩
theorem w_668 : Cond.code yX4_wetDays cX4_wetDays 3 (some .int) ∈ lw_ok := List.mem_filter.mpr ⟨List.mem_of_getElem? (i := 668) (by decide +kernel), rfl⟩
theorem w_669 : Cond.methodLink RX4 73 yJ6_bitCount_0f7a4 ∈ lw_ok := List.mem_filter.mpr ⟨List.mem_of_getElem? (i := 669) (by decide +kernel), rfl⟩
theorem w_670 : Cond.static yJ6_bitCount_0f7a4 ∈ lw_ok := List.mem_filter.mpr ⟨List.mem_of_getElem? (i := 670) (by decide +kernel), rfl⟩
theorem w_671 : Cond.code yJ6_bitCount_0f7a4 cJ6_bitCount_0f7a4 1 (some .int) ∈ lw_ok := List.mem_filter.mpr ⟨List.mem_of_getElem? (i := 671) (by decide +kernel), rfl⟩
theorem w_672 : Cond.constant RJ6 265 1431655765 ∈ lw_ok := List.mem_filter.mpr ⟨List.mem_of_getElem? (i := 672) (by decide +kernel), rfl⟩
theorem w_673 : Cond.constant RJ6 266 858993459 ∈ lw_ok := List.mem_filter.mpr ⟨List.mem_of_getElem? (i := 673) (by decide +kernel), rfl⟩
theorem w_674 : Cond.constant RJ6 267 252645135 ∈ lw_ok := List.mem_filter.mpr ⟨List.mem_of_getElem? (i := 674) (by decide +kernel), rfl⟩
theorem w_679 : Cond.methodLink RX8 155 yX4_leadingOn ∈ lw_ok := List.mem_filter.mpr ⟨List.mem_of_getElem? (i := 679) (by decide +kernel), rfl⟩
theorem w_680 : Cond.instanceMethod yX4_leadingOn ∈ lw_ok := List.mem_filter.mpr ⟨List.mem_of_getElem? (i := 680) (by decide +kernel), rfl⟩
theorem w_681 : Cond.selects RX4 yX4_leadingOn yX4_leadingOn ∈ lw_ok := List.mem_filter.mpr ⟨List.mem_of_getElem? (i := 681) (by decide +kernel), rfl⟩
theorem w_682 : Cond.code yX4_leadingOn cX4_leadingOn 4 (some .int) ∈ lw_ok := List.mem_filter.mpr ⟨List.mem_of_getElem? (i := 682) (by decide +kernel), rfl⟩
theorem w_683 : Cond.methodLink RX4 70 yX2_isBroken ∈ lw_ok := List.mem_filter.mpr ⟨List.mem_of_getElem? (i := 683) (by decide +kernel), rfl⟩
theorem w_684 : Cond.instanceMethod yX2_isBroken ∈ lw_ok := List.mem_filter.mpr ⟨List.mem_of_getElem? (i := 684) (by decide +kernel), rfl⟩
theorem w_685 : Cond.selects RX2 yX2_isBroken yX2_isBroken ∈ lw_ok := List.mem_filter.mpr ⟨List.mem_of_getElem? (i := 685) (by decide +kernel), rfl⟩
theorem w_686 : Cond.code yX2_isBroken cX2_isBroken 3 (some .boolean) ∈ lw_ok := List.mem_filter.mpr ⟨List.mem_of_getElem? (i := 686) (by decide +kernel), rfl⟩
theorem w_691 : Cond.methodLink RX8 159 yX8_isPart ∈ lw_ok := List.mem_filter.mpr ⟨List.mem_of_getElem? (i := 691) (by decide +kernel), rfl⟩
theorem w_692 : Cond.static yX8_isPart ∈ lw_ok := List.mem_filter.mpr ⟨List.mem_of_getElem? (i := 692) (by decide +kernel), rfl⟩
theorem w_693 : Cond.code yX8_isPart cX8_isPart 1 (some .boolean) ∈ lw_ok := List.mem_filter.mpr ⟨List.mem_of_getElem? (i := 693) (by decide +kernel), rfl⟩
theorem w_694 : Cond.constantLong RX8 162 (-2) ∈ lw_ok := List.mem_filter.mpr ⟨List.mem_of_getElem? (i := 694) (by decide +kernel), rfl⟩
theorem w_695 : Cond.methodLink RX8 164 yX8_settleAsTold ∈ lw_ok := List.mem_filter.mpr ⟨List.mem_of_getElem? (i := 695) (by decide +kernel), rfl⟩
theorem w_697 : Cond.instanceMethod yX8_settleAsTold ∈ lw_ok := List.mem_filter.mpr ⟨List.mem_of_getElem? (i := 697) (by decide +kernel), rfl⟩
theorem w_698 : Cond.code yX8_settleAsTold cX8_settleAsTold 2 none ∈ lw_ok := List.mem_filter.mpr ⟨List.mem_of_getElem? (i := 698) (by decide +kernel), rfl⟩
theorem w_699 : Cond.methodLink RX8 281 yX1_settle ∈ lw_ok := List.mem_filter.mpr ⟨List.mem_of_getElem? (i := 699) (by decide +kernel), rfl⟩
theorem w_700 : Cond.instanceMethod yX1_settle ∈ lw_ok := List.mem_filter.mpr ⟨List.mem_of_getElem? (i := 700) (by decide +kernel), rfl⟩
theorem w_701 : Cond.selects RX1 yX1_settle yX1_settle ∈ lw_ok := List.mem_filter.mpr ⟨List.mem_of_getElem? (i := 701) (by decide +kernel), rfl⟩
theorem w_702 : Cond.code yX1_settle cX1_settle 11 none ∈ lw_ok := List.mem_filter.mpr ⟨List.mem_of_getElem? (i := 702) (by decide +kernel), rfl⟩
theorem w_703 : Cond.methodLink RX1 30 yX4_leadingOn ∈ lw_ok := List.mem_filter.mpr ⟨List.mem_of_getElem? (i := 703) (by decide +kernel), rfl⟩
theorem w_704 : Cond.methodLink RX1 41 yX4_leakOn ∈ lw_ok := List.mem_filter.mpr ⟨List.mem_of_getElem? (i := 704) (by decide +kernel), rfl⟩
theorem w_705 : Cond.methodLink RX1 45 yJ9_max_7cf53 ∈ lw_ok := List.mem_filter.mpr ⟨List.mem_of_getElem? (i := 705) (by decide +kernel), rfl⟩
theorem w_706 : Cond.methodLink RX8 167 yX1_readsInto ∈ lw_ok := List.mem_filter.mpr ⟨List.mem_of_getElem? (i := 706) (by decide +kernel), rfl⟩
theorem w_707 : Cond.instanceMethod yX1_readsInto ∈ lw_ok := List.mem_filter.mpr ⟨List.mem_of_getElem? (i := 707) (by decide +kernel), rfl⟩
theorem w_708 : Cond.selects RX1 yX1_readsInto yX1_readsInto ∈ lw_ok := List.mem_filter.mpr ⟨List.mem_of_getElem? (i := 708) (by decide +kernel), rfl⟩
theorem w_709 : Cond.code yX1_readsInto cX1_readsInto 2 none ∈ lw_ok := List.mem_filter.mpr ⟨List.mem_of_getElem? (i := 709) (by decide +kernel), rfl⟩
theorem w_710 : Cond.methodLink RX1 54 yX1_firstAmps ∈ lw_ok := List.mem_filter.mpr ⟨List.mem_of_getElem? (i := 710) (by decide +kernel), rfl⟩
theorem w_711 : Cond.instanceMethod yX1_firstAmps ∈ lw_ok := List.mem_filter.mpr ⟨List.mem_of_getElem? (i := 711) (by decide +kernel), rfl⟩
theorem w_712 : Cond.selects RX1 yX1_firstAmps yX1_firstAmps ∈ lw_ok := List.mem_filter.mpr ⟨List.mem_of_getElem? (i := 712) (by decide +kernel), rfl⟩
theorem w_713 : Cond.code yX1_firstAmps cX1_firstAmps 1 (some .long) ∈ lw_ok := List.mem_filter.mpr ⟨List.mem_of_getElem? (i := 713) (by decide +kernel), rfl⟩
theorem w_714 : Cond.methodLink RX1 58 yX0_set ∈ lw_ok := List.mem_filter.mpr ⟨List.mem_of_getElem? (i := 714) (by decide +kernel), rfl⟩
theorem w_715 : Cond.instanceMethod yX0_set ∈ lw_ok := List.mem_filter.mpr ⟨List.mem_of_getElem? (i := 715) (by decide +kernel), rfl⟩
theorem w_716 : Cond.selects RX0 yX0_set yX0_set ∈ lw_ok := List.mem_filter.mpr ⟨List.mem_of_getElem? (i := 716) (by decide +kernel), rfl⟩
theorem w_717 : Cond.code yX0_set cX0_set 7 none ∈ lw_ok := List.mem_filter.mpr ⟨List.mem_of_getElem? (i := 717) (by decide +kernel), rfl⟩
theorem w_718 : Cond.methodLink RX0 18 yJ9_abs_067f4 ∈ lw_ok := List.mem_filter.mpr ⟨List.mem_of_getElem? (i := 718) (by decide +kernel), rfl⟩
theorem w_719 : Cond.static yJ9_abs_067f4 ∈ lw_ok := List.mem_filter.mpr ⟨List.mem_of_getElem? (i := 719) (by decide +kernel), rfl⟩
theorem w_721 : Cond.methodLink RX0 24 yX0_commonDivisor ∈ lw_ok := List.mem_filter.mpr ⟨List.mem_of_getElem? (i := 721) (by decide +kernel), rfl⟩
theorem w_722 : Cond.static yX0_commonDivisor ∈ lw_ok := List.mem_filter.mpr ⟨List.mem_of_getElem? (i := 722) (by decide +kernel), rfl⟩
theorem w_723 : Cond.code yX0_commonDivisor cX0_commonDivisor 11 (some .long) ∈ lw_ok := List.mem_filter.mpr ⟨List.mem_of_getElem? (i := 723) (by decide +kernel), rfl⟩
theorem w_724 : Cond.methodLink RX8 171 yX0_part ∈ lw_ok := List.mem_filter.mpr ⟨List.mem_of_getElem? (i := 724) (by decide +kernel), rfl⟩
theorem w_725 : Cond.instanceMethod yX0_part ∈ lw_ok := List.mem_filter.mpr ⟨List.mem_of_getElem? (i := 725) (by decide +kernel), rfl⟩
theorem w_726 : Cond.selects RX0 yX0_part yX0_part ∈ lw_ok := List.mem_filter.mpr ⟨List.mem_of_getElem? (i := 726) (by decide +kernel), rfl⟩
theorem w_727 : Cond.code yX0_part cX0_part 2 (some .long) ∈ lw_ok := List.mem_filter.mpr ⟨List.mem_of_getElem? (i := 727) (by decide +kernel), rfl⟩
theorem w_732 : Cond.methodLink RX8 178 yX1_firstAmps ∈ lw_ok := List.mem_filter.mpr ⟨List.mem_of_getElem? (i := 732) (by decide +kernel), rfl⟩
theorem w_733 : Cond.methodLink RX8 186 yX8_partOf ∈ lw_ok := List.mem_filter.mpr ⟨List.mem_of_getElem? (i := 733) (by decide +kernel), rfl⟩
theorem w_735 : Cond.instanceMethod yX8_partOf ∈ lw_ok := List.mem_filter.mpr ⟨List.mem_of_getElem? (i := 735) (by decide +kernel), rfl⟩
theorem w_736 : Cond.code yX8_partOf cX8_partOf 6 (some .long) ∈ lw_ok := List.mem_filter.mpr ⟨List.mem_of_getElem? (i := 736) (by decide +kernel), rfl⟩
theorem w_737 : Cond.methodLink RX8 395 yX0_set ∈ lw_ok := List.mem_filter.mpr ⟨List.mem_of_getElem? (i := 737) (by decide +kernel), rfl⟩
theorem w_746 : Cond.methodLink RX8 192 yX8_wholeVolts ∈ lw_ok := List.mem_filter.mpr ⟨List.mem_of_getElem? (i := 746) (by decide +kernel), rfl⟩
theorem w_748 : Cond.instanceMethod yX8_wholeVolts ∈ lw_ok := List.mem_filter.mpr ⟨List.mem_of_getElem? (i := 748) (by decide +kernel), rfl⟩
theorem w_749 : Cond.code yX8_wholeVolts cX8_wholeVolts 4 (some .int) ∈ lw_ok := List.mem_filter.mpr ⟨List.mem_of_getElem? (i := 749) (by decide +kernel), rfl⟩
theorem w_754 : Cond.methodLink RX8 196 yX1_fallOver ∈ lw_ok := List.mem_filter.mpr ⟨List.mem_of_getElem? (i := 754) (by decide +kernel), rfl⟩
theorem w_755 : Cond.instanceMethod yX1_fallOver ∈ lw_ok := List.mem_filter.mpr ⟨List.mem_of_getElem? (i := 755) (by decide +kernel), rfl⟩
theorem w_756 : Cond.selects RX1 yX1_fallOver yX1_fallOver ∈ lw_ok := List.mem_filter.mpr ⟨List.mem_of_getElem? (i := 756) (by decide +kernel), rfl⟩
theorem w_757 : Cond.code yX1_fallOver cX1_fallOver 2 (some .long) ∈ lw_ok := List.mem_filter.mpr ⟨List.mem_of_getElem? (i := 757) (by decide +kernel), rfl⟩
theorem w_766 : Cond.methodLink RX8 203 yX1_leaksMore ∈ lw_ok := List.mem_filter.mpr ⟨List.mem_of_getElem? (i := 766) (by decide +kernel), rfl⟩
theorem w_767 : Cond.instanceMethod yX1_leaksMore ∈ lw_ok := List.mem_filter.mpr ⟨List.mem_of_getElem? (i := 767) (by decide +kernel), rfl⟩
theorem w_768 : Cond.selects RX1 yX1_leaksMore yX1_leaksMore ∈ lw_ok := List.mem_filter.mpr ⟨List.mem_of_getElem? (i := 768) (by decide +kernel), rfl⟩
theorem w_769 : Cond.code yX1_leaksMore cX1_leaksMore 3 (some .boolean) ∈ lw_ok := List.mem_filter.mpr ⟨List.mem_of_getElem? (i := 769) (by decide +kernel), rfl⟩
theorem w_774 : Cond.methodLink RX8 207 yX8_heardBits ∈ lw_ok := List.mem_filter.mpr ⟨List.mem_of_getElem? (i := 774) (by decide +kernel), rfl⟩
theorem w_776 : Cond.instanceMethod yX8_heardBits ∈ lw_ok := List.mem_filter.mpr ⟨List.mem_of_getElem? (i := 776) (by decide +kernel), rfl⟩
theorem w_777 : Cond.code yX8_heardBits cX8_heardBits 4 (some .int) ∈ lw_ok := List.mem_filter.mpr ⟨List.mem_of_getElem? (i := 777) (by decide +kernel), rfl⟩
theorem w_778 : Cond.methodLink RX8 213 yX8_isStation ∈ lw_ok := List.mem_filter.mpr ⟨List.mem_of_getElem? (i := 778) (by decide +kernel), rfl⟩
theorem w_780 : Cond.instanceMethod yX8_isStation ∈ lw_ok := List.mem_filter.mpr ⟨List.mem_of_getElem? (i := 780) (by decide +kernel), rfl⟩
theorem w_781 : Cond.code yX8_isStation cX8_isStation 2 (some .boolean) ∈ lw_ok := List.mem_filter.mpr ⟨List.mem_of_getElem? (i := 781) (by decide +kernel), rfl⟩
theorem w_782 : Cond.methodLink RX8 399 yX1_isEnough ∈ lw_ok := List.mem_filter.mpr ⟨List.mem_of_getElem? (i := 782) (by decide +kernel), rfl⟩
theorem w_783 : Cond.instanceMethod yX1_isEnough ∈ lw_ok := List.mem_filter.mpr ⟨List.mem_of_getElem? (i := 783) (by decide +kernel), rfl⟩
theorem w_784 : Cond.selects RX1 yX1_isEnough yX1_isEnough ∈ lw_ok := List.mem_filter.mpr ⟨List.mem_of_getElem? (i := 784) (by decide +kernel), rfl⟩
theorem w_785 : Cond.code yX1_isEnough cX1_isEnough 6 (some .boolean) ∈ lw_ok := List.mem_filter.mpr ⟨List.mem_of_getElem? (i := 785) (by decide +kernel), rfl⟩
theorem w_798 : Cond.methodLink RX8 216 yX8_allDays ∈ lw_ok := List.mem_filter.mpr ⟨List.mem_of_getElem? (i := 798) (by decide +kernel), rfl⟩
theorem w_800 : Cond.instanceMethod yX8_allDays ∈ lw_ok := List.mem_filter.mpr ⟨List.mem_of_getElem? (i := 800) (by decide +kernel), rfl⟩
theorem w_801 : Cond.code yX8_allDays cX8_allDays 1 (some .int) ∈ lw_ok := List.mem_filter.mpr ⟨List.mem_of_getElem? (i := 801) (by decide +kernel), rfl⟩
theorem w_802 : Cond.methodLink RX8 219 yX8_hearingDays ∈ lw_ok := List.mem_filter.mpr ⟨List.mem_of_getElem? (i := 802) (by decide +kernel), rfl⟩
theorem w_804 : Cond.instanceMethod yX8_hearingDays ∈ lw_ok := List.mem_filter.mpr ⟨List.mem_of_getElem? (i := 804) (by decide +kernel), rfl⟩
theorem w_805 : Cond.code yX8_hearingDays cX8_hearingDays 2 (some .int) ∈ lw_ok := List.mem_filter.mpr ⟨List.mem_of_getElem? (i := 805) (by decide +kernel), rfl⟩
theorem w_806 : Cond.methodLink RX8 403 yX8_daysHeard ∈ lw_ok := List.mem_filter.mpr ⟨List.mem_of_getElem? (i := 806) (by decide +kernel), rfl⟩
theorem w_808 : Cond.instanceMethod yX8_daysHeard ∈ lw_ok := List.mem_filter.mpr ⟨List.mem_of_getElem? (i := 808) (by decide +kernel), rfl⟩
theorem w_809 : Cond.code yX8_daysHeard cX8_daysHeard 4 (some .int) ∈ lw_ok := List.mem_filter.mpr ⟨List.mem_of_getElem? (i := 809) (by decide +kernel), rfl⟩
theorem w_810 : Cond.methodLink RX8 272 yX8_hasBit ∈ lw_ok := List.mem_filter.mpr ⟨List.mem_of_getElem? (i := 810) (by decide +kernel), rfl⟩
theorem w_811 : Cond.methodLink RX8 222 yJ6_numberOfTrailingZeros_0f7a4 ∈ lw_ok := List.mem_filter.mpr ⟨List.mem_of_getElem? (i := 811) (by decide +kernel), rfl⟩
theorem w_812 : Cond.static yJ6_numberOfTrailingZeros_0f7a4 ∈ lw_ok := List.mem_filter.mpr ⟨List.mem_of_getElem? (i := 812) (by decide +kernel), rfl⟩
theorem w_813 : Cond.code yJ6_numberOfTrailingZeros_0f7a4 cJ6_numberOfTrailingZeros_0f7a4 2 (some .int) ∈ lw_ok := List.mem_filter.mpr ⟨List.mem_of_getElem? (i := 813) (by decide +kernel), rfl⟩
theorem w_818 : Cond.methodLink RX8 227 yJ6_bitCount_0f7a4 ∈ lw_ok := List.mem_filter.mpr ⟨List.mem_of_getElem? (i := 818) (by decide +kernel), rfl⟩
theorem w_823 : Cond.methodLink RX8 230 yX8_longestRun ∈ lw_ok := List.mem_filter.mpr ⟨List.mem_of_getElem? (i := 823) (by decide +kernel), rfl⟩
theorem w_824 : Cond.static yX8_longestRun ∈ lw_ok := List.mem_filter.mpr ⟨List.mem_of_getElem? (i := 824) (by decide +kernel), rfl⟩
theorem w_825 : Cond.code yX8_longestRun cX8_longestRun 4 (some .int) ∈ lw_ok := List.mem_filter.mpr ⟨List.mem_of_getElem? (i := 825) (by decide +kernel), rfl⟩
theorem w_826 : Cond.methodLink RX8 249 yJ9_max_7cf53 ∈ lw_ok := List.mem_filter.mpr ⟨List.mem_of_getElem? (i := 826) (by decide +kernel), rfl⟩
theorem w_835 : Cond.methodLink RX8 233 yX8_clearDays ∈ lw_ok := List.mem_filter.mpr ⟨List.mem_of_getElem? (i := 835) (by decide +kernel), rfl⟩
theorem w_837 : Cond.instanceMethod yX8_clearDays ∈ lw_ok := List.mem_filter.mpr ⟨List.mem_of_getElem? (i := 837) (by decide +kernel), rfl⟩
theorem w_838 : Cond.code yX8_clearDays cX8_clearDays 3 (some .int) ∈ lw_ok := List.mem_filter.mpr ⟨List.mem_of_getElem? (i := 838) (by decide +kernel), rfl⟩
theorem w_839 : Cond.methodLink RX8 239 yX8_listenAsTold ∈ lw_ok := List.mem_filter.mpr ⟨List.mem_of_getElem? (i := 839) (by decide +kernel), rfl⟩
theorem w_841 : Cond.instanceMethod yX8_listenAsTold ∈ lw_ok := List.mem_filter.mpr ⟨List.mem_of_getElem? (i := 841) (by decide +kernel), rfl⟩
theorem w_842 : Cond.code yX8_listenAsTold cX8_listenAsTold 2 none ∈ lw_ok := List.mem_filter.mpr ⟨List.mem_of_getElem? (i := 842) (by decide +kernel), rfl⟩
theorem w_847 : Cond.methodLink RX8 236 yX8_highestBit ∈ lw_ok := List.mem_filter.mpr ⟨List.mem_of_getElem? (i := 847) (by decide +kernel), rfl⟩
theorem w_848 : Cond.static yX8_highestBit ∈ lw_ok := List.mem_filter.mpr ⟨List.mem_of_getElem? (i := 848) (by decide +kernel), rfl⟩
theorem w_849 : Cond.code yX8_highestBit cX8_highestBit 1 (some .int) ∈ lw_ok := List.mem_filter.mpr ⟨List.mem_of_getElem? (i := 849) (by decide +kernel), rfl⟩
theorem w_850 : Cond.methodLink RX8 392 yJ6_numberOfLeadingZeros_0f7a4 ∈ lw_ok := List.mem_filter.mpr ⟨List.mem_of_getElem? (i := 850) (by decide +kernel), rfl⟩
theorem w_859 : Cond.methodLink RX8 245 yX8_heardInAll ∈ lw_ok := List.mem_filter.mpr ⟨List.mem_of_getElem? (i := 859) (by decide +kernel), rfl⟩
theorem w_861 : Cond.instanceMethod yX8_heardInAll ∈ lw_ok := List.mem_filter.mpr ⟨List.mem_of_getElem? (i := 861) (by decide +kernel), rfl⟩
theorem w_862 : Cond.code yX8_heardInAll cX8_heardInAll 3 (some .int) ∈ lw_ok := List.mem_filter.mpr ⟨List.mem_of_getElem? (i := 862) (by decide +kernel), rfl⟩
theorem w_911 : Cond.constantLong RX8 255 2 ∈ lw_ok := List.mem_filter.mpr ⟨List.mem_of_getElem? (i := 911) (by decide +kernel), rfl⟩
theorem w_932 : Cond.methodLink RX8 257 yX8_allPoles ∈ lw_ok := List.mem_filter.mpr ⟨List.mem_of_getElem? (i := 932) (by decide +kernel), rfl⟩
theorem w_934 : Cond.instanceMethod yX8_allPoles ∈ lw_ok := List.mem_filter.mpr ⟨List.mem_of_getElem? (i := 934) (by decide +kernel), rfl⟩
theorem w_935 : Cond.code yX8_allPoles cX8_allPoles 1 (some .int) ∈ lw_ok := List.mem_filter.mpr ⟨List.mem_of_getElem? (i := 935) (by decide +kernel), rfl⟩
theorem w_936 : Cond.methodLink RX8 260 yX8_worthOf ∈ lw_ok := List.mem_filter.mpr ⟨List.mem_of_getElem? (i := 936) (by decide +kernel), rfl⟩
theorem w_938 : Cond.instanceMethod yX8_worthOf ∈ lw_ok := List.mem_filter.mpr ⟨List.mem_of_getElem? (i := 938) (by decide +kernel), rfl⟩
theorem w_939 : Cond.code yX8_worthOf cX8_worthOf 2 (some .int) ∈ lw_ok := List.mem_filter.mpr ⟨List.mem_of_getElem? (i := 939) (by decide +kernel), rfl⟩
theorem w_948 : Cond.methodLink RX8 266 yX2_latestCup ∈ lw_ok := List.mem_filter.mpr ⟨List.mem_of_getElem? (i := 948) (by decide +kernel), rfl⟩
theorem w_953 : Cond.methodLink RX8 269 yX2_firstSnap ∈ lw_ok := List.mem_filter.mpr ⟨List.mem_of_getElem? (i := 953) (by decide +kernel), rfl⟩
theorem w_954 : Cond.instanceMethod yX2_firstSnap ∈ lw_ok := List.mem_filter.mpr ⟨List.mem_of_getElem? (i := 954) (by decide +kernel), rfl⟩
theorem w_955 : Cond.selects RX2 yX2_firstSnap yX2_firstSnap ∈ lw_ok := List.mem_filter.mpr ⟨List.mem_of_getElem? (i := 955) (by decide +kernel), rfl⟩
theorem w_956 : Cond.code yX2_firstSnap cX2_firstSnap 2 (some .int) ∈ lw_ok := List.mem_filter.mpr ⟨List.mem_of_getElem? (i := 956) (by decide +kernel), rfl⟩
theorem w_957 : Cond.methodLink RX2 92 yJ6_numberOfTrailingZeros_0f7a4 ∈ lw_ok := List.mem_filter.mpr ⟨List.mem_of_getElem? (i := 957) (by decide +kernel), rfl⟩
theorem w_970 : Cond.methodLink RX8 275 yX8_firstByDays ∈ lw_ok := List.mem_filter.mpr ⟨List.mem_of_getElem? (i := 970) (by decide +kernel), rfl⟩
theorem w_972 : Cond.instanceMethod yX8_firstByDays ∈ lw_ok := List.mem_filter.mpr ⟨List.mem_of_getElem? (i := 972) (by decide +kernel), rfl⟩
theorem w_973 : Cond.code yX8_firstByDays cX8_firstByDays 6 (some .int) ∈ lw_ok := List.mem_filter.mpr ⟨List.mem_of_getElem? (i := 973) (by decide +kernel), rfl⟩
theorem w_974 : Cond.methodLink RX8 406 yX8_heardDaysOf ∈ lw_ok := List.mem_filter.mpr ⟨List.mem_of_getElem? (i := 974) (by decide +kernel), rfl⟩
theorem w_976 : Cond.instanceMethod yX8_heardDaysOf ∈ lw_ok := List.mem_filter.mpr ⟨List.mem_of_getElem? (i := 976) (by decide +kernel), rfl⟩
theorem w_977 : Cond.code yX8_heardDaysOf cX8_heardDaysOf 4 (some .int) ∈ lw_ok := List.mem_filter.mpr ⟨List.mem_of_getElem? (i := 977) (by decide +kernel), rfl⟩
theorem w_986 : Cond.methodLink RX8 278 yX8_leastBattery ∈ lw_ok := List.mem_filter.mpr ⟨List.mem_of_getElem? (i := 986) (by decide +kernel), rfl⟩
theorem w_988 : Cond.instanceMethod yX8_leastBattery ∈ lw_ok := List.mem_filter.mpr ⟨List.mem_of_getElem? (i := 988) (by decide +kernel), rfl⟩
theorem w_989 : Cond.code yX8_leastBattery cX8_leastBattery 6 (some .int) ∈ lw_ok := List.mem_filter.mpr ⟨List.mem_of_getElem? (i := 989) (by decide +kernel), rfl⟩
theorem w_990 : Cond.methodLink RX8 412 yJ9_max_f86c9 ∈ lw_ok := List.mem_filter.mpr ⟨List.mem_of_getElem? (i := 990) (by decide +kernel), rfl⟩
theorem w_991 : Cond.static yJ9_max_f86c9 ∈ lw_ok := List.mem_filter.mpr ⟨List.mem_of_getElem? (i := 991) (by decide +kernel), rfl⟩
theorem w_993 : Cond.constantLong RX8 415 200 ∈ lw_ok := List.mem_filter.mpr ⟨List.mem_of_getElem? (i := 993) (by decide +kernel), rfl⟩
theorem w_1002 : Cond.methodLink RX8 285 yX8_leastCure ∈ lw_ok := List.mem_filter.mpr ⟨List.mem_of_getElem? (i := 1002) (by decide +kernel), rfl⟩
theorem w_1004 : Cond.instanceMethod yX8_leastCure ∈ lw_ok := List.mem_filter.mpr ⟨List.mem_of_getElem? (i := 1004) (by decide +kernel), rfl⟩
theorem w_1005 : Cond.code yX8_leastCure cX8_leastCure 4 (some .int) ∈ lw_ok := List.mem_filter.mpr ⟨List.mem_of_getElem? (i := 1005) (by decide +kernel), rfl⟩
theorem w_1022 : Cond.methodLink RX8 289 yX8_refusalOfSeen ∈ lw_ok := List.mem_filter.mpr ⟨List.mem_of_getElem? (i := 1022) (by decide +kernel), rfl⟩
theorem w_1024 : Cond.instanceMethod yX8_refusalOfSeen ∈ lw_ok := List.mem_filter.mpr ⟨List.mem_of_getElem? (i := 1024) (by decide +kernel), rfl⟩
theorem w_1025 : Cond.code yX8_refusalOfSeen cX8_refusalOfSeen 3 (some .int) ∈ lw_ok := List.mem_filter.mpr ⟨List.mem_of_getElem? (i := 1025) (by decide +kernel), rfl⟩
theorem w_1026 : Cond.methodLink RX8 302 yX8_refusalOfRow ∈ lw_ok := List.mem_filter.mpr ⟨List.mem_of_getElem? (i := 1026) (by decide +kernel), rfl⟩
theorem w_1028 : Cond.instanceMethod yX8_refusalOfRow ∈ lw_ok := List.mem_filter.mpr ⟨List.mem_of_getElem? (i := 1028) (by decide +kernel), rfl⟩
theorem w_1029 : Cond.code yX8_refusalOfRow cX8_refusalOfRow 6 (some .int) ∈ lw_ok := List.mem_filter.mpr ⟨List.mem_of_getElem? (i := 1029) (by decide +kernel), rfl⟩
theorem w_1030 : Cond.methodLink RX8 364 yX8_isSlot ∈ lw_ok := List.mem_filter.mpr ⟨List.mem_of_getElem? (i := 1030) (by decide +kernel), rfl⟩
theorem w_1031 : Cond.static yX8_isSlot ∈ lw_ok := List.mem_filter.mpr ⟨List.mem_of_getElem? (i := 1031) (by decide +kernel), rfl⟩
theorem w_1032 : Cond.code yX8_isSlot cX8_isSlot 1 (some .boolean) ∈ lw_ok := List.mem_filter.mpr ⟨List.mem_of_getElem? (i := 1032) (by decide +kernel), rfl⟩
theorem w_1033 : Cond.methodLink RX8 370 yX3_has ∈ lw_ok := List.mem_filter.mpr ⟨List.mem_of_getElem? (i := 1033) (by decide +kernel), rfl⟩
theorem w_1034 : Cond.instanceMethod yX3_has ∈ lw_ok := List.mem_filter.mpr ⟨List.mem_of_getElem? (i := 1034) (by decide +kernel), rfl⟩
theorem w_1035 : Cond.selects RX3 yX3_has yX3_has ∈ lw_ok := List.mem_filter.mpr ⟨List.mem_of_getElem? (i := 1035) (by decide +kernel), rfl⟩
theorem w_1036 : Cond.code yX3_has cX3_has 2 (some .boolean) ∈ lw_ok := List.mem_filter.mpr ⟨List.mem_of_getElem? (i := 1036) (by decide +kernel), rfl⟩
theorem w_1037 : Cond.methodLink RX8 417 yX3_at ∈ lw_ok := List.mem_filter.mpr ⟨List.mem_of_getElem? (i := 1037) (by decide +kernel), rfl⟩
theorem w_1038 : Cond.instanceMethod yX3_at ∈ lw_ok := List.mem_filter.mpr ⟨List.mem_of_getElem? (i := 1038) (by decide +kernel), rfl⟩
theorem w_1039 : Cond.selects RX3 yX3_at yX3_at ∈ lw_ok := List.mem_filter.mpr ⟨List.mem_of_getElem? (i := 1039) (by decide +kernel), rfl⟩
theorem w_1040 : Cond.code yX3_at cX3_at 3 (some .long) ∈ lw_ok := List.mem_filter.mpr ⟨List.mem_of_getElem? (i := 1040) (by decide +kernel), rfl⟩
theorem w_1041 : Cond.methodLink RX8 292 yX8_fittingLeaks ∈ lw_ok := List.mem_filter.mpr ⟨List.mem_of_getElem? (i := 1041) (by decide +kernel), rfl⟩
theorem w_1043 : Cond.instanceMethod yX8_fittingLeaks ∈ lw_ok := List.mem_filter.mpr ⟨List.mem_of_getElem? (i := 1043) (by decide +kernel), rfl⟩
theorem w_1044 : Cond.code yX8_fittingLeaks cX8_fittingLeaks 5 (some .int) ∈ lw_ok := List.mem_filter.mpr ⟨List.mem_of_getElem? (i := 1044) (by decide +kernel), rfl⟩
theorem w_1045 : Cond.methodLink RX8 305 yX8_isAsSeen ∈ lw_ok := List.mem_filter.mpr ⟨List.mem_of_getElem? (i := 1045) (by decide +kernel), rfl⟩
theorem w_1047 : Cond.instanceMethod yX8_isAsSeen ∈ lw_ok := List.mem_filter.mpr ⟨List.mem_of_getElem? (i := 1047) (by decide +kernel), rfl⟩
theorem w_1048 : Cond.code yX8_isAsSeen cX8_isAsSeen 4 (some .boolean) ∈ lw_ok := List.mem_filter.mpr ⟨List.mem_of_getElem? (i := 1048) (by decide +kernel), rfl⟩
theorem w_1061 : Cond.methodLink RX8 295 yX8_dayToAsk ∈ lw_ok := List.mem_filter.mpr ⟨List.mem_of_getElem? (i := 1061) (by decide +kernel), rfl⟩
theorem w_1063 : Cond.instanceMethod yX8_dayToAsk ∈ lw_ok := List.mem_filter.mpr ⟨List.mem_of_getElem? (i := 1063) (by decide +kernel), rfl⟩
theorem w_1064 : Cond.code yX8_dayToAsk cX8_dayToAsk 7 (some .int) ∈ lw_ok := List.mem_filter.mpr ⟨List.mem_of_getElem? (i := 1064) (by decide +kernel), rfl⟩
theorem w_1065 : Cond.methodLink RX8 298 yX8_leftAtWorst ∈ lw_ok := List.mem_filter.mpr ⟨List.mem_of_getElem? (i := 1065) (by decide +kernel), rfl⟩
theorem w_1067 : Cond.instanceMethod yX8_leftAtWorst ∈ lw_ok := List.mem_filter.mpr ⟨List.mem_of_getElem? (i := 1067) (by decide +kernel), rfl⟩
theorem w_1068 : Cond.code yX8_leftAtWorst cX8_leftAtWorst 6 (some .int) ∈ lw_ok := List.mem_filter.mpr ⟨List.mem_of_getElem? (i := 1068) (by decide +kernel), rfl⟩
theorem w_1069 : Cond.methodLink RX8 427 yX8_readByLeaks ∈ lw_ok := List.mem_filter.mpr ⟨List.mem_of_getElem? (i := 1069) (by decide +kernel), rfl⟩
theorem w_1071 : Cond.instanceMethod yX8_readByLeaks ∈ lw_ok := List.mem_filter.mpr ⟨List.mem_of_getElem? (i := 1071) (by decide +kernel), rfl⟩
theorem w_1072 : Cond.code yX8_readByLeaks cX8_readByLeaks 5 none ∈ lw_ok := List.mem_filter.mpr ⟨List.mem_of_getElem? (i := 1072) (by decide +kernel), rfl⟩
theorem w_1073 : Cond.methodLink RX8 430 yX8_alikeFrom ∈ lw_ok := List.mem_filter.mpr ⟨List.mem_of_getElem? (i := 1073) (by decide +kernel), rfl⟩
theorem w_1075 : Cond.instanceMethod yX8_alikeFrom ∈ lw_ok := List.mem_filter.mpr ⟨List.mem_of_getElem? (i := 1075) (by decide +kernel), rfl⟩
theorem w_1076 : Cond.code yX8_alikeFrom cX8_alikeFrom 5 (some .int) ∈ lw_ok := List.mem_filter.mpr ⟨List.mem_of_getElem? (i := 1076) (by decide +kernel), rfl⟩
theorem w_1097 : Cond.methodLink RX8 311 yX8_heardByLaw ∈ lw_ok := List.mem_filter.mpr ⟨List.mem_of_getElem? (i := 1097) (by decide +kernel), rfl⟩
theorem w_1099 : Cond.instanceMethod yX8_heardByLaw ∈ lw_ok := List.mem_filter.mpr ⟨List.mem_of_getElem? (i := 1099) (by decide +kernel), rfl⟩
theorem w_1100 : Cond.code yX8_heardByLaw cX8_heardByLaw 2 (some .int) ∈ lw_ok := List.mem_filter.mpr ⟨List.mem_of_getElem? (i := 1100) (by decide +kernel), rfl⟩
theorem w_1113 : Cond.constant RX8 314 (-1000000) ∈ lw_ok := List.mem_filter.mpr ⟨List.mem_of_getElem? (i := 1113) (by decide +kernel), rfl⟩
theorem w_1114 : Cond.methodLink RX8 315 yX8_factorial ∈ lw_ok := List.mem_filter.mpr ⟨List.mem_of_getElem? (i := 1114) (by decide +kernel), rfl⟩
theorem w_1115 : Cond.static yX8_factorial ∈ lw_ok := List.mem_filter.mpr ⟨List.mem_of_getElem? (i := 1115) (by decide +kernel), rfl⟩
theorem w_1116 : Cond.code yX8_factorial cX8_factorial 4 (some .long) ∈ lw_ok := List.mem_filter.mpr ⟨List.mem_of_getElem? (i := 1116) (by decide +kernel), rfl⟩
theorem w_1121 : Cond.methodLink RX8 318 yX8_pairSet ∈ lw_ok := List.mem_filter.mpr ⟨List.mem_of_getElem? (i := 1121) (by decide +kernel), rfl⟩
theorem w_1122 : Cond.static yX8_pairSet ∈ lw_ok := List.mem_filter.mpr ⟨List.mem_of_getElem? (i := 1122) (by decide +kernel), rfl⟩
theorem w_1123 : Cond.code yX8_pairSet cX8_pairSet 4 (some .int) ∈ lw_ok := List.mem_filter.mpr ⟨List.mem_of_getElem? (i := 1123) (by decide +kernel), rfl⟩
theorem w_1124 : Cond.methodLink RX8 322 yX8_gainOf ∈ lw_ok := List.mem_filter.mpr ⟨List.mem_of_getElem? (i := 1124) (by decide +kernel), rfl⟩
theorem w_1126 : Cond.instanceMethod yX8_gainOf ∈ lw_ok := List.mem_filter.mpr ⟨List.mem_of_getElem? (i := 1126) (by decide +kernel), rfl⟩
theorem w_1127 : Cond.code yX8_gainOf cX8_gainOf 4 (some .int) ∈ lw_ok := List.mem_filter.mpr ⟨List.mem_of_getElem? (i := 1127) (by decide +kernel), rfl⟩
theorem w_1136 : Cond.methodLink RX8 325 yX8_isChanceDay ∈ lw_ok := List.mem_filter.mpr ⟨List.mem_of_getElem? (i := 1136) (by decide +kernel), rfl⟩
theorem w_1138 : Cond.instanceMethod yX8_isChanceDay ∈ lw_ok := List.mem_filter.mpr ⟨List.mem_of_getElem? (i := 1138) (by decide +kernel), rfl⟩
theorem w_1139 : Cond.code yX8_isChanceDay cX8_isChanceDay 2 (some .boolean) ∈ lw_ok := List.mem_filter.mpr ⟨List.mem_of_getElem? (i := 1139) (by decide +kernel), rfl⟩
theorem w_1140 : Cond.methodLink RX8 328 yX8_heardByChance ∈ lw_ok := List.mem_filter.mpr ⟨List.mem_of_getElem? (i := 1140) (by decide +kernel), rfl⟩
theorem w_1142 : Cond.instanceMethod yX8_heardByChance ∈ lw_ok := List.mem_filter.mpr ⟨List.mem_of_getElem? (i := 1142) (by decide +kernel), rfl⟩
theorem w_1143 : Cond.code yX8_heardByChance cX8_heardByChance 10 (some .long) ∈ lw_ok := List.mem_filter.mpr ⟨List.mem_of_getElem? (i := 1143) (by decide +kernel), rfl⟩
theorem w_1144 : Cond.methodLink RX8 332 yX8_power ∈ lw_ok := List.mem_filter.mpr ⟨List.mem_of_getElem? (i := 1144) (by decide +kernel), rfl⟩
theorem w_1145 : Cond.static yX8_power ∈ lw_ok := List.mem_filter.mpr ⟨List.mem_of_getElem? (i := 1145) (by decide +kernel), rfl⟩
theorem w_1146 : Cond.code yX8_power cX8_power 5 (some .long) ∈ lw_ok := List.mem_filter.mpr ⟨List.mem_of_getElem? (i := 1146) (by decide +kernel), rfl⟩
theorem w_1176 : Cond.methodLink RX8 345 yX8_isSeed ∈ lw_ok := List.mem_filter.mpr ⟨List.mem_of_getElem? (i := 1176) (by decide +kernel), rfl⟩
theorem w_1177 : Cond.static yX8_isSeed ∈ lw_ok := List.mem_filter.mpr ⟨List.mem_of_getElem? (i := 1177) (by decide +kernel), rfl⟩
theorem w_1178 : Cond.code yX8_isSeed cX8_isSeed 1 (some .boolean) ∈ lw_ok := List.mem_filter.mpr ⟨List.mem_of_getElem? (i := 1178) (by decide +kernel), rfl⟩
theorem w_1179 : Cond.constant RX8 391 2000000000 ∈ lw_ok := List.mem_filter.mpr ⟨List.mem_of_getElem? (i := 1179) (by decide +kernel), rfl⟩
theorem w_1180 : Cond.methodLink RX8 348 yX8_wetByDraws ∈ lw_ok := List.mem_filter.mpr ⟨List.mem_of_getElem? (i := 1180) (by decide +kernel), rfl⟩
theorem w_1182 : Cond.instanceMethod yX8_wetByDraws ∈ lw_ok := List.mem_filter.mpr ⟨List.mem_of_getElem? (i := 1182) (by decide +kernel), rfl⟩
theorem w_1183 : Cond.code yX8_wetByDraws cX8_wetByDraws 6 (some .int) ∈ lw_ok := List.mem_filter.mpr ⟨List.mem_of_getElem? (i := 1183) (by decide +kernel), rfl⟩
theorem w_1184 : Cond.constantLong RX8 433 1103515245 ∈ lw_ok := List.mem_filter.mpr ⟨List.mem_of_getElem? (i := 1184) (by decide +kernel), rfl⟩
theorem w_1185 : Cond.constantLong RX8 435 12345 ∈ lw_ok := List.mem_filter.mpr ⟨List.mem_of_getElem? (i := 1185) (by decide +kernel), rfl⟩
theorem w_1186 : Cond.constantLong RX8 437 2147483648 ∈ lw_ok := List.mem_filter.mpr ⟨List.mem_of_getElem? (i := 1186) (by decide +kernel), rfl⟩
theorem w_1187 : Cond.constantLong RX8 439 65536 ∈ lw_ok := List.mem_filter.mpr ⟨List.mem_of_getElem? (i := 1187) (by decide +kernel), rfl⟩
theorem w_1188 : Cond.constantLong RX8 441 10 ∈ lw_ok := List.mem_filter.mpr ⟨List.mem_of_getElem? (i := 1188) (by decide +kernel), rfl⟩
theorem w_1189 : Cond.methodLink RX8 351 yX8_heardByDraws ∈ lw_ok := List.mem_filter.mpr ⟨List.mem_of_getElem? (i := 1189) (by decide +kernel), rfl⟩
theorem w_1191 : Cond.instanceMethod yX8_heardByDraws ∈ lw_ok := List.mem_filter.mpr ⟨List.mem_of_getElem? (i := 1191) (by decide +kernel), rfl⟩
theorem w_1192 : Cond.code yX8_heardByDraws cX8_heardByDraws 2 (some .int) ∈ lw_ok := List.mem_filter.mpr ⟨List.mem_of_getElem? (i := 1192) (by decide +kernel), rfl⟩
theorem w_1209 : Cond.methodLink RX3 22 yX3_has ∈ lw_ok := List.mem_filter.mpr ⟨List.mem_of_getElem? (i := 1209) (by decide +kernel), rfl⟩
theorem w_1240 : Cond.methodLink RX3 32 yX3_cut ∈ lw_ok := List.mem_filter.mpr ⟨List.mem_of_getElem? (i := 1240) (by decide +kernel), rfl⟩
theorem w_1241 : Cond.static yX3_cut ∈ lw_ok := List.mem_filter.mpr ⟨List.mem_of_getElem? (i := 1241) (by decide +kernel), rfl⟩
theorem w_1242 : Cond.code yX3_cut cX3_cut 3 (some .long) ∈ lw_ok := List.mem_filter.mpr ⟨List.mem_of_getElem? (i := 1242) (by decide +kernel), rfl⟩
def NW (U : State) : Prop := va_Nw (Cond.methodLinkNest RX8 9 yX5_init "LeakyLine") U ∧ va_Nw (Cond.methodLinkNest RX8 18 yX7_init "LeakyLine") U ∧ va_Nw (Cond.methodLinkNest RX8 25 yX6_init "LeakyLine") U ∧ va_Nw (Cond.methodLinkNest RX8 32 yX2_init "LeakyLine") U ∧ va_Nw (Cond.methodLinkNest RX8 46 yX3_init "LeakyLine") U ∧ va_Nw (Cond.methodLinkNest RX8 53 yX4_init "LeakyLine") U ∧ va_Nw (Cond.methodLinkNest RX8 60 yX1_init "LeakyLine") U ∧ va_Nw (Cond.methodLinkNest RX8 67 yX0_init "LeakyLine") U ∧ va_Nw (Cond.methodLinkNest RX4 47 yX8_hasBit "LeakyLine") U ∧ va_AO "LeakyLine$Line" U
theorem NW.n9 {U : State} (h : NW U) : va_Nw (Cond.methodLinkNest RX8 9 yX5_init "LeakyLine") U := h.1
theorem NW.n18 {U : State} (h : NW U) : va_Nw (Cond.methodLinkNest RX8 18 yX7_init "LeakyLine") U := h.2.1
theorem NW.n25 {U : State} (h : NW U) : va_Nw (Cond.methodLinkNest RX8 25 yX6_init "LeakyLine") U := h.2.2.1
theorem NW.n32 {U : State} (h : NW U) : va_Nw (Cond.methodLinkNest RX8 32 yX2_init "LeakyLine") U := h.2.2.2.1
theorem NW.n46 {U : State} (h : NW U) : va_Nw (Cond.methodLinkNest RX8 46 yX3_init "LeakyLine") U := h.2.2.2.2.1
theorem NW.n53 {U : State} (h : NW U) : va_Nw (Cond.methodLinkNest RX8 53 yX4_init "LeakyLine") U := h.2.2.2.2.2.1
theorem NW.n60 {U : State} (h : NW U) : va_Nw (Cond.methodLinkNest RX8 60 yX1_init "LeakyLine") U := h.2.2.2.2.2.2.1
theorem NW.n67 {U : State} (h : NW U) : va_Nw (Cond.methodLinkNest RX8 67 yX0_init "LeakyLine") U := h.2.2.2.2.2.2.2.1
theorem NW.n47 {U : State} (h : NW U) : va_Nw (Cond.methodLinkNest RX4 47 yX8_hasBit "LeakyLine") U := h.2.2.2.2.2.2.2.2.1
theorem NW.ao {U : State} (h : NW U) : va_AO "LeakyLine$Line" U := h.2.2.2.2.2.2.2.2.2
theorem NW.same {u U : State} (e : u.vm = U.vm) (h : NW u) : NW U := ⟨va_Nw.same rfl e h.n9, va_Nw.same rfl e h.n18, va_Nw.same rfl e h.n25, va_Nw.same rfl e h.n32, va_Nw.same rfl e h.n46, va_Nw.same rfl e h.n53, va_Nw.same rfl e h.n60, va_Nw.same rfl e h.n67, va_Nw.same rfl e h.n47, h.ao.moved (by rw [e]; exact Vm.Alike.refl U.vm)⟩
theorem NW.warm {s U : State} (hW : s.WarmedH U.vm) (h : NW s) : NW U := ⟨va_Nw.warmM hW h.n9, va_Nw.warmM hW h.n18, va_Nw.warmM hW h.n25, va_Nw.warmM hW h.n32, va_Nw.warmM hW h.n46, va_Nw.warmM hW h.n53, va_Nw.warmM hW h.n60, va_Nw.warmM hW h.n67, va_Nw.warmM hW h.n47, h.ao.moved hW.alike⟩
theorem fbQn {D : va_G} {cl : List vw_C} {ws : va_W} {tys : List (ClassId × FieldType)} {av : List Value} {sz : Nat} : FrameBlind (va_Pc av (fun U => U.heap.size = sz ∧ va_P D cl ws U.heap ∧ va_K D cl tys U ∧ va_D (fun _ => True) ws ∧ NW U)) := fun a U g mk q => by
  obtain ⟨q0, q1, qP, qK, qD, qN⟩ := q
  exact ⟨q0, q1, qP, va_K.moved (u := U) (U := U.calling g mk a) (Vm.Alike.refl U.vm) qK, qD, NW.same (u := U) (U := U.calling g mk a) rfl qN⟩
theorem pSQn {D : va_G} {cl : List vw_C} {ws : va_W} {tys : List (ClassId × FieldType)} {As : List Value} {s : State} {H : Heap} {A : Nat → Prop} (hN : NW s) (hK : va_K D cl tys s) (hP : va_P D cl ws H) (hD : va_D A ws) : PreS s H (va_Pc As (fun U => U.heap.size = H.size ∧ va_P D cl ws U.heap ∧ va_K D cl tys U ∧ va_D (fun _ => True) ws ∧ NW U)) As := ⟨fbQn, fun U hU hW => ⟨rfl, by rw [hU], by rw [hU]; exact hP, va_K.moved hW.alike hK, hD.weaken (fun _ _ _ _ => trivial), hN.warm hW⟩⟩
theorem pVQn {D : va_G} {cl : List vw_C} {ws : va_W} {tys : List (ClassId × FieldType)} {As : List Value} {s : State} {H : Heap} {A : Nat → Prop} {a q0 ci : Nat} {fs : List Value} {r : vw_C} (hN : NW s) (hK : va_K D cl tys s) (hP : va_P D cl ws H) (hD : va_D A ws) (hc : cl[ci]? = some r) (he : ws[q0]? = some (a, .inr (ci, fs))) : PreV s H r.1 a (va_Pc (.ref a :: As) (fun U => U.heap.size = H.size ∧ va_P D cl ws U.heap ∧ va_K D cl tys U ∧ va_D (fun _ => True) ws ∧ NW U)) As := ⟨fbQn, va_recv hK hP hc he, fun U hU hW => ⟨rfl, by rw [hU], by rw [hU]; exact hP, va_K.moved hW.alike hK, hD.weaken (fun _ _ _ _ => trivial), hN.warm hW⟩⟩
theorem fbSn {D : va_G} {cl : List vw_C} {ws : va_W} {tys : List (ClassId × FieldType)} {av : List Value} : FrameBlind (va_Pc av (fun U => va_P D cl ws U.heap ∧ va_K D cl tys U ∧ NW U)) := fun a U g mk q => by
  obtain ⟨q0, qP, qK, qN⟩ := q
  exact ⟨q0, qP, va_K.moved (u := U) (U := U.calling g mk a) (Vm.Alike.refl U.vm) qK, NW.same (u := U) (U := U.calling g mk a) rfl qN⟩
theorem pSSn {D : va_G} {cl : List vw_C} {ws : va_W} {tys : List (ClassId × FieldType)} {As : List Value} {s : State} {H : Heap} (hN : NW s) (hK : va_K D cl tys s) (hP : va_P D cl ws H) : PreS s H (va_Pc As (fun U => va_P D cl ws U.heap ∧ va_K D cl tys U ∧ NW U)) As := ⟨fbSn, fun U hU hW => ⟨rfl, by rw [hU]; exact hP, va_K.moved hW.alike hK, hN.warm hW⟩⟩
theorem pVSn {D : va_G} {cl : List vw_C} {ws : va_W} {tys : List (ClassId × FieldType)} {As : List Value} {s : State} {H : Heap} {a q0 ci : Nat} {fs : List Value} {r : vw_C} (hN : NW s) (hK : va_K D cl tys s) (hP : va_P D cl ws H) (hc : cl[ci]? = some r) (he : ws[q0]? = some (a, .inr (ci, fs))) : PreV s H r.1 a (va_Pc (.ref a :: As) (fun U => va_P D cl ws U.heap ∧ va_K D cl tys U ∧ NW U)) As := ⟨fbSn, va_recv hK hP hc he, fun U hU hW => ⟨rfl, by rw [hU]; exact hP, va_K.moved hW.alike hK, hN.warm hW⟩⟩
theorem callSiN {p : Program} {l : Launch} {e : Env} {R : Room} {s : State} {m : MethodId} {args : Array Value} {below : List Frame} {meth : Method} {c : Code} {H : Heap} {locs : List Loc} {cells slots : Nat} {Q : State → Prop} {pc : Nat} {ls : Array Slot} {rest st0 : List Value} {a : Array Value} {post : Int32 → Prop} (hr : va_Run p l e R s m args below meth c H locs cells slots 0 0 (F0 m pc ls st0) rest (vp_Si post a) (fun _ => False)) (kk : ∀ r : Int32, post r → W p l e R s m args below meth c H locs cells slots Q (F0 m (pc + 3) ls (.int r :: rest))) : W p l e R s m args below meth c H locs cells slots Q (F0 m pc ls st0) := by
  intro T hT X
  obtain ⟨v, st₀, t, T', L, h0, X', hL, e1, e2, ⟨r, hv, hp, hh⟩, st⟩ := hr T hT X
  cases hv
  obtain ⟨t2, a1, b1⟩ := kk r hp T' (by rw [e1, hh, h0]) (Stand.forget X' (fun q h => (hL q h).elim))
  exact ⟨t2, st t2 a1, b1⟩
theorem w_mathmin : Cond.code Lib.Math.min.name Lib.Math.min.code 2 (some .int) ∈ lw_ok := List.mem_filter.mpr ⟨List.mem_of_getElem? (i := 535) (by decide +kernel), rfl⟩
theorem w_mathmax : Cond.code Lib.Math.max.name Lib.Math.max.code 2 (some .int) ∈ lw_ok := List.mem_filter.mpr ⟨List.mem_of_getElem? (i := 541) (by decide +kernel), rfl⟩
theorem w_mathmaxl : Cond.code Lib.MathLoose.max_long.x Lib.MathLoose.max_long.code 4 (some .long) ∈ lw_ok := List.mem_filter.mpr ⟨List.mem_of_getElem? (i := 992) (by decide +kernel), rfl⟩
theorem w_mathabsl : Cond.code Lib.MathLoose.abs_long.x Lib.MathLoose.abs_long.code 2 (some .long) ∈ lw_ok := List.mem_filter.mpr ⟨List.mem_of_getElem? (i := 720) (by decide +kernel), rfl⟩
theorem L200 : (200 : Int64).toInt = 200 := by decide
theorem L12345 : (12345 : Int64).toInt = 12345 := by decide
theorem Tm6 : (-6 : Int32).toInt = -6 := by decide
theorem Tm2 : (-2 : Int32).toInt = -2 := by decide
theorem T10 : (10 : Int32).toInt = 10 := by decide
theorem T11 : (11 : Int32).toInt = 11 := by decide
theorem T13 : (13 : Int32).toInt = 13 := by decide
theorem T14 : (14 : Int32).toInt = 14 := by decide
theorem T15 : (15 : Int32).toInt = 15 := by decide
theorem T16 : (16 : Int32).toInt = 16 := by decide
theorem T17 : (17 : Int32).toInt = 17 := by decide
theorem T19 : (19 : Int32).toInt = 19 := by decide
theorem T20 : (20 : Int32).toInt = 20 := by decide
theorem T21 : (21 : Int32).toInt = 21 := by decide
theorem T23 : (23 : Int32).toInt = 23 := by decide
theorem T25 : (25 : Int32).toInt = 25 := by decide
theorem T27 : (27 : Int32).toInt = 27 := by decide
theorem T29 : (29 : Int32).toInt = 29 := by decide
theorem T30 : (30 : Int32).toInt = 30 := by decide
theorem T31 : (31 : Int32).toInt = 31 := by decide
theorem T32 : (32 : Int32).toInt = 32 := by decide
theorem T63 : (63 : Int32).toInt = 63 := by decide
theorem T100 : (100 : Int32).toInt = 100 := by decide
theorem T255 : (255 : Int32).toInt = 255 := by decide
theorem T256 : (256 : Int32).toInt = 256 := by decide
theorem T65536 : (65536 : Int32).toInt = 65536 := by decide
theorem T252645135 : (252645135 : Int32).toInt = 252645135 := by decide
theorem T858993459 : (858993459 : Int32).toInt = 858993459 := by decide
theorem T1431655765 : (1431655765 : Int32).toInt = 1431655765 := by decide
theorem T2000000000 : (2000000000 : Int32).toInt = 2000000000 := by decide
