abbrev cJ0_charAt_5068e : ByteArray := prog_14_method_56_code
def yJ0_charAt_5068e : MethodName := ⟨RJ0, "charAt", "(I)C"⟩
abbrev cJ0_checkIndex_df160 : ByteArray := prog_14_method_155_code
def yJ0_checkIndex_df160 : MethodName := ⟨RJ0, "checkIndex", "(II)V"⟩
abbrev cJ0_coder_7d493 : ByteArray := prog_14_method_152_code
def yJ0_coder_7d493 : MethodName := ⟨RJ0, "coder", "()B"⟩
abbrev cJ0_isLatin1_aae02 : ByteArray := prog_14_method_154_code
def yJ0_isLatin1_aae02 : MethodName := ⟨RJ0, "isLatin1", "()Z"⟩
abbrev cJ0_length_8abf5 : ByteArray := prog_14_method_54_code
def yJ0_length_8abf5 : MethodName := ⟨RJ0, "length", "()I"⟩
abbrev cJ1_charAt_3b067 : ByteArray := prog_15_method_2_code
def yJ1_charAt_3b067 : MethodName := ⟨RJ1, "charAt", "([BI)C"⟩
abbrev cJ2_charAt_3b067 : ByteArray := prog_16_method_83_code
def yJ2_charAt_3b067 : MethodName := ⟨RJ2, "charAt", "([BI)C"⟩
abbrev cJ2_checkIndex_2214a : ByteArray := prog_16_method_91_code
def yJ2_checkIndex_2214a : MethodName := ⟨RJ2, "checkIndex", "(I[B)V"⟩
abbrev cJ2_getChar_3b067 : ByteArray := prog_16_method_5_code
def yJ2_getChar_3b067 : MethodName := ⟨RJ2, "getChar", "([BI)C"⟩
abbrev cJ2_length_9d52b : ByteArray := prog_16_method_6_code
def yJ2_length_9d52b : MethodName := ⟨RJ2, "length", "([B)I"⟩
abbrev cJ3_checkIndex_8e157 : ByteArray := prog_19_method_11_code
def yJ3_checkIndex_8e157 : MethodName := ⟨RJ3, "checkIndex", "(IILjava/util/function/BiFunction;)I"⟩
abbrev cJ6_bitCount_0f7a4 : ByteArray := prog_12_method_49_code
def yJ6_bitCount_0f7a4 : MethodName := ⟨RJ6, "bitCount", "(I)I"⟩
abbrev cJ6_numberOfLeadingZeros_0f7a4 : ByteArray := prog_12_method_47_code
def yJ6_numberOfLeadingZeros_0f7a4 : MethodName := ⟨RJ6, "numberOfLeadingZeros", "(I)I"⟩
abbrev cJ6_numberOfTrailingZeros_0f7a4 : ByteArray := prog_12_method_48_code
def yJ6_numberOfTrailingZeros_0f7a4 : MethodName := ⟨RJ6, "numberOfTrailingZeros", "(I)I"⟩
abbrev cJ7_fill_53178 : ByteArray := prog_18_method_103_code
def yJ7_fill_53178 : MethodName := ⟨RJ7, "fill", "([II)V"⟩
abbrev cJ7_fill_bad5a : ByteArray := prog_18_method_102_code
def yJ7_fill_bad5a : MethodName := ⟨RJ7, "fill", "([JIIJ)V"⟩
abbrev cJ7_rangeCheck_23922 : ByteArray := prog_18_method_30_code
def yJ7_rangeCheck_23922 : MethodName := ⟨RJ7, "rangeCheck", "(III)V"⟩
abbrev cJ9_abs_067f4 : ByteArray := prog_13_method_61_code
def yJ9_abs_067f4 : MethodName := ⟨RJ9, "abs", "(J)J"⟩
abbrev cJ9_max_7cf53 : ByteArray := prog_13_method_65_code
def yJ9_max_7cf53 : MethodName := ⟨RJ9, "max", "(II)I"⟩
abbrev cJ9_max_f86c9 : ByteArray := prog_13_method_66_code
def yJ9_max_f86c9 : MethodName := ⟨RJ9, "max", "(JJ)J"⟩
abbrev cJ9_min_7cf53 : ByteArray := prog_13_method_69_code
def yJ9_min_7cf53 : MethodName := ⟨RJ9, "min", "(II)I"⟩
abbrev cX0_commonDivisor : ByteArray := prog_2_method_4_code
def yX0_commonDivisor : MethodName := ⟨RX0, "commonDivisor", "(JJ)J"⟩
abbrev cX0_init : ByteArray := prog_2_method_1_code
def yX0_init : MethodName := ⟨RX0, "<init>", "()V"⟩
abbrev cX0_part : ByteArray := prog_2_method_3_code
def yX0_part : MethodName := ⟨RX0, "part", "(I)J"⟩
abbrev cX0_set : ByteArray := prog_2_method_2_code
def yX0_set : MethodName := ⟨RX0, "set", "(JJ)V"⟩
abbrev cX1_fallOver : ByteArray := prog_3_method_5_code
def yX1_fallOver : MethodName := ⟨RX1, "fallOver", "(I)J"⟩
abbrev cX1_firstAmps : ByteArray := prog_3_method_3_code
def yX1_firstAmps : MethodName := ⟨RX1, "firstAmps", "()J"⟩
abbrev cX1_init : ByteArray := prog_3_method_1_code
def yX1_init : MethodName := ⟨RX1, "<init>", "()V"⟩
abbrev cX1_isEnough : ByteArray := prog_3_method_7_code
def yX1_isEnough : MethodName := ⟨RX1, "isEnough", "(IJJ)Z"⟩
abbrev cX1_leaksMore : ByteArray := prog_3_method_6_code
def yX1_leaksMore : MethodName := ⟨RX1, "leaksMore", "(II)Z"⟩
abbrev cX1_readsInto : ByteArray := prog_3_method_4_code
def yX1_readsInto : MethodName := ⟨RX1, "readsInto", "(LLeakyLine$Fraction;)V"⟩
abbrev cX1_settle : ByteArray := prog_3_method_2_code
def yX1_settle : MethodName := ⟨RX1, "settle", "(LLeakyLine$Line;LLeakyLine$Supposed;I)V"⟩
abbrev cX2_act : ByteArray := prog_4_method_4_code
def yX2_act : MethodName := ⟨RX2, "act", "(III)V"⟩
abbrev cX2_firstSnap : ByteArray := prog_4_method_8_code
def yX2_firstSnap : MethodName := ⟨RX2, "firstSnap", "(I)I"⟩
abbrev cX2_init : ByteArray := prog_4_method_1_code
def yX2_init : MethodName := ⟨RX2, "<init>", "()V"⟩
abbrev cX2_isBroken : ByteArray := prog_4_method_9_code
def yX2_isBroken : MethodName := ⟨RX2, "isBroken", "(II)Z"⟩
abbrev cX2_keepActs : ByteArray := prog_4_method_5_code
def yX2_keepActs : MethodName := ⟨RX2, "keepActs", "(I)V"⟩
abbrev cX2_latestCup : ByteArray := prog_4_method_7_code
def yX2_latestCup : MethodName := ⟨RX2, "latestCup", "(II)I"⟩
abbrev cX2_stationBits : ByteArray := prog_4_method_6_code
def yX2_stationBits : MethodName := ⟨RX2, "stationBits", "()I"⟩
abbrev cX2_take : ByteArray := prog_4_method_3_code
def yX2_take : MethodName := ⟨RX2, "take", "(LLeakyLine$Line;)V"⟩
abbrev cX2_wipe : ByteArray := prog_4_method_2_code
def yX2_wipe : MethodName := ⟨RX2, "wipe", "()V"⟩
abbrev cX3_at : ByteArray := prog_5_method_5_code
def yX3_at : MethodName := ⟨RX3, "at", "(II)J"⟩
abbrev cX3_copy : ByteArray := prog_5_method_8_code
def yX3_copy : MethodName := ⟨RX3, "copy", "(IIIII)V"⟩
abbrev cX3_cut : ByteArray := prog_5_method_9_code
def yX3_cut : MethodName := ⟨RX3, "cut", "(IJ)J"⟩
abbrev cX3_has : ByteArray := prog_5_method_2_code
def yX3_has : MethodName := ⟨RX3, "has", "(I)Z"⟩
abbrev cX3_holds : ByteArray := prog_5_method_7_code
def yX3_holds : MethodName := ⟨RX3, "holds", "(III)Z"⟩
abbrev cX3_init : ByteArray := prog_5_method_1_code
def yX3_init : MethodName := ⟨RX3, "<init>", "()V"⟩
abbrev cX3_lay : ByteArray := prog_5_method_4_code
def yX3_lay : MethodName := ⟨RX3, "lay", "(III)V"⟩
abbrev cX3_put : ByteArray := prog_5_method_6_code
def yX3_put : MethodName := ⟨RX3, "put", "(IIJ)V"⟩
abbrev cX3_used : ByteArray := prog_5_method_3_code
def yX3_used : MethodName := ⟨RX3, "used", "()I"⟩
abbrev cX4_asTold : ByteArray := prog_6_method_2_code
def yX4_asTold : MethodName := ⟨RX4, "asTold", "(LLeakyLine$Line;)V"⟩
abbrev cX4_halved : ByteArray := prog_6_method_7_code
def yX4_halved : MethodName := ⟨RX4, "halved", "(I)I"⟩
abbrev cX4_init : ByteArray := prog_6_method_1_code
def yX4_init : MethodName := ⟨RX4, "<init>", "()V"⟩
abbrev cX4_isWet : ByteArray := prog_6_method_5_code
def yX4_isWet : MethodName := ⟨RX4, "isWet", "(I)Z"⟩
abbrev cX4_leadingOn : ByteArray := prog_6_method_4_code
def yX4_leadingOn : MethodName := ⟨RX4, "leadingOn", "(LLeakyLine$Line;I)I"⟩
abbrev cX4_leakOn : ByteArray := prog_6_method_3_code
def yX4_leakOn : MethodName := ⟨RX4, "leakOn", "(LLeakyLine$Line;II)I"⟩
abbrev cX4_wetDays : ByteArray := prog_6_method_6_code
def yX4_wetDays : MethodName := ⟨RX4, "wetDays", "(II)I"⟩
abbrev cX5_append : ByteArray := prog_7_method_2_code
def yX5_append : MethodName := ⟨RX5, "append", "(I)V"⟩
abbrev cX5_at : ByteArray := prog_7_method_3_code
def yX5_at : MethodName := ⟨RX5, "at", "(I)I"⟩
abbrev cX5_init : ByteArray := prog_7_method_1_code
def yX5_init : MethodName := ⟨RX5, "<init>", "()V"⟩
abbrev cX6_fail : ByteArray := prog_8_method_10_code
def yX6_fail : MethodName := ⟨RX6, "fail", "(I)Z"⟩
abbrev cX6_init : ByteArray := prog_8_method_1_code
def yX6_init : MethodName := ⟨RX6, "<init>", "()V"⟩
abbrev cX6_isSign : ByteArray := prog_8_method_9_code
def yX6_isSign : MethodName := ⟨RX6, "isSign", "()Z"⟩
abbrev cX6_read : ByteArray := prog_8_method_2_code
def yX6_read : MethodName := ⟨RX6, "read", "(LLeakyLine$Tokens;LLeakyLine$Line;)V"⟩
abbrev cX6_readHead : ByteArray := prog_8_method_4_code
def yX6_readHead : MethodName := ⟨RX6, "readHead", "(LLeakyLine$Tokens;LLeakyLine$Line;)Z"⟩
abbrev cX6_readLine : ByteArray := prog_8_method_3_code
def yX6_readLine : MethodName := ⟨RX6, "readLine", "(LLeakyLine$Tokens;LLeakyLine$Line;)Z"⟩
abbrev cX6_readNumber : ByteArray := prog_8_method_8_code
def yX6_readNumber : MethodName := ⟨RX6, "readNumber", "(LLeakyLine$Tokens;II)Z"⟩
abbrev cX6_readPair : ByteArray := prog_8_method_7_code
def yX6_readPair : MethodName := ⟨RX6, "readPair", "(LLeakyLine$Tokens;III)Z"⟩
abbrev cX6_readSpan : ByteArray := prog_8_method_5_code
def yX6_readSpan : MethodName := ⟨RX6, "readSpan", "(LLeakyLine$Tokens;LLeakyLine$Line;)Z"⟩
abbrev cX6_readWet : ByteArray := prog_8_method_6_code
def yX6_readWet : MethodName := ⟨RX6, "readWet", "(LLeakyLine$Tokens;LLeakyLine$Line;)Z"⟩
abbrev cX6_step : ByteArray := prog_8_method_11_code
def yX6_step : MethodName := ⟨RX6, "step", "(LLeakyLine$Tokens;)V"⟩
abbrev cX7_add : ByteArray := prog_9_method_3_code
def yX7_add : MethodName := ⟨RX7, "add", "(III)V"⟩
abbrev cX7_ifWord : ByteArray := prog_9_method_8_code
def yX7_ifWord : MethodName := ⟨RX7, "ifWord", "(LLeakyLine$Tape;IILjava/lang/String;I)I"⟩
abbrev cX7_init : ByteArray := prog_9_method_1_code
def yX7_init : MethodName := ⟨RX7, "<init>", "()V"⟩
abbrev cX7_isBlank : ByteArray := prog_9_method_10_code
def yX7_isBlank : MethodName := ⟨RX7, "isBlank", "(I)Z"⟩
abbrev cX7_isDigit : ByteArray := prog_9_method_12_code
def yX7_isDigit : MethodName := ⟨RX7, "isDigit", "(I)Z"⟩
abbrev cX7_isLetter : ByteArray := prog_9_method_11_code
def yX7_isLetter : MethodName := ⟨RX7, "isLetter", "(I)Z"⟩
abbrev cX7_isWord : ByteArray := prog_9_method_9_code
def yX7_isWord : MethodName := ⟨RX7, "isWord", "(LLeakyLine$Tape;IILjava/lang/String;)Z"⟩
abbrev cX7_numberEnd : ByteArray := prog_9_method_5_code
def yX7_numberEnd : MethodName := ⟨RX7, "numberEnd", "(LLeakyLine$Tape;I)I"⟩
abbrev cX7_scan : ByteArray := prog_9_method_2_code
def yX7_scan : MethodName := ⟨RX7, "scan", "(LLeakyLine$Tape;)V"⟩
abbrev cX7_valueOf : ByteArray := prog_9_method_6_code
def yX7_valueOf : MethodName := ⟨RX7, "valueOf", "(LLeakyLine$Tape;II)I"⟩
abbrev cX7_wordEnd : ByteArray := prog_9_method_4_code
def yX7_wordEnd : MethodName := ⟨RX7, "wordEnd", "(LLeakyLine$Tape;I)I"⟩
abbrev cX7_wordKind : ByteArray := prog_9_method_7_code
def yX7_wordKind : MethodName := ⟨RX7, "wordKind", "(LLeakyLine$Tape;II)I"⟩
abbrev cX8_alikeFrom : ByteArray := prog_1_method_125_code
def yX8_alikeFrom : MethodName := ⟨RX8, "alikeFrom", "(II)I"⟩
abbrev cX8_all : ByteArray := prog_1_method_45_code
def yX8_all : MethodName := ⟨RX8, "all", "()I"⟩
abbrev cX8_allDays : ByteArray := prog_1_method_96_code
def yX8_allDays : MethodName := ⟨RX8, "allDays", "()I"⟩
abbrev cX8_allPoles : ByteArray := prog_1_method_97_code
def yX8_allPoles : MethodName := ⟨RX8, "allPoles", "()I"⟩
abbrev cX8_amps : ByteArray := prog_1_method_12_code
def yX8_amps : MethodName := ⟨RX8, "amps", "(II)J"⟩
abbrev cX8_anew : ByteArray := prog_1_method_78_code
def yX8_anew : MethodName := ⟨RX8, "anew", "()I"⟩
abbrev cX8_apart : ByteArray := prog_1_method_39_code
def yX8_apart : MethodName := ⟨RX8, "apart", "(II)I"⟩
abbrev cX8_ask : ByteArray := prog_1_method_62_code
def yX8_ask : MethodName := ⟨RX8, "ask", "(II)I"⟩
abbrev cX8_back : ByteArray := prog_1_method_84_code
def yX8_back : MethodName := ⟨RX8, "back", "(I)I"⟩
abbrev cX8_batteries : ByteArray := prog_1_method_54_code
def yX8_batteries : MethodName := ⟨RX8, "batteries", "()I"⟩
abbrev cX8_battery : ByteArray := prog_1_method_53_code
def yX8_battery : MethodName := ⟨RX8, "battery", "(I)I"⟩
abbrev cX8_best : ByteArray := prog_1_method_57_code
def yX8_best : MethodName := ⟨RX8, "best", "()I"⟩
abbrev cX8_both : ByteArray := prog_1_method_38_code
def yX8_both : MethodName := ⟨RX8, "both", "(II)I"⟩
abbrev cX8_breaks : ByteArray := prog_1_method_65_code
def yX8_breaks : MethodName := ⟨RX8, "breaks", "(I)I"⟩
abbrev cX8_bright : ByteArray := prog_1_method_33_code
def yX8_bright : MethodName := ⟨RX8, "bright", "()I"⟩
abbrev cX8_by : ByteArray := prog_1_method_67_code
def yX8_by : MethodName := ⟨RX8, "by", "(I)I"⟩
abbrev cX8_chance : ByteArray := prog_1_method_73_code
def yX8_chance : MethodName := ⟨RX8, "chance", "(III)I"⟩
abbrev cX8_changes : ByteArray := prog_1_method_44_code
def yX8_changes : MethodName := ⟨RX8, "changes", "()I"⟩
abbrev cX8_clear : ByteArray := prog_1_method_25_code
def yX8_clear : MethodName := ⟨RX8, "clear", "()I"⟩
abbrev cX8_clearDays : ByteArray := prog_1_method_111_code
def yX8_clearDays : MethodName := ⟨RX8, "clearDays", "()I"⟩
abbrev cX8_count : ByteArray := prog_1_method_82_code
def yX8_count : MethodName := ⟨RX8, "count", "(I)I"⟩
abbrev cX8_cupped : ByteArray := prog_1_method_47_code
def yX8_cupped : MethodName := ⟨RX8, "cupped", "(II)I"⟩
abbrev cX8_cups : ByteArray := prog_1_method_75_code
def yX8_cups : MethodName := ⟨RX8, "cups", "(II)I"⟩
abbrev cX8_cure : ByteArray := prog_1_method_55_code
def yX8_cure : MethodName := ⟨RX8, "cure", "(I)I"⟩
abbrev cX8_cures : ByteArray := prog_1_method_56_code
def yX8_cures : MethodName := ⟨RX8, "cures", "(I)I"⟩
abbrev cX8_damp : ByteArray := prog_1_method_30_code
def yX8_damp : MethodName := ⟨RX8, "damp", "(II)I"⟩
abbrev cX8_dayToAsk : ByteArray := prog_1_method_122_code
def yX8_dayToAsk : MethodName := ⟨RX8, "dayToAsk", "(II)I"⟩
abbrev cX8_daysHeard : ByteArray := prog_1_method_109_code
def yX8_daysHeard : MethodName := ⟨RX8, "daysHeard", "(I)I"⟩
abbrev cX8_deaf : ByteArray := prog_1_method_22_code
def yX8_deaf : MethodName := ⟨RX8, "deaf", "(I)I"⟩
abbrev cX8_dim : ByteArray := prog_1_method_27_code
def yX8_dim : MethodName := ⟨RX8, "dim", "()I"⟩
abbrev cX8_drawn : ByteArray := prog_1_method_79_code
def yX8_drawn : MethodName := ⟨RX8, "drawn", "(II)I"⟩
abbrev cX8_dry : ByteArray := prog_1_method_35_code
def yX8_dry : MethodName := ⟨RX8, "dry", "()I"⟩
abbrev cX8_earth : ByteArray := prog_1_method_16_code
def yX8_earth : MethodName := ⟨RX8, "earth", "(III)J"⟩
abbrev cX8_end : ByteArray := prog_1_method_3_code
def yX8_end : MethodName := ⟨RX8, "end", "(I)I"⟩
abbrev cX8_ends : ByteArray := prog_1_method_36_code
def yX8_ends : MethodName := ⟨RX8, "ends", "(I)I"⟩
abbrev cX8_factorial : ByteArray := prog_1_method_101_code
def yX8_factorial : MethodName := ⟨RX8, "factorial", "(I)J"⟩
abbrev cX8_faint : ByteArray := prog_1_method_20_code
def yX8_faint : MethodName := ⟨RX8, "faint", "(I)I"⟩
abbrev cX8_falls : ByteArray := prog_1_method_15_code
def yX8_falls : MethodName := ⟨RX8, "falls", "(III)J"⟩
abbrev cX8_fault : ByteArray := prog_1_method_5_code
def yX8_fault : MethodName := ⟨RX8, "fault", "(I)I"⟩
abbrev cX8_feed : ByteArray := prog_1_method_2_code
def yX8_feed : MethodName := ⟨RX8, "feed", "(IIIII)I"⟩
abbrev cX8_firstByDays : ByteArray := prog_1_method_112_code
def yX8_firstByDays : MethodName := ⟨RX8, "firstByDays", "(I)I"⟩
abbrev cX8_fits : ByteArray := prog_1_method_59_code
def yX8_fits : MethodName := ⟨RX8, "fits", "(II)I"⟩
abbrev cX8_fittingLeaks : ByteArray := prog_1_method_121_code
def yX8_fittingLeaks : MethodName := ⟨RX8, "fittingLeaks", "(II)I"⟩
abbrev cX8_flips : ByteArray := prog_1_method_24_code
def yX8_flips : MethodName := ⟨RX8, "flips", "(I)I"⟩
abbrev cX8_gainOf : ByteArray := prog_1_method_127_code
def yX8_gainOf : MethodName := ⟨RX8, "gainOf", "(II)I"⟩
abbrev cX8_gets : ByteArray := prog_1_method_72_code
def yX8_gets : MethodName := ⟨RX8, "gets", "(IIII)I"⟩
abbrev cX8_grounds : ByteArray := prog_1_method_41_code
def yX8_grounds : MethodName := ⟨RX8, "grounds", "(I)I"⟩
abbrev cX8_half : ByteArray := prog_1_method_40_code
def yX8_half : MethodName := ⟨RX8, "half", "(I)I"⟩
abbrev cX8_hasBit : ByteArray := prog_1_method_98_code
def yX8_hasBit : MethodName := ⟨RX8, "hasBit", "(II)Z"⟩
abbrev cX8_heardBits : ByteArray := prog_1_method_106_code
def yX8_heardBits : MethodName := ⟨RX8, "heardBits", "(I)I"⟩
abbrev cX8_heardByChance : ByteArray := prog_1_method_128_code
def yX8_heardByChance : MethodName := ⟨RX8, "heardByChance", "(II)J"⟩
abbrev cX8_heardByDraws : ByteArray := prog_1_method_130_code
def yX8_heardByDraws : MethodName := ⟨RX8, "heardByDraws", "(I)I"⟩
abbrev cX8_heardByLaw : ByteArray := prog_1_method_115_code
def yX8_heardByLaw : MethodName := ⟨RX8, "heardByLaw", "(I)I"⟩
abbrev cX8_heardDaysOf : ByteArray := prog_1_method_113_code
def yX8_heardDaysOf : MethodName := ⟨RX8, "heardDaysOf", "(I)I"⟩
abbrev cX8_heardInAll : ByteArray := prog_1_method_108_code
def yX8_heardInAll : MethodName := ⟨RX8, "heardInAll", "()I"⟩
abbrev cX8_hearingDays : ByteArray := prog_1_method_110_code
def yX8_hearingDays : MethodName := ⟨RX8, "hearingDays", "(I)I"⟩
abbrev cX8_hears : ByteArray := prog_1_method_18_code
def yX8_hears : MethodName := ⟨RX8, "hears", "(I)I"⟩
abbrev cX8_high : ByteArray := prog_1_method_61_code
def yX8_high : MethodName := ⟨RX8, "high", "(II)I"⟩
abbrev cX8_highestBit : ByteArray := prog_1_method_99_code
def yX8_highestBit : MethodName := ⟨RX8, "highestBit", "(I)I"⟩
abbrev cX8_image : ByteArray := prog_1_method_83_code
def yX8_image : MethodName := ⟨RX8, "image", "(I)I"⟩
abbrev cX8_init : ByteArray := prog_1_method_1_code
def yX8_init : MethodName := ⟨RX8, "<init>", "()V"⟩
abbrev cX8_isAsSeen : ByteArray := prog_1_method_120_code
def yX8_isAsSeen : MethodName := ⟨RX8, "isAsSeen", "(I)Z"⟩
abbrev cX8_isChanceDay : ByteArray := prog_1_method_90_code
def yX8_isChanceDay : MethodName := ⟨RX8, "isChanceDay", "(I)Z"⟩
abbrev cX8_isDay : ByteArray := prog_1_method_89_code
def yX8_isDay : MethodName := ⟨RX8, "isDay", "(I)Z"⟩
abbrev cX8_isPart : ByteArray := prog_1_method_93_code
def yX8_isPart : MethodName := ⟨RX8, "isPart", "(I)Z"⟩
abbrev cX8_isPole : ByteArray := prog_1_method_91_code
def yX8_isPole : MethodName := ⟨RX8, "isPole", "(I)Z"⟩
abbrev cX8_isSeed : ByteArray := prog_1_method_94_code
def yX8_isSeed : MethodName := ⟨RX8, "isSeed", "(I)Z"⟩
abbrev cX8_isSlot : ByteArray := prog_1_method_95_code
def yX8_isSlot : MethodName := ⟨RX8, "isSlot", "(I)Z"⟩
abbrev cX8_isStation : ByteArray := prog_1_method_92_code
def yX8_isStation : MethodName := ⟨RX8, "isStation", "(I)Z"⟩
abbrev cX8_isTold : ByteArray := prog_1_method_88_code
def yX8_isTold : MethodName := ⟨RX8, "isTold", "()Z"⟩
abbrev cX8_joined : ByteArray := prog_1_method_10_code
def yX8_joined : MethodName := ⟨RX8, "joined", "(I)I"⟩
abbrev cX8_lack : ByteArray := prog_1_method_49_code
def yX8_lack : MethodName := ⟨RX8, "lack", "(I)I"⟩
abbrev cX8_last : ByteArray := prog_1_method_26_code
def yX8_last : MethodName := ⟨RX8, "last", "()I"⟩
abbrev cX8_law : ByteArray := prog_1_method_68_code
def yX8_law : MethodName := ⟨RX8, "law", "()I"⟩
abbrev cX8_laws : ByteArray := prog_1_method_66_code
def yX8_laws : MethodName := ⟨RX8, "laws", "(I)I"⟩
abbrev cX8_leak : ByteArray := prog_1_method_9_code
def yX8_leak : MethodName := ⟨RX8, "leak", "(II)I"⟩
abbrev cX8_leastBattery : ByteArray := prog_1_method_116_code
def yX8_leastBattery : MethodName := ⟨RX8, "leastBattery", "()I"⟩
abbrev cX8_leastCure : ByteArray := prog_1_method_117_code
def yX8_leastCure : MethodName := ⟨RX8, "leastCure", "(I)I"⟩
abbrev cX8_leaves : ByteArray := prog_1_method_63_code
def yX8_leaves : MethodName := ⟨RX8, "leaves", "(II)I"⟩
abbrev cX8_leftAtWorst : ByteArray := prog_1_method_123_code
def yX8_leftAtWorst : MethodName := ⟨RX8, "leftAtWorst", "(III)I"⟩
abbrev cX8_listenAsTold : ByteArray := prog_1_method_107_code
def yX8_listenAsTold : MethodName := ⟨RX8, "listenAsTold", "()V"⟩
abbrev cX8_longest : ByteArray := prog_1_method_23_code
def yX8_longest : MethodName := ⟨RX8, "longest", "(I)I"⟩
abbrev cX8_longestRun : ByteArray := prog_1_method_100_code
def yX8_longestRun : MethodName := ⟨RX8, "longestRun", "(I)I"⟩
abbrev cX8_loud : ByteArray := prog_1_method_50_code
def yX8_loud : MethodName := ⟨RX8, "loud", "(I)I"⟩
abbrev cX8_low : ByteArray := prog_1_method_60_code
def yX8_low : MethodName := ⟨RX8, "low", "(II)I"⟩
abbrev cX8_luck : ByteArray := prog_1_method_80_code
def yX8_luck : MethodName := ⟨RX8, "luck", "(III)I"⟩
abbrev cX8_margin : ByteArray := prog_1_method_32_code
def yX8_margin : MethodName := ⟨RX8, "margin", "(II)I"⟩
abbrev cX8_mean : ByteArray := prog_1_method_74_code
def yX8_mean : MethodName := ⟨RX8, "mean", "(II)J"⟩
abbrev cX8_mute : ByteArray := prog_1_method_43_code
def yX8_mute : MethodName := ⟨RX8, "mute", "()I"⟩
abbrev cX8_ohms : ByteArray := prog_1_method_11_code
def yX8_ohms : MethodName := ⟨RX8, "ohms", "(II)J"⟩
abbrev cX8_pairSet : ByteArray := prog_1_method_126_code
def yX8_pairSet : MethodName := ⟨RX8, "pairSet", "(IIII)I"⟩
abbrev cX8_partOf : ByteArray := prog_1_method_103_code
def yX8_partOf : MethodName := ⟨RX8, "partOf", "(JJI)J"⟩
abbrev cX8_paste : ByteArray := prog_1_method_87_code
def yX8_paste : MethodName := ⟨RX8, "paste", "(IIIII)I"⟩
abbrev cX8_power : ByteArray := prog_1_method_102_code
def yX8_power : MethodName := ⟨RX8, "power", "(II)J"⟩
abbrev cX8_rate : ByteArray := prog_1_method_81_code
def yX8_rate : MethodName := ⟨RX8, "rate", "(II)I"⟩
abbrev cX8_reach : ByteArray := prog_1_method_37_code
def yX8_reach : MethodName := ⟨RX8, "reach", "(I)I"⟩
abbrev cX8_readByLeaks : ByteArray := prog_1_method_124_code
def yX8_readByLeaks : MethodName := ⟨RX8, "readByLeaks", "(III)V"⟩
abbrev cX8_refusalOfRow : ByteArray := prog_1_method_119_code
def yX8_refusalOfRow : MethodName := ⟨RX8, "refusalOfRow", "(I)I"⟩
abbrev cX8_refusalOfSeen : ByteArray := prog_1_method_118_code
def yX8_refusalOfSeen : MethodName := ⟨RX8, "refusalOfSeen", "(II)I"⟩
abbrev cX8_rests : ByteArray := prog_1_method_71_code
def yX8_rests : MethodName := ⟨RX8, "rests", "(II)I"⟩
abbrev cX8_rises : ByteArray := prog_1_method_34_code
def yX8_rises : MethodName := ⟨RX8, "rises", "(I)I"⟩
abbrev cX8_row : ByteArray := prog_1_method_85_code
def yX8_row : MethodName := ⟨RX8, "row", "(III)I"⟩
abbrev cX8_settleAsTold : ByteArray := prog_1_method_104_code
def yX8_settleAsTold : MethodName := ⟨RX8, "settleAsTold", "(I)V"⟩
abbrev cX8_share : ByteArray := prog_1_method_70_code
def yX8_share : MethodName := ⟨RX8, "share", "(II)I"⟩
abbrev cX8_silent : ByteArray := prog_1_method_19_code
def yX8_silent : MethodName := ⟨RX8, "silent", "(I)I"⟩
abbrev cX8_snapped : ByteArray := prog_1_method_48_code
def yX8_snapped : MethodName := ⟨RX8, "snapped", "(I)I"⟩
abbrev cX8_snaps : ByteArray := prog_1_method_76_code
def yX8_snaps : MethodName := ⟨RX8, "snaps", "(II)I"⟩
abbrev cX8_sore : ByteArray := prog_1_method_17_code
def yX8_sore : MethodName := ⟨RX8, "sore", "(I)I"⟩
abbrev cX8_span : ByteArray := prog_1_method_6_code
def yX8_span : MethodName := ⟨RX8, "span", "(II)I"⟩
abbrev cX8_spell : ByteArray := prog_1_method_31_code
def yX8_spell : MethodName := ⟨RX8, "spell", "()I"⟩
abbrev cX8_spots : ByteArray := prog_1_method_64_code
def yX8_spots : MethodName := ⟨RX8, "spots", "(I)I"⟩
abbrev cX8_stations : ByteArray := prog_1_method_7_code
def yX8_stations : MethodName := ⟨RX8, "stations", "()I"⟩
abbrev cX8_steep : ByteArray := prog_1_method_42_code
def yX8_steep : MethodName := ⟨RX8, "steep", "(I)I"⟩
abbrev cX8_strong : ByteArray := prog_1_method_52_code
def yX8_strong : MethodName := ⟨RX8, "strong", "()I"⟩
abbrev cX8_sum : ByteArray := prog_1_method_28_code
def yX8_sum : MethodName := ⟨RX8, "sum", "()I"⟩
abbrev cX8_thick : ByteArray := prog_1_method_58_code
def yX8_thick : MethodName := ⟨RX8, "thick", "()I"⟩
abbrev cX8_undo : ByteArray := prog_1_method_77_code
def yX8_undo : MethodName := ⟨RX8, "undo", "()I"⟩
abbrev cX8_volts : ByteArray := prog_1_method_13_code
def yX8_volts : MethodName := ⟨RX8, "volts", "(III)J"⟩
abbrev cX8_weakest : ByteArray := prog_1_method_51_code
def yX8_weakest : MethodName := ⟨RX8, "weakest", "()I"⟩
abbrev cX8_wetByDraws : ByteArray := prog_1_method_129_code
def yX8_wetByDraws : MethodName := ⟨RX8, "wetByDraws", "(I)I"⟩
abbrev cX8_wets : ByteArray := prog_1_method_8_code
def yX8_wets : MethodName := ⟨RX8, "wets", "()I"⟩
abbrev cX8_when : ByteArray := prog_1_method_21_code
def yX8_when : MethodName := ⟨RX8, "when", "(I)I"⟩
abbrev cX8_whole : ByteArray := prog_1_method_14_code
def yX8_whole : MethodName := ⟨RX8, "whole", "(II)I"⟩
abbrev cX8_wholeVolts : ByteArray := prog_1_method_105_code
def yX8_wholeVolts : MethodName := ⟨RX8, "wholeVolts", "(I)I"⟩
abbrev cX8_wire : ByteArray := prog_1_method_4_code
def yX8_wire : MethodName := ⟨RX8, "wire", "()I"⟩
abbrev cX8_without : ByteArray := prog_1_method_46_code
def yX8_without : MethodName := ⟨RX8, "without", "(I)I"⟩
abbrev cX8_worst : ByteArray := prog_1_method_29_code
def yX8_worst : MethodName := ⟨RX8, "worst", "(I)I"⟩
abbrev cX8_worth : ByteArray := prog_1_method_69_code
def yX8_worth : MethodName := ⟨RX8, "worth", "(I)I"⟩
abbrev cX8_worthOf : ByteArray := prog_1_method_114_code
def yX8_worthOf : MethodName := ⟨RX8, "worthOf", "(I)I"⟩
abbrev cX8_write : ByteArray := prog_1_method_86_code
def yX8_write : MethodName := ⟨RX8, "write", "(IIJ)I"⟩
abbrev cX9_all : ByteArray := prog_11_method_101_code
def yX9_all : MethodName := ⟨RX9, "all", "()I"⟩
abbrev cX9_amps : ByteArray := prog_11_method_61_code
def yX9_amps : MethodName := ⟨RX9, "amps", "(II)J"⟩
abbrev cX9_anew : ByteArray := prog_11_method_155_code
def yX9_anew : MethodName := ⟨RX9, "anew", "()I"⟩
abbrev cX9_apart : ByteArray := prog_11_method_94_code
def yX9_apart : MethodName := ⟨RX9, "apart", "(II)I"⟩
abbrev cX9_areTwo : ByteArray := prog_11_method_139_code
def yX9_areTwo : MethodName := ⟨RX9, "areTwo", "(II)Z"⟩
abbrev cX9_ask : ByteArray := prog_11_method_127_code
def yX9_ask : MethodName := ⟨RX9, "ask", "(II)I"⟩
abbrev cX9_asks : ByteArray := prog_11_method_18_code
def yX9_asks : MethodName := ⟨RX9, "asks", "(J)V"⟩
abbrev cX9_back : ByteArray := prog_11_method_159_code
def yX9_back : MethodName := ⟨RX9, "back", "(I)I"⟩
abbrev cX9_batteries : ByteArray := prog_11_method_113_code
def yX9_batteries : MethodName := ⟨RX9, "batteries", "()I"⟩
abbrev cX9_battery : ByteArray := prog_11_method_112_code
def yX9_battery : MethodName := ⟨RX9, "battery", "(I)I"⟩
abbrev cX9_batteryOf : ByteArray := prog_11_method_111_code
def yX9_batteryOf : MethodName := ⟨RX9, "batteryOf", "(II)I"⟩
abbrev cX9_begins : ByteArray := prog_11_method_22_code
def yX9_begins : MethodName := ⟨RX9, "begins", "()V"⟩
abbrev cX9_best : ByteArray := prog_11_method_117_code
def yX9_best : MethodName := ⟨RX9, "best", "()I"⟩
abbrev cX9_both : ByteArray := prog_11_method_93_code
def yX9_both : MethodName := ⟨RX9, "both", "(II)I"⟩
abbrev cX9_breaks : ByteArray := prog_11_method_130_code
def yX9_breaks : MethodName := ⟨RX9, "breaks", "(I)I"⟩
abbrev cX9_bright : ByteArray := prog_11_method_81_code
def yX9_bright : MethodName := ⟨RX9, "bright", "()I"⟩
abbrev cX9_by : ByteArray := prog_11_method_133_code
def yX9_by : MethodName := ⟨RX9, "by", "(I)I"⟩
abbrev cX9_chance : ByteArray := prog_11_method_145_code
def yX9_chance : MethodName := ⟨RX9, "chance", "(III)I"⟩
abbrev cX9_changes : ByteArray := prog_11_method_99_code
def yX9_changes : MethodName := ⟨RX9, "changes", "()I"⟩
abbrev cX9_clear : ByteArray := prog_11_method_77_code
def yX9_clear : MethodName := ⟨RX9, "clear", "()I"⟩
abbrev cX9_clears : ByteArray := prog_11_method_30_code
def yX9_clears : MethodName := ⟨RX9, "clears", "()V"⟩
abbrev cX9_closes : ByteArray := prog_11_method_21_code
def yX9_closes : MethodName := ⟨RX9, "closes", "()V"⟩
abbrev cX9_common : ByteArray := prog_11_method_53_code
def yX9_common : MethodName := ⟨RX9, "common", "(JJ)J"⟩
abbrev cX9_copyRow : ByteArray := prog_11_method_32_code
def yX9_copyRow : MethodName := ⟨RX9, "copyRow", "([IIII)V"⟩
abbrev cX9_copyWire : ByteArray := prog_11_method_33_code
def yX9_copyWire : MethodName := ⟨RX9, "copyWire", "(II)V"⟩
abbrev cX9_count : ByteArray := prog_11_method_157_code
def yX9_count : MethodName := ⟨RX9, "count", "(I)I"⟩
abbrev cX9_cupOf : ByteArray := prog_11_method_45_code
def yX9_cupOf : MethodName := ⟨RX9, "cupOf", "(II)I"⟩
abbrev cX9_cupped : ByteArray := prog_11_method_103_code
def yX9_cupped : MethodName := ⟨RX9, "cupped", "(II)I"⟩
abbrev cX9_cups : ByteArray := prog_11_method_152_code
def yX9_cups : MethodName := ⟨RX9, "cups", "(II)I"⟩
abbrev cX9_cure : ByteArray := prog_11_method_115_code
def yX9_cure : MethodName := ⟨RX9, "cure", "(I)I"⟩
abbrev cX9_cureOf : ByteArray := prog_11_method_114_code
def yX9_cureOf : MethodName := ⟨RX9, "cureOf", "(I)I"⟩
abbrev cX9_cures : ByteArray := prog_11_method_116_code
def yX9_cures : MethodName := ⟨RX9, "cures", "(I)I"⟩
abbrev cX9_cut : ByteArray := prog_11_method_6_code
def yX9_cut : MethodName := ⟨RX9, "cut", "(JI)J"⟩
abbrev cX9_damp : ByteArray := prog_11_method_84_code
def yX9_damp : MethodName := ⟨RX9, "damp", "(II)I"⟩
abbrev cX9_dayBy : ByteArray := prog_11_method_79_code
def yX9_dayBy : MethodName := ⟨RX9, "dayBy", "(I)I"⟩
abbrev cX9_days : ByteArray := prog_11_method_36_code
def yX9_days : MethodName := ⟨RX9, "days", "()I"⟩
abbrev cX9_daysOf : ByteArray := prog_11_method_92_code
def yX9_daysOf : MethodName := ⟨RX9, "daysOf", "(IIZ)I"⟩
abbrev cX9_deaf : ByteArray := prog_11_method_74_code
def yX9_deaf : MethodName := ⟨RX9, "deaf", "(I)I"⟩
abbrev cX9_dim : ByteArray := prog_11_method_80_code
def yX9_dim : MethodName := ⟨RX9, "dim", "()I"⟩
abbrev cX9_does : ByteArray := prog_11_method_151_code
def yX9_does : MethodName := ⟨RX9, "does", "(III)V"⟩
abbrev cX9_drawn : ByteArray := prog_11_method_149_code
def yX9_drawn : MethodName := ⟨RX9, "drawn", "(II)I"⟩
abbrev cX9_draws : ByteArray := prog_11_method_147_code
def yX9_draws : MethodName := ⟨RX9, "draws", "(J)V"⟩
abbrev cX9_dry : ByteArray := prog_11_method_87_code
def yX9_dry : MethodName := ⟨RX9, "dry", "()I"⟩
abbrev cX9_earth : ByteArray := prog_11_method_66_code
def yX9_earth : MethodName := ⟨RX9, "earth", "(III)J"⟩
abbrev cX9_end : ByteArray := prog_11_method_11_code
def yX9_end : MethodName := ⟨RX9, "end", "(I)I"⟩
abbrev cX9_ends : ByteArray := prog_11_method_90_code
def yX9_ends : MethodName := ⟨RX9, "ends", "(I)I"⟩
abbrev cX9_fails : ByteArray := prog_11_method_15_code
def yX9_fails : MethodName := ⟨RX9, "fails", "(I)V"⟩
abbrev cX9_faint : ByteArray := prog_11_method_71_code
def yX9_faint : MethodName := ⟨RX9, "faint", "(I)I"⟩
abbrev cX9_falls : ByteArray := prog_11_method_65_code
def yX9_falls : MethodName := ⟨RX9, "falls", "(III)J"⟩
abbrev cX9_fault : ByteArray := prog_11_method_24_code
def yX9_fault : MethodName := ⟨RX9, "fault", "(I)I"⟩
abbrev cX9_feed : ByteArray := prog_11_method_9_code
def yX9_feed : MethodName := ⟨RX9, "feed", "(IIIII)I"⟩
abbrev cX9_fits : ByteArray := prog_11_method_124_code
def yX9_fits : MethodName := ⟨RX9, "fits", "(II)I"⟩
abbrev cX9_flips : ByteArray := prog_11_method_76_code
def yX9_flips : MethodName := ⟨RX9, "flips", "(I)I"⟩
abbrev cX9_four : ByteArray := prog_11_method_10_code
def yX9_four : MethodName := ⟨RX9, "four", "(I)V"⟩
abbrev cX9_gets : ByteArray := prog_11_method_141_code
def yX9_gets : MethodName := ⟨RX9, "gets", "(IIII)I"⟩
abbrev cX9_getsBy : ByteArray := prog_11_method_138_code
def yX9_getsBy : MethodName := ⟨RX9, "getsBy", "(IIIII)I"⟩
abbrev cX9_grounds : ByteArray := prog_11_method_96_code
def yX9_grounds : MethodName := ⟨RX9, "grounds", "(I)I"⟩
abbrev cX9_half : ByteArray := prog_11_method_95_code
def yX9_half : MethodName := ⟨RX9, "half", "(I)I"⟩
abbrev cX9_hasRead : ByteArray := prog_11_method_25_code
def yX9_hasRead : MethodName := ⟨RX9, "hasRead", "(I)I"⟩
abbrev cX9_hears : ByteArray := prog_11_method_68_code
def yX9_hears : MethodName := ⟨RX9, "hears", "(I)I"⟩
abbrev cX9_hearsOn : ByteArray := prog_11_method_50_code
def yX9_hearsOn : MethodName := ⟨RX9, "hearsOn", "(I)I"⟩
abbrev cX9_high : ByteArray := prog_11_method_126_code
def yX9_high : MethodName := ⟨RX9, "high", "(II)I"⟩
abbrev cX9_image : ByteArray := prog_11_method_158_code
def yX9_image : MethodName := ⟨RX9, "image", "(I)I"⟩
abbrev cX9_in : ByteArray := prog_11_method_3_code
def yX9_in : MethodName := ⟨RX9, "in", "(JJJ)Z"⟩
abbrev cX9_init : ByteArray := prog_11_method_1_code
def yX9_init : MethodName := ⟨RX9, "<init>", "()V"⟩
abbrev cX9_is : ByteArray := prog_11_method_16_code
def yX9_is : MethodName := ⟨RX9, "is", "(J)Z"⟩
abbrev cX9_isBit : ByteArray := prog_11_method_41_code
def yX9_isBit : MethodName := ⟨RX9, "isBit", "(II)Z"⟩
abbrev cX9_isBroken : ByteArray := prog_11_method_47_code
def yX9_isBroken : MethodName := ⟨RX9, "isBroken", "(II)Z"⟩
abbrev cX9_isByte : ByteArray := prog_11_method_12_code
def yX9_isByte : MethodName := ⟨RX9, "isByte", "(III)Z"⟩
abbrev cX9_isClear : ByteArray := prog_11_method_110_code
def yX9_isClear : MethodName := ⟨RX9, "isClear", "(II)Z"⟩
abbrev cX9_isDay : ByteArray := prog_11_method_39_code
def yX9_isDay : MethodName := ⟨RX9, "isDay", "(J)Z"⟩
abbrev cX9_isGood : ByteArray := prog_11_method_14_code
def yX9_isGood : MethodName := ⟨RX9, "isGood", "()Z"⟩
abbrev cX9_isHalf : ByteArray := prog_11_method_40_code
def yX9_isHalf : MethodName := ⟨RX9, "isHalf", "(I)Z"⟩
abbrev cX9_isHeard : ByteArray := prog_11_method_72_code
def yX9_isHeard : MethodName := ⟨RX9, "isHeard", "(II)Z"⟩
abbrev cX9_isHearing : ByteArray := prog_11_method_49_code
def yX9_isHearing : MethodName := ⟨RX9, "isHearing", "(I)Z"⟩
abbrev cX9_isLeak : ByteArray := prog_11_method_121_code
def yX9_isLeak : MethodName := ⟨RX9, "isLeak", "(III)Z"⟩
abbrev cX9_isOf : ByteArray := prog_11_method_62_code
def yX9_isOf : MethodName := ⟨RX9, "isOf", "(III)Z"⟩
abbrev cX9_isOver : ByteArray := prog_11_method_23_code
def yX9_isOver : MethodName := ⟨RX9, "isOver", "()V"⟩
abbrev cX9_isRoom : ByteArray := prog_11_method_28_code
def yX9_isRoom : MethodName := ⟨RX9, "isRoom", "(ZII)Z"⟩
abbrev cX9_isSeed : ByteArray := prog_11_method_148_code
def yX9_isSeed : MethodName := ⟨RX9, "isSeed", "(I)Z"⟩
abbrev cX9_isSlot : ByteArray := prog_11_method_4_code
def yX9_isSlot : MethodName := ⟨RX9, "isSlot", "(I)Z"⟩
abbrev cX9_isSo : ByteArray := prog_11_method_120_code
def yX9_isSo : MethodName := ⟨RX9, "isSo", "(I)Z"⟩
abbrev cX9_isSoon : ByteArray := prog_11_method_144_code
def yX9_isSoon : MethodName := ⟨RX9, "isSoon", "(I)Z"⟩
abbrev cX9_isSpan : ByteArray := prog_11_method_37_code
def yX9_isSpan : MethodName := ⟨RX9, "isSpan", "(I)Z"⟩
abbrev cX9_isStation : ByteArray := prog_11_method_38_code
def yX9_isStation : MethodName := ⟨RX9, "isStation", "(I)Z"⟩
abbrev cX9_isWire : ByteArray := prog_11_method_34_code
def yX9_isWire : MethodName := ⟨RX9, "isWire", "()Z"⟩
abbrev cX9_joined : ByteArray := prog_11_method_59_code
def yX9_joined : MethodName := ⟨RX9, "joined", "(I)I"⟩
abbrev cX9_lack : ByteArray := prog_11_method_105_code
def yX9_lack : MethodName := ⟨RX9, "lack", "(I)I"⟩
abbrev cX9_last : ByteArray := prog_11_method_78_code
def yX9_last : MethodName := ⟨RX9, "last", "()I"⟩
abbrev cX9_law : ByteArray := prog_11_method_134_code
def yX9_law : MethodName := ⟨RX9, "law", "()I"⟩
abbrev cX9_laws : ByteArray := prog_11_method_131_code
def yX9_laws : MethodName := ⟨RX9, "laws", "(I)I"⟩
abbrev cX9_lays : ByteArray := prog_11_method_44_code
def yX9_lays : MethodName := ⟨RX9, "lays", "()V"⟩
abbrev cX9_laysDay : ByteArray := prog_11_method_48_code
def yX9_laysDay : MethodName := ⟨RX9, "laysDay", "(I)V"⟩
abbrev cX9_laysSeen : ByteArray := prog_11_method_122_code
def yX9_laysSeen : MethodName := ⟨RX9, "laysSeen", "(II)V"⟩
abbrev cX9_leak : ByteArray := prog_11_method_58_code
def yX9_leak : MethodName := ⟨RX9, "leak", "(II)I"⟩
abbrev cX9_leakOf : ByteArray := prog_11_method_46_code
def yX9_leakOf : MethodName := ⟨RX9, "leakOf", "(II)I"⟩
abbrev cX9_leaves : ByteArray := prog_11_method_128_code
def yX9_leaves : MethodName := ⟨RX9, "leaves", "(II)I"⟩
abbrev cX9_lineHere : ByteArray := prog_11_method_29_code
def yX9_lineHere : MethodName := ⟨RX9, "lineHere", "()V"⟩
abbrev cX9_longest : ByteArray := prog_11_method_75_code
def yX9_longest : MethodName := ⟨RX9, "longest", "(I)I"⟩
abbrev cX9_loud : ByteArray := prog_11_method_106_code
def yX9_loud : MethodName := ⟨RX9, "loud", "(I)I"⟩
abbrev cX9_low : ByteArray := prog_11_method_125_code
def yX9_low : MethodName := ⟨RX9, "low", "(II)I"⟩
abbrev cX9_luck : ByteArray := prog_11_method_150_code
def yX9_luck : MethodName := ⟨RX9, "luck", "(III)I"⟩
abbrev cX9_margin : ByteArray := prog_11_method_88_code
def yX9_margin : MethodName := ⟨RX9, "margin", "(II)I"⟩
abbrev cX9_mean : ByteArray := prog_11_method_146_code
def yX9_mean : MethodName := ⟨RX9, "mean", "(II)J"⟩
abbrev cX9_moreOf : ByteArray := prog_11_method_43_code
def yX9_moreOf : MethodName := ⟨RX9, "moreOf", "(II)I"⟩
abbrev cX9_mute : ByteArray := prog_11_method_98_code
def yX9_mute : MethodName := ⟨RX9, "mute", "()I"⟩
abbrev cX9_next : ByteArray := prog_11_method_13_code
def yX9_next : MethodName := ⟨RX9, "next", "()V"⟩
abbrev cX9_number : ByteArray := prog_11_method_19_code
def yX9_number : MethodName := ⟨RX9, "number", "(II)I"⟩
abbrev cX9_number_ : ByteArray := prog_11_method_20_code
def yX9_number_ : MethodName := ⟨RX9, "number", "(JII)I"⟩
abbrev cX9_ohms : ByteArray := prog_11_method_60_code
def yX9_ohms : MethodName := ⟨RX9, "ohms", "(II)J"⟩
abbrev cX9_partAt : ByteArray := prog_11_method_70_code
def yX9_partAt : MethodName := ⟨RX9, "partAt", "(I)J"⟩
abbrev cX9_partOf : ByteArray := prog_11_method_54_code
def yX9_partOf : MethodName := ⟨RX9, "partOf", "(JJI)J"⟩
abbrev cX9_paste : ByteArray := prog_11_method_8_code
def yX9_paste : MethodName := ⟨RX9, "paste", "(IIIII)I"⟩
abbrev cX9_power : ByteArray := prog_11_method_142_code
def yX9_power : MethodName := ⟨RX9, "power", "(JI)J"⟩
abbrev cX9_rate : ByteArray := prog_11_method_156_code
def yX9_rate : MethodName := ⟨RX9, "rate", "(II)I"⟩
abbrev cX9_reach : ByteArray := prog_11_method_91_code
def yX9_reach : MethodName := ⟨RX9, "reach", "(I)I"⟩
abbrev cX9_rests : ByteArray := prog_11_method_140_code
def yX9_rests : MethodName := ⟨RX9, "rests", "(II)I"⟩
abbrev cX9_rises : ByteArray := prog_11_method_89_code
def yX9_rises : MethodName := ⟨RX9, "rises", "(I)I"⟩
abbrev cX9_row : ByteArray := prog_11_method_5_code
def yX9_row : MethodName := ⟨RX9, "row", "(III)I"⟩
abbrev cX9_share : ByteArray := prog_11_method_137_code
def yX9_share : MethodName := ⟨RX9, "share", "(II)I"⟩
abbrev cX9_silent : ByteArray := prog_11_method_69_code
def yX9_silent : MethodName := ⟨RX9, "silent", "(I)I"⟩
abbrev cX9_sizeOf : ByteArray := prog_11_method_42_code
def yX9_sizeOf : MethodName := ⟨RX9, "sizeOf", "(I)I"⟩
abbrev cX9_snapped : ByteArray := prog_11_method_104_code
def yX9_snapped : MethodName := ⟨RX9, "snapped", "(I)I"⟩
abbrev cX9_snaps : ByteArray := prog_11_method_153_code
def yX9_snaps : MethodName := ⟨RX9, "snaps", "(II)I"⟩
abbrev cX9_sore : ByteArray := prog_11_method_67_code
def yX9_sore : MethodName := ⟨RX9, "sore", "(I)I"⟩
abbrev cX9_span : ByteArray := prog_11_method_55_code
def yX9_span : MethodName := ⟨RX9, "span", "(II)I"⟩
abbrev cX9_spanLine : ByteArray := prog_11_method_27_code
def yX9_spanLine : MethodName := ⟨RX9, "spanLine", "()V"⟩
abbrev cX9_spans : ByteArray := prog_11_method_35_code
def yX9_spans : MethodName := ⟨RX9, "spans", "()I"⟩
abbrev cX9_spell : ByteArray := prog_11_method_86_code
def yX9_spell : MethodName := ⟨RX9, "spell", "()I"⟩
abbrev cX9_spellOf : ByteArray := prog_11_method_85_code
def yX9_spellOf : MethodName := ⟨RX9, "spellOf", "(Z)I"⟩
abbrev cX9_spots : ByteArray := prog_11_method_129_code
def yX9_spots : MethodName := ⟨RX9, "spots", "(I)I"⟩
abbrev cX9_stationBy : ByteArray := prog_11_method_107_code
def yX9_stationBy : MethodName := ⟨RX9, "stationBy", "(I)I"⟩
abbrev cX9_stations : ByteArray := prog_11_method_56_code
def yX9_stations : MethodName := ⟨RX9, "stations", "()I"⟩
abbrev cX9_stationsAll : ByteArray := prog_11_method_51_code
def yX9_stationsAll : MethodName := ⟨RX9, "stationsAll", "()I"⟩
abbrev cX9_steep : ByteArray := prog_11_method_97_code
def yX9_steep : MethodName := ⟨RX9, "steep", "(I)I"⟩
abbrev cX9_strong : ByteArray := prog_11_method_109_code
def yX9_strong : MethodName := ⟨RX9, "strong", "()I"⟩
abbrev cX9_sum : ByteArray := prog_11_method_82_code
def yX9_sum : MethodName := ⟨RX9, "sum", "()I"⟩
abbrev cX9_sumBy : ByteArray := prog_11_method_132_code
def yX9_sumBy : MethodName := ⟨RX9, "sumBy", "(I)I"⟩
abbrev cX9_sumNow : ByteArray := prog_11_method_52_code
def yX9_sumNow : MethodName := ⟨RX9, "sumNow", "()I"⟩
abbrev cX9_takesWord : ByteArray := prog_11_method_17_code
def yX9_takesWord : MethodName := ⟨RX9, "takesWord", "(J)Z"⟩
abbrev cX9_tells : ByteArray := prog_11_method_26_code
def yX9_tells : MethodName := ⟨RX9, "tells", "(II)V"⟩
abbrev cX9_thick : ByteArray := prog_11_method_118_code
def yX9_thick : MethodName := ⟨RX9, "thick", "()I"⟩
abbrev cX9_times : ByteArray := prog_11_method_136_code
def yX9_times : MethodName := ⟨RX9, "times", "(I)I"⟩
abbrev cX9_undo : ByteArray := prog_11_method_154_code
def yX9_undo : MethodName := ⟨RX9, "undo", "()I"⟩
abbrev cX9_volts : ByteArray := prog_11_method_63_code
def yX9_volts : MethodName := ⟨RX9, "volts", "(III)J"⟩
abbrev cX9_weakest : ByteArray := prog_11_method_108_code
def yX9_weakest : MethodName := ⟨RX9, "weakest", "()I"⟩
abbrev cX9_weightOf : ByteArray := prog_11_method_143_code
def yX9_weightOf : MethodName := ⟨RX9, "weightOf", "(II)J"⟩
abbrev cX9_wets : ByteArray := prog_11_method_57_code
def yX9_wets : MethodName := ⟨RX9, "wets", "()I"⟩
abbrev cX9_when : ByteArray := prog_11_method_73_code
def yX9_when : MethodName := ⟨RX9, "when", "(I)I"⟩
abbrev cX9_whole : ByteArray := prog_11_method_64_code
def yX9_whole : MethodName := ⟨RX9, "whole", "(II)I"⟩
abbrev cX9_whyNot : ByteArray := prog_11_method_119_code
def yX9_whyNot : MethodName := ⟨RX9, "whyNot", "(IZ)I"⟩
abbrev cX9_wire : ByteArray := prog_11_method_31_code
def yX9_wire : MethodName := ⟨RX9, "wire", "()I"⟩
abbrev cX9_without : ByteArray := prog_11_method_102_code
def yX9_without : MethodName := ⟨RX9, "without", "(I)I"⟩
abbrev cX9_worst : ByteArray := prog_11_method_83_code
def yX9_worst : MethodName := ⟨RX9, "worst", "(I)I"⟩
abbrev cX9_worstAt : ByteArray := prog_11_method_123_code
def yX9_worstAt : MethodName := ⟨RX9, "worstAt", "(I)I"⟩
abbrev cX9_worth : ByteArray := prog_11_method_135_code
def yX9_worth : MethodName := ⟨RX9, "worth", "(I)I"⟩
abbrev cX9_worthOf : ByteArray := prog_11_method_100_code
def yX9_worthOf : MethodName := ⟨RX9, "worthOf", "(I)I"⟩
abbrev cX9_write : ByteArray := prog_11_method_7_code
def yX9_write : MethodName := ⟨RX9, "write", "(IIJ)I"⟩
def wl_0 : List (Nat × Cond) := [(0, Cond.selects RX7 yX7_add yX7_add), (1, Cond.selects RX6 yX6_step yX6_step), (2, Cond.selects RX6 yX6_readLine yX6_readLine), (3, Cond.selects RX6 yX6_readHead yX6_readHead), (4, Cond.selects RX6 yX6_readPair yX6_readPair), (5, Cond.selects RX6 yX6_readNumber yX6_readNumber), (6, Cond.selects RX6 yX6_fail yX6_fail), (7, Cond.selects RX6 yX6_isSign yX6_isSign), (8, Cond.selects RX6 yX6_readSpan yX6_readSpan), (9, Cond.selects RX6 yX6_readWet yX6_readWet), (10, Cond.selects RX8 yX8_isPole yX8_isPole), (11, Cond.selects RX8 yX8_isTold yX8_isTold), (12, Cond.selects RX8 yX8_isDay yX8_isDay), (13, Cond.selects RX4 yX4_isWet yX4_isWet), (14, Cond.selects RX4 yX4_wetDays yX4_wetDays), (15, Cond.selects RX8 yX8_settleAsTold yX8_settleAsTold), (16, Cond.selects RX8 yX8_partOf yX8_partOf), (17, Cond.selects RX8 yX8_wholeVolts yX8_wholeVolts), (18, Cond.selects RX8 yX8_heardBits yX8_heardBits), (19, Cond.selects RX8 yX8_isStation yX8_isStation), (20, Cond.selects RX8 yX8_allDays yX8_allDays), (21, Cond.selects RX8 yX8_hearingDays yX8_hearingDays), (22, Cond.selects RX8 yX8_daysHeard yX8_daysHeard), (23, Cond.selects RX8 yX8_clearDays yX8_clearDays), (24, Cond.selects RX8 yX8_listenAsTold yX8_listenAsTold), (25, Cond.selects RX8 yX8_heardInAll yX8_heardInAll), (26, Cond.selects RX8 yX8_allPoles yX8_allPoles), (27, Cond.selects RX8 yX8_worthOf yX8_worthOf), (28, Cond.selects RX8 yX8_firstByDays yX8_firstByDays), (29, Cond.selects RX8 yX8_heardDaysOf yX8_heardDaysOf), (30, Cond.selects RX8 yX8_leastBattery yX8_leastBattery), (31, Cond.selects RX8 yX8_leastCure yX8_leastCure), (32, Cond.selects RX8 yX8_refusalOfSeen yX8_refusalOfSeen), (33, Cond.selects RX8 yX8_refusalOfRow yX8_refusalOfRow), (34, Cond.selects RX8 yX8_fittingLeaks yX8_fittingLeaks), (35, Cond.selects RX8 yX8_isAsSeen yX8_isAsSeen), (36, Cond.selects RX8 yX8_dayToAsk yX8_dayToAsk), (37, Cond.selects RX8 yX8_leftAtWorst yX8_leftAtWorst), (38, Cond.selects RX8 yX8_readByLeaks yX8_readByLeaks), (39, Cond.selects RX8 yX8_alikeFrom yX8_alikeFrom), (40, Cond.selects RX8 yX8_heardByLaw yX8_heardByLaw), (41, Cond.selects RX8 yX8_gainOf yX8_gainOf), (42, Cond.selects RX8 yX8_isChanceDay yX8_isChanceDay), (43, Cond.selects RX8 yX8_heardByChance yX8_heardByChance), (44, Cond.selects RX8 yX8_wetByDraws yX8_wetByDraws), (45, Cond.selects RX8 yX8_heardByDraws yX8_heardByDraws), (46, Cond.selects RX9 yX9_four yX9_four), (47, Cond.selects RX9 yX9_clears yX9_clears), (48, Cond.selects RX9 yX9_tells yX9_tells), (49, Cond.selects RX9 yX9_begins yX9_begins), (50, Cond.selects RX9 yX9_next yX9_next), (51, Cond.selects RX9 yX9_isByte yX9_isByte), (52, Cond.selects RX9 yX9_isGood yX9_isGood), (53, Cond.selects RX9 yX9_asks yX9_asks), (54, Cond.selects RX9 yX9_takesWord yX9_takesWord), (55, Cond.selects RX9 yX9_is yX9_is), (56, Cond.selects RX9 yX9_fails yX9_fails), (57, Cond.selects RX9 yX9_number_ yX9_number_), (58, Cond.selects RX9 yX9_number yX9_number), (59, Cond.selects RX9 yX9_lineHere yX9_lineHere), (60, Cond.selects RX9 yX9_isRoom yX9_isRoom), (61, Cond.selects RX9 yX9_hasRead yX9_hasRead), (62, Cond.selects RX9 yX9_spanLine yX9_spanLine), (63, Cond.selects RX9 yX9_closes yX9_closes), (64, Cond.selects RX9 yX9_isOver yX9_isOver), (65, Cond.selects RX9 yX9_copyWire yX9_copyWire), (66, Cond.selects RX9 yX9_isSpan yX9_isSpan), (67, Cond.selects RX9 yX9_spans yX9_spans), (68, Cond.selects RX9 yX9_isWire yX9_isWire), (69, Cond.selects RX9 yX9_stationsAll yX9_stationsAll), (70, Cond.selects RX9 yX9_isStation yX9_isStation), (71, Cond.selects RX9 yX9_lays yX9_lays), (72, Cond.selects RX9 yX9_days yX9_days), (73, Cond.selects RX9 yX9_isDay yX9_isDay), (74, Cond.selects RX9 yX9_leakOf yX9_leakOf), (75, Cond.selects RX9 yX9_cupOf yX9_cupOf), (76, Cond.selects RX9 yX9_laysDay yX9_laysDay), (77, Cond.selects RX9 yX9_isBroken yX9_isBroken), (78, Cond.selects RX9 yX9_isOf yX9_isOf), (79, Cond.selects RX9 yX9_hearsOn yX9_hearsOn), (80, Cond.selects RX9 yX9_isHearing yX9_isHearing), (81, Cond.selects RX9 yX9_partAt yX9_partAt), (82, Cond.selects RX9 yX9_isHeard yX9_isHeard), (83, Cond.selects RX9 yX9_dayBy yX9_dayBy), (84, Cond.selects RX9 yX9_sumNow yX9_sumNow), (85, Cond.selects RX9 yX9_spellOf yX9_spellOf), (86, Cond.selects RX9 yX9_daysOf yX9_daysOf), (87, Cond.selects RX9 yX9_worthOf yX9_worthOf), (88, Cond.selects RX9 yX9_stationBy yX9_stationBy), (89, Cond.selects RX9 yX9_batteryOf yX9_batteryOf), (90, Cond.selects RX9 yX9_isClear yX9_isClear), (91, Cond.selects RX9 yX9_cureOf yX9_cureOf), (92, Cond.selects RX9 yX9_whyNot yX9_whyNot), (93, Cond.selects RX9 yX9_laysSeen yX9_laysSeen), (94, Cond.selects RX9 yX9_isLeak yX9_isLeak), (95, Cond.selects RX9 yX9_isSo yX9_isSo), (96, Cond.selects RX9 yX9_worstAt yX9_worstAt), (97, Cond.selects RX9 yX9_sumBy yX9_sumBy), (98, Cond.selects RX9 yX9_areTwo yX9_areTwo), (99, Cond.selects RX9 yX9_getsBy yX9_getsBy)]
set_option maxRecDepth 100000 in
theorem wl_0_ok : ∀ x ∈ wl_0, lw_tbl[x.1]? = some x.2 := by decide +kernel
set_option maxRecDepth 100000 in
theorem w_0 : Cond.selects RX7 yX7_add yX7_add ∈ lw_ok := List.mem_filter.mpr ⟨List.mem_of_getElem? (wl_0_ok (0, Cond.selects RX7 yX7_add yX7_add) (List.mem_of_getElem? (i := 0) rfl)), rfl⟩
set_option maxRecDepth 100000 in
theorem w_1 : Cond.selects RX6 yX6_step yX6_step ∈ lw_ok := List.mem_filter.mpr ⟨List.mem_of_getElem? (wl_0_ok (1, Cond.selects RX6 yX6_step yX6_step) (List.mem_of_getElem? (i := 1) rfl)), rfl⟩
set_option maxRecDepth 100000 in
theorem w_2 : Cond.selects RX6 yX6_readLine yX6_readLine ∈ lw_ok := List.mem_filter.mpr ⟨List.mem_of_getElem? (wl_0_ok (2, Cond.selects RX6 yX6_readLine yX6_readLine) (List.mem_of_getElem? (i := 2) rfl)), rfl⟩
set_option maxRecDepth 100000 in
theorem w_3 : Cond.selects RX6 yX6_readHead yX6_readHead ∈ lw_ok := List.mem_filter.mpr ⟨List.mem_of_getElem? (wl_0_ok (3, Cond.selects RX6 yX6_readHead yX6_readHead) (List.mem_of_getElem? (i := 3) rfl)), rfl⟩
set_option maxRecDepth 100000 in
theorem w_4 : Cond.selects RX6 yX6_readPair yX6_readPair ∈ lw_ok := List.mem_filter.mpr ⟨List.mem_of_getElem? (wl_0_ok (4, Cond.selects RX6 yX6_readPair yX6_readPair) (List.mem_of_getElem? (i := 4) rfl)), rfl⟩
set_option maxRecDepth 100000 in
theorem w_5 : Cond.selects RX6 yX6_readNumber yX6_readNumber ∈ lw_ok := List.mem_filter.mpr ⟨List.mem_of_getElem? (wl_0_ok (5, Cond.selects RX6 yX6_readNumber yX6_readNumber) (List.mem_of_getElem? (i := 5) rfl)), rfl⟩
set_option maxRecDepth 100000 in
theorem w_6 : Cond.selects RX6 yX6_fail yX6_fail ∈ lw_ok := List.mem_filter.mpr ⟨List.mem_of_getElem? (wl_0_ok (6, Cond.selects RX6 yX6_fail yX6_fail) (List.mem_of_getElem? (i := 6) rfl)), rfl⟩
set_option maxRecDepth 100000 in
theorem w_7 : Cond.selects RX6 yX6_isSign yX6_isSign ∈ lw_ok := List.mem_filter.mpr ⟨List.mem_of_getElem? (wl_0_ok (7, Cond.selects RX6 yX6_isSign yX6_isSign) (List.mem_of_getElem? (i := 7) rfl)), rfl⟩
set_option maxRecDepth 100000 in
theorem w_8 : Cond.selects RX6 yX6_readSpan yX6_readSpan ∈ lw_ok := List.mem_filter.mpr ⟨List.mem_of_getElem? (wl_0_ok (8, Cond.selects RX6 yX6_readSpan yX6_readSpan) (List.mem_of_getElem? (i := 8) rfl)), rfl⟩
set_option maxRecDepth 100000 in
theorem w_9 : Cond.selects RX6 yX6_readWet yX6_readWet ∈ lw_ok := List.mem_filter.mpr ⟨List.mem_of_getElem? (wl_0_ok (9, Cond.selects RX6 yX6_readWet yX6_readWet) (List.mem_of_getElem? (i := 9) rfl)), rfl⟩
set_option maxRecDepth 100000 in
theorem w_10 : Cond.selects RX8 yX8_isPole yX8_isPole ∈ lw_ok := List.mem_filter.mpr ⟨List.mem_of_getElem? (wl_0_ok (10, Cond.selects RX8 yX8_isPole yX8_isPole) (List.mem_of_getElem? (i := 10) rfl)), rfl⟩
set_option maxRecDepth 100000 in
theorem w_11 : Cond.selects RX8 yX8_isTold yX8_isTold ∈ lw_ok := List.mem_filter.mpr ⟨List.mem_of_getElem? (wl_0_ok (11, Cond.selects RX8 yX8_isTold yX8_isTold) (List.mem_of_getElem? (i := 11) rfl)), rfl⟩
set_option maxRecDepth 100000 in
theorem w_12 : Cond.selects RX8 yX8_isDay yX8_isDay ∈ lw_ok := List.mem_filter.mpr ⟨List.mem_of_getElem? (wl_0_ok (12, Cond.selects RX8 yX8_isDay yX8_isDay) (List.mem_of_getElem? (i := 12) rfl)), rfl⟩
set_option maxRecDepth 100000 in
theorem w_13 : Cond.selects RX4 yX4_isWet yX4_isWet ∈ lw_ok := List.mem_filter.mpr ⟨List.mem_of_getElem? (wl_0_ok (13, Cond.selects RX4 yX4_isWet yX4_isWet) (List.mem_of_getElem? (i := 13) rfl)), rfl⟩
set_option maxRecDepth 100000 in
theorem w_14 : Cond.selects RX4 yX4_wetDays yX4_wetDays ∈ lw_ok := List.mem_filter.mpr ⟨List.mem_of_getElem? (wl_0_ok (14, Cond.selects RX4 yX4_wetDays yX4_wetDays) (List.mem_of_getElem? (i := 14) rfl)), rfl⟩
set_option maxRecDepth 100000 in
theorem w_15 : Cond.selects RX8 yX8_settleAsTold yX8_settleAsTold ∈ lw_ok := List.mem_filter.mpr ⟨List.mem_of_getElem? (wl_0_ok (15, Cond.selects RX8 yX8_settleAsTold yX8_settleAsTold) (List.mem_of_getElem? (i := 15) rfl)), rfl⟩
set_option maxRecDepth 100000 in
theorem w_16 : Cond.selects RX8 yX8_partOf yX8_partOf ∈ lw_ok := List.mem_filter.mpr ⟨List.mem_of_getElem? (wl_0_ok (16, Cond.selects RX8 yX8_partOf yX8_partOf) (List.mem_of_getElem? (i := 16) rfl)), rfl⟩
set_option maxRecDepth 100000 in
theorem w_17 : Cond.selects RX8 yX8_wholeVolts yX8_wholeVolts ∈ lw_ok := List.mem_filter.mpr ⟨List.mem_of_getElem? (wl_0_ok (17, Cond.selects RX8 yX8_wholeVolts yX8_wholeVolts) (List.mem_of_getElem? (i := 17) rfl)), rfl⟩
set_option maxRecDepth 100000 in
theorem w_18 : Cond.selects RX8 yX8_heardBits yX8_heardBits ∈ lw_ok := List.mem_filter.mpr ⟨List.mem_of_getElem? (wl_0_ok (18, Cond.selects RX8 yX8_heardBits yX8_heardBits) (List.mem_of_getElem? (i := 18) rfl)), rfl⟩
set_option maxRecDepth 100000 in
theorem w_19 : Cond.selects RX8 yX8_isStation yX8_isStation ∈ lw_ok := List.mem_filter.mpr ⟨List.mem_of_getElem? (wl_0_ok (19, Cond.selects RX8 yX8_isStation yX8_isStation) (List.mem_of_getElem? (i := 19) rfl)), rfl⟩
set_option maxRecDepth 100000 in
theorem w_20 : Cond.selects RX8 yX8_allDays yX8_allDays ∈ lw_ok := List.mem_filter.mpr ⟨List.mem_of_getElem? (wl_0_ok (20, Cond.selects RX8 yX8_allDays yX8_allDays) (List.mem_of_getElem? (i := 20) rfl)), rfl⟩
set_option maxRecDepth 100000 in
theorem w_21 : Cond.selects RX8 yX8_hearingDays yX8_hearingDays ∈ lw_ok := List.mem_filter.mpr ⟨List.mem_of_getElem? (wl_0_ok (21, Cond.selects RX8 yX8_hearingDays yX8_hearingDays) (List.mem_of_getElem? (i := 21) rfl)), rfl⟩
set_option maxRecDepth 100000 in
theorem w_22 : Cond.selects RX8 yX8_daysHeard yX8_daysHeard ∈ lw_ok := List.mem_filter.mpr ⟨List.mem_of_getElem? (wl_0_ok (22, Cond.selects RX8 yX8_daysHeard yX8_daysHeard) (List.mem_of_getElem? (i := 22) rfl)), rfl⟩
set_option maxRecDepth 100000 in
theorem w_23 : Cond.selects RX8 yX8_clearDays yX8_clearDays ∈ lw_ok := List.mem_filter.mpr ⟨List.mem_of_getElem? (wl_0_ok (23, Cond.selects RX8 yX8_clearDays yX8_clearDays) (List.mem_of_getElem? (i := 23) rfl)), rfl⟩
set_option maxRecDepth 100000 in
theorem w_24 : Cond.selects RX8 yX8_listenAsTold yX8_listenAsTold ∈ lw_ok := List.mem_filter.mpr ⟨List.mem_of_getElem? (wl_0_ok (24, Cond.selects RX8 yX8_listenAsTold yX8_listenAsTold) (List.mem_of_getElem? (i := 24) rfl)), rfl⟩
set_option maxRecDepth 100000 in
theorem w_25 : Cond.selects RX8 yX8_heardInAll yX8_heardInAll ∈ lw_ok := List.mem_filter.mpr ⟨List.mem_of_getElem? (wl_0_ok (25, Cond.selects RX8 yX8_heardInAll yX8_heardInAll) (List.mem_of_getElem? (i := 25) rfl)), rfl⟩
set_option maxRecDepth 100000 in
theorem w_26 : Cond.selects RX8 yX8_allPoles yX8_allPoles ∈ lw_ok := List.mem_filter.mpr ⟨List.mem_of_getElem? (wl_0_ok (26, Cond.selects RX8 yX8_allPoles yX8_allPoles) (List.mem_of_getElem? (i := 26) rfl)), rfl⟩
set_option maxRecDepth 100000 in
theorem w_27 : Cond.selects RX8 yX8_worthOf yX8_worthOf ∈ lw_ok := List.mem_filter.mpr ⟨List.mem_of_getElem? (wl_0_ok (27, Cond.selects RX8 yX8_worthOf yX8_worthOf) (List.mem_of_getElem? (i := 27) rfl)), rfl⟩
set_option maxRecDepth 100000 in
theorem w_28 : Cond.selects RX8 yX8_firstByDays yX8_firstByDays ∈ lw_ok := List.mem_filter.mpr ⟨List.mem_of_getElem? (wl_0_ok (28, Cond.selects RX8 yX8_firstByDays yX8_firstByDays) (List.mem_of_getElem? (i := 28) rfl)), rfl⟩
set_option maxRecDepth 100000 in
theorem w_29 : Cond.selects RX8 yX8_heardDaysOf yX8_heardDaysOf ∈ lw_ok := List.mem_filter.mpr ⟨List.mem_of_getElem? (wl_0_ok (29, Cond.selects RX8 yX8_heardDaysOf yX8_heardDaysOf) (List.mem_of_getElem? (i := 29) rfl)), rfl⟩
set_option maxRecDepth 100000 in
theorem w_30 : Cond.selects RX8 yX8_leastBattery yX8_leastBattery ∈ lw_ok := List.mem_filter.mpr ⟨List.mem_of_getElem? (wl_0_ok (30, Cond.selects RX8 yX8_leastBattery yX8_leastBattery) (List.mem_of_getElem? (i := 30) rfl)), rfl⟩
set_option maxRecDepth 100000 in
theorem w_31 : Cond.selects RX8 yX8_leastCure yX8_leastCure ∈ lw_ok := List.mem_filter.mpr ⟨List.mem_of_getElem? (wl_0_ok (31, Cond.selects RX8 yX8_leastCure yX8_leastCure) (List.mem_of_getElem? (i := 31) rfl)), rfl⟩
set_option maxRecDepth 100000 in
theorem w_32 : Cond.selects RX8 yX8_refusalOfSeen yX8_refusalOfSeen ∈ lw_ok := List.mem_filter.mpr ⟨List.mem_of_getElem? (wl_0_ok (32, Cond.selects RX8 yX8_refusalOfSeen yX8_refusalOfSeen) (List.mem_of_getElem? (i := 32) rfl)), rfl⟩
set_option maxRecDepth 100000 in
theorem w_33 : Cond.selects RX8 yX8_refusalOfRow yX8_refusalOfRow ∈ lw_ok := List.mem_filter.mpr ⟨List.mem_of_getElem? (wl_0_ok (33, Cond.selects RX8 yX8_refusalOfRow yX8_refusalOfRow) (List.mem_of_getElem? (i := 33) rfl)), rfl⟩
set_option maxRecDepth 100000 in
theorem w_34 : Cond.selects RX8 yX8_fittingLeaks yX8_fittingLeaks ∈ lw_ok := List.mem_filter.mpr ⟨List.mem_of_getElem? (wl_0_ok (34, Cond.selects RX8 yX8_fittingLeaks yX8_fittingLeaks) (List.mem_of_getElem? (i := 34) rfl)), rfl⟩
set_option maxRecDepth 100000 in
theorem w_35 : Cond.selects RX8 yX8_isAsSeen yX8_isAsSeen ∈ lw_ok := List.mem_filter.mpr ⟨List.mem_of_getElem? (wl_0_ok (35, Cond.selects RX8 yX8_isAsSeen yX8_isAsSeen) (List.mem_of_getElem? (i := 35) rfl)), rfl⟩
set_option maxRecDepth 100000 in
theorem w_36 : Cond.selects RX8 yX8_dayToAsk yX8_dayToAsk ∈ lw_ok := List.mem_filter.mpr ⟨List.mem_of_getElem? (wl_0_ok (36, Cond.selects RX8 yX8_dayToAsk yX8_dayToAsk) (List.mem_of_getElem? (i := 36) rfl)), rfl⟩
set_option maxRecDepth 100000 in
theorem w_37 : Cond.selects RX8 yX8_leftAtWorst yX8_leftAtWorst ∈ lw_ok := List.mem_filter.mpr ⟨List.mem_of_getElem? (wl_0_ok (37, Cond.selects RX8 yX8_leftAtWorst yX8_leftAtWorst) (List.mem_of_getElem? (i := 37) rfl)), rfl⟩
set_option maxRecDepth 100000 in
theorem w_38 : Cond.selects RX8 yX8_readByLeaks yX8_readByLeaks ∈ lw_ok := List.mem_filter.mpr ⟨List.mem_of_getElem? (wl_0_ok (38, Cond.selects RX8 yX8_readByLeaks yX8_readByLeaks) (List.mem_of_getElem? (i := 38) rfl)), rfl⟩
set_option maxRecDepth 100000 in
theorem w_39 : Cond.selects RX8 yX8_alikeFrom yX8_alikeFrom ∈ lw_ok := List.mem_filter.mpr ⟨List.mem_of_getElem? (wl_0_ok (39, Cond.selects RX8 yX8_alikeFrom yX8_alikeFrom) (List.mem_of_getElem? (i := 39) rfl)), rfl⟩
set_option maxRecDepth 100000 in
theorem w_40 : Cond.selects RX8 yX8_heardByLaw yX8_heardByLaw ∈ lw_ok := List.mem_filter.mpr ⟨List.mem_of_getElem? (wl_0_ok (40, Cond.selects RX8 yX8_heardByLaw yX8_heardByLaw) (List.mem_of_getElem? (i := 40) rfl)), rfl⟩
set_option maxRecDepth 100000 in
theorem w_41 : Cond.selects RX8 yX8_gainOf yX8_gainOf ∈ lw_ok := List.mem_filter.mpr ⟨List.mem_of_getElem? (wl_0_ok (41, Cond.selects RX8 yX8_gainOf yX8_gainOf) (List.mem_of_getElem? (i := 41) rfl)), rfl⟩
set_option maxRecDepth 100000 in
theorem w_42 : Cond.selects RX8 yX8_isChanceDay yX8_isChanceDay ∈ lw_ok := List.mem_filter.mpr ⟨List.mem_of_getElem? (wl_0_ok (42, Cond.selects RX8 yX8_isChanceDay yX8_isChanceDay) (List.mem_of_getElem? (i := 42) rfl)), rfl⟩
set_option maxRecDepth 100000 in
theorem w_43 : Cond.selects RX8 yX8_heardByChance yX8_heardByChance ∈ lw_ok := List.mem_filter.mpr ⟨List.mem_of_getElem? (wl_0_ok (43, Cond.selects RX8 yX8_heardByChance yX8_heardByChance) (List.mem_of_getElem? (i := 43) rfl)), rfl⟩
set_option maxRecDepth 100000 in
theorem w_44 : Cond.selects RX8 yX8_wetByDraws yX8_wetByDraws ∈ lw_ok := List.mem_filter.mpr ⟨List.mem_of_getElem? (wl_0_ok (44, Cond.selects RX8 yX8_wetByDraws yX8_wetByDraws) (List.mem_of_getElem? (i := 44) rfl)), rfl⟩
set_option maxRecDepth 100000 in
theorem w_45 : Cond.selects RX8 yX8_heardByDraws yX8_heardByDraws ∈ lw_ok := List.mem_filter.mpr ⟨List.mem_of_getElem? (wl_0_ok (45, Cond.selects RX8 yX8_heardByDraws yX8_heardByDraws) (List.mem_of_getElem? (i := 45) rfl)), rfl⟩
set_option maxRecDepth 100000 in
theorem w_46 : Cond.selects RX9 yX9_four yX9_four ∈ lw_ok := List.mem_filter.mpr ⟨List.mem_of_getElem? (wl_0_ok (46, Cond.selects RX9 yX9_four yX9_four) (List.mem_of_getElem? (i := 46) rfl)), rfl⟩
set_option maxRecDepth 100000 in
theorem w_47 : Cond.selects RX9 yX9_clears yX9_clears ∈ lw_ok := List.mem_filter.mpr ⟨List.mem_of_getElem? (wl_0_ok (47, Cond.selects RX9 yX9_clears yX9_clears) (List.mem_of_getElem? (i := 47) rfl)), rfl⟩
set_option maxRecDepth 100000 in
theorem w_48 : Cond.selects RX9 yX9_tells yX9_tells ∈ lw_ok := List.mem_filter.mpr ⟨List.mem_of_getElem? (wl_0_ok (48, Cond.selects RX9 yX9_tells yX9_tells) (List.mem_of_getElem? (i := 48) rfl)), rfl⟩
set_option maxRecDepth 100000 in
theorem w_49 : Cond.selects RX9 yX9_begins yX9_begins ∈ lw_ok := List.mem_filter.mpr ⟨List.mem_of_getElem? (wl_0_ok (49, Cond.selects RX9 yX9_begins yX9_begins) (List.mem_of_getElem? (i := 49) rfl)), rfl⟩
set_option maxRecDepth 100000 in
theorem w_50 : Cond.selects RX9 yX9_next yX9_next ∈ lw_ok := List.mem_filter.mpr ⟨List.mem_of_getElem? (wl_0_ok (50, Cond.selects RX9 yX9_next yX9_next) (List.mem_of_getElem? (i := 50) rfl)), rfl⟩
set_option maxRecDepth 100000 in
theorem w_51 : Cond.selects RX9 yX9_isByte yX9_isByte ∈ lw_ok := List.mem_filter.mpr ⟨List.mem_of_getElem? (wl_0_ok (51, Cond.selects RX9 yX9_isByte yX9_isByte) (List.mem_of_getElem? (i := 51) rfl)), rfl⟩
set_option maxRecDepth 100000 in
theorem w_52 : Cond.selects RX9 yX9_isGood yX9_isGood ∈ lw_ok := List.mem_filter.mpr ⟨List.mem_of_getElem? (wl_0_ok (52, Cond.selects RX9 yX9_isGood yX9_isGood) (List.mem_of_getElem? (i := 52) rfl)), rfl⟩
set_option maxRecDepth 100000 in
theorem w_53 : Cond.selects RX9 yX9_asks yX9_asks ∈ lw_ok := List.mem_filter.mpr ⟨List.mem_of_getElem? (wl_0_ok (53, Cond.selects RX9 yX9_asks yX9_asks) (List.mem_of_getElem? (i := 53) rfl)), rfl⟩
set_option maxRecDepth 100000 in
theorem w_54 : Cond.selects RX9 yX9_takesWord yX9_takesWord ∈ lw_ok := List.mem_filter.mpr ⟨List.mem_of_getElem? (wl_0_ok (54, Cond.selects RX9 yX9_takesWord yX9_takesWord) (List.mem_of_getElem? (i := 54) rfl)), rfl⟩
set_option maxRecDepth 100000 in
theorem w_55 : Cond.selects RX9 yX9_is yX9_is ∈ lw_ok := List.mem_filter.mpr ⟨List.mem_of_getElem? (wl_0_ok (55, Cond.selects RX9 yX9_is yX9_is) (List.mem_of_getElem? (i := 55) rfl)), rfl⟩
set_option maxRecDepth 100000 in
theorem w_56 : Cond.selects RX9 yX9_fails yX9_fails ∈ lw_ok := List.mem_filter.mpr ⟨List.mem_of_getElem? (wl_0_ok (56, Cond.selects RX9 yX9_fails yX9_fails) (List.mem_of_getElem? (i := 56) rfl)), rfl⟩
set_option maxRecDepth 100000 in
theorem w_57 : Cond.selects RX9 yX9_number_ yX9_number_ ∈ lw_ok := List.mem_filter.mpr ⟨List.mem_of_getElem? (wl_0_ok (57, Cond.selects RX9 yX9_number_ yX9_number_) (List.mem_of_getElem? (i := 57) rfl)), rfl⟩
set_option maxRecDepth 100000 in
theorem w_58 : Cond.selects RX9 yX9_number yX9_number ∈ lw_ok := List.mem_filter.mpr ⟨List.mem_of_getElem? (wl_0_ok (58, Cond.selects RX9 yX9_number yX9_number) (List.mem_of_getElem? (i := 58) rfl)), rfl⟩
set_option maxRecDepth 100000 in
theorem w_59 : Cond.selects RX9 yX9_lineHere yX9_lineHere ∈ lw_ok := List.mem_filter.mpr ⟨List.mem_of_getElem? (wl_0_ok (59, Cond.selects RX9 yX9_lineHere yX9_lineHere) (List.mem_of_getElem? (i := 59) rfl)), rfl⟩
set_option maxRecDepth 100000 in
theorem w_60 : Cond.selects RX9 yX9_isRoom yX9_isRoom ∈ lw_ok := List.mem_filter.mpr ⟨List.mem_of_getElem? (wl_0_ok (60, Cond.selects RX9 yX9_isRoom yX9_isRoom) (List.mem_of_getElem? (i := 60) rfl)), rfl⟩
set_option maxRecDepth 100000 in
theorem w_61 : Cond.selects RX9 yX9_hasRead yX9_hasRead ∈ lw_ok := List.mem_filter.mpr ⟨List.mem_of_getElem? (wl_0_ok (61, Cond.selects RX9 yX9_hasRead yX9_hasRead) (List.mem_of_getElem? (i := 61) rfl)), rfl⟩
set_option maxRecDepth 100000 in
theorem w_62 : Cond.selects RX9 yX9_spanLine yX9_spanLine ∈ lw_ok := List.mem_filter.mpr ⟨List.mem_of_getElem? (wl_0_ok (62, Cond.selects RX9 yX9_spanLine yX9_spanLine) (List.mem_of_getElem? (i := 62) rfl)), rfl⟩
set_option maxRecDepth 100000 in
theorem w_63 : Cond.selects RX9 yX9_closes yX9_closes ∈ lw_ok := List.mem_filter.mpr ⟨List.mem_of_getElem? (wl_0_ok (63, Cond.selects RX9 yX9_closes yX9_closes) (List.mem_of_getElem? (i := 63) rfl)), rfl⟩
set_option maxRecDepth 100000 in
theorem w_64 : Cond.selects RX9 yX9_isOver yX9_isOver ∈ lw_ok := List.mem_filter.mpr ⟨List.mem_of_getElem? (wl_0_ok (64, Cond.selects RX9 yX9_isOver yX9_isOver) (List.mem_of_getElem? (i := 64) rfl)), rfl⟩
set_option maxRecDepth 100000 in
theorem w_65 : Cond.selects RX9 yX9_copyWire yX9_copyWire ∈ lw_ok := List.mem_filter.mpr ⟨List.mem_of_getElem? (wl_0_ok (65, Cond.selects RX9 yX9_copyWire yX9_copyWire) (List.mem_of_getElem? (i := 65) rfl)), rfl⟩
set_option maxRecDepth 100000 in
theorem w_66 : Cond.selects RX9 yX9_isSpan yX9_isSpan ∈ lw_ok := List.mem_filter.mpr ⟨List.mem_of_getElem? (wl_0_ok (66, Cond.selects RX9 yX9_isSpan yX9_isSpan) (List.mem_of_getElem? (i := 66) rfl)), rfl⟩
set_option maxRecDepth 100000 in
theorem w_67 : Cond.selects RX9 yX9_spans yX9_spans ∈ lw_ok := List.mem_filter.mpr ⟨List.mem_of_getElem? (wl_0_ok (67, Cond.selects RX9 yX9_spans yX9_spans) (List.mem_of_getElem? (i := 67) rfl)), rfl⟩
set_option maxRecDepth 100000 in
theorem w_68 : Cond.selects RX9 yX9_isWire yX9_isWire ∈ lw_ok := List.mem_filter.mpr ⟨List.mem_of_getElem? (wl_0_ok (68, Cond.selects RX9 yX9_isWire yX9_isWire) (List.mem_of_getElem? (i := 68) rfl)), rfl⟩
set_option maxRecDepth 100000 in
theorem w_69 : Cond.selects RX9 yX9_stationsAll yX9_stationsAll ∈ lw_ok := List.mem_filter.mpr ⟨List.mem_of_getElem? (wl_0_ok (69, Cond.selects RX9 yX9_stationsAll yX9_stationsAll) (List.mem_of_getElem? (i := 69) rfl)), rfl⟩
set_option maxRecDepth 100000 in
theorem w_70 : Cond.selects RX9 yX9_isStation yX9_isStation ∈ lw_ok := List.mem_filter.mpr ⟨List.mem_of_getElem? (wl_0_ok (70, Cond.selects RX9 yX9_isStation yX9_isStation) (List.mem_of_getElem? (i := 70) rfl)), rfl⟩
set_option maxRecDepth 100000 in
theorem w_71 : Cond.selects RX9 yX9_lays yX9_lays ∈ lw_ok := List.mem_filter.mpr ⟨List.mem_of_getElem? (wl_0_ok (71, Cond.selects RX9 yX9_lays yX9_lays) (List.mem_of_getElem? (i := 71) rfl)), rfl⟩
set_option maxRecDepth 100000 in
theorem w_72 : Cond.selects RX9 yX9_days yX9_days ∈ lw_ok := List.mem_filter.mpr ⟨List.mem_of_getElem? (wl_0_ok (72, Cond.selects RX9 yX9_days yX9_days) (List.mem_of_getElem? (i := 72) rfl)), rfl⟩
set_option maxRecDepth 100000 in
theorem w_73 : Cond.selects RX9 yX9_isDay yX9_isDay ∈ lw_ok := List.mem_filter.mpr ⟨List.mem_of_getElem? (wl_0_ok (73, Cond.selects RX9 yX9_isDay yX9_isDay) (List.mem_of_getElem? (i := 73) rfl)), rfl⟩
set_option maxRecDepth 100000 in
theorem w_74 : Cond.selects RX9 yX9_leakOf yX9_leakOf ∈ lw_ok := List.mem_filter.mpr ⟨List.mem_of_getElem? (wl_0_ok (74, Cond.selects RX9 yX9_leakOf yX9_leakOf) (List.mem_of_getElem? (i := 74) rfl)), rfl⟩
set_option maxRecDepth 100000 in
theorem w_75 : Cond.selects RX9 yX9_cupOf yX9_cupOf ∈ lw_ok := List.mem_filter.mpr ⟨List.mem_of_getElem? (wl_0_ok (75, Cond.selects RX9 yX9_cupOf yX9_cupOf) (List.mem_of_getElem? (i := 75) rfl)), rfl⟩
set_option maxRecDepth 100000 in
theorem w_76 : Cond.selects RX9 yX9_laysDay yX9_laysDay ∈ lw_ok := List.mem_filter.mpr ⟨List.mem_of_getElem? (wl_0_ok (76, Cond.selects RX9 yX9_laysDay yX9_laysDay) (List.mem_of_getElem? (i := 76) rfl)), rfl⟩
set_option maxRecDepth 100000 in
theorem w_77 : Cond.selects RX9 yX9_isBroken yX9_isBroken ∈ lw_ok := List.mem_filter.mpr ⟨List.mem_of_getElem? (wl_0_ok (77, Cond.selects RX9 yX9_isBroken yX9_isBroken) (List.mem_of_getElem? (i := 77) rfl)), rfl⟩
set_option maxRecDepth 100000 in
theorem w_78 : Cond.selects RX9 yX9_isOf yX9_isOf ∈ lw_ok := List.mem_filter.mpr ⟨List.mem_of_getElem? (wl_0_ok (78, Cond.selects RX9 yX9_isOf yX9_isOf) (List.mem_of_getElem? (i := 78) rfl)), rfl⟩
set_option maxRecDepth 100000 in
theorem w_79 : Cond.selects RX9 yX9_hearsOn yX9_hearsOn ∈ lw_ok := List.mem_filter.mpr ⟨List.mem_of_getElem? (wl_0_ok (79, Cond.selects RX9 yX9_hearsOn yX9_hearsOn) (List.mem_of_getElem? (i := 79) rfl)), rfl⟩
set_option maxRecDepth 100000 in
theorem w_80 : Cond.selects RX9 yX9_isHearing yX9_isHearing ∈ lw_ok := List.mem_filter.mpr ⟨List.mem_of_getElem? (wl_0_ok (80, Cond.selects RX9 yX9_isHearing yX9_isHearing) (List.mem_of_getElem? (i := 80) rfl)), rfl⟩
set_option maxRecDepth 100000 in
theorem w_81 : Cond.selects RX9 yX9_partAt yX9_partAt ∈ lw_ok := List.mem_filter.mpr ⟨List.mem_of_getElem? (wl_0_ok (81, Cond.selects RX9 yX9_partAt yX9_partAt) (List.mem_of_getElem? (i := 81) rfl)), rfl⟩
set_option maxRecDepth 100000 in
theorem w_82 : Cond.selects RX9 yX9_isHeard yX9_isHeard ∈ lw_ok := List.mem_filter.mpr ⟨List.mem_of_getElem? (wl_0_ok (82, Cond.selects RX9 yX9_isHeard yX9_isHeard) (List.mem_of_getElem? (i := 82) rfl)), rfl⟩
set_option maxRecDepth 100000 in
theorem w_83 : Cond.selects RX9 yX9_dayBy yX9_dayBy ∈ lw_ok := List.mem_filter.mpr ⟨List.mem_of_getElem? (wl_0_ok (83, Cond.selects RX9 yX9_dayBy yX9_dayBy) (List.mem_of_getElem? (i := 83) rfl)), rfl⟩
set_option maxRecDepth 100000 in
theorem w_84 : Cond.selects RX9 yX9_sumNow yX9_sumNow ∈ lw_ok := List.mem_filter.mpr ⟨List.mem_of_getElem? (wl_0_ok (84, Cond.selects RX9 yX9_sumNow yX9_sumNow) (List.mem_of_getElem? (i := 84) rfl)), rfl⟩
set_option maxRecDepth 100000 in
theorem w_85 : Cond.selects RX9 yX9_spellOf yX9_spellOf ∈ lw_ok := List.mem_filter.mpr ⟨List.mem_of_getElem? (wl_0_ok (85, Cond.selects RX9 yX9_spellOf yX9_spellOf) (List.mem_of_getElem? (i := 85) rfl)), rfl⟩
set_option maxRecDepth 100000 in
theorem w_86 : Cond.selects RX9 yX9_daysOf yX9_daysOf ∈ lw_ok := List.mem_filter.mpr ⟨List.mem_of_getElem? (wl_0_ok (86, Cond.selects RX9 yX9_daysOf yX9_daysOf) (List.mem_of_getElem? (i := 86) rfl)), rfl⟩
set_option maxRecDepth 100000 in
theorem w_87 : Cond.selects RX9 yX9_worthOf yX9_worthOf ∈ lw_ok := List.mem_filter.mpr ⟨List.mem_of_getElem? (wl_0_ok (87, Cond.selects RX9 yX9_worthOf yX9_worthOf) (List.mem_of_getElem? (i := 87) rfl)), rfl⟩
set_option maxRecDepth 100000 in
theorem w_88 : Cond.selects RX9 yX9_stationBy yX9_stationBy ∈ lw_ok := List.mem_filter.mpr ⟨List.mem_of_getElem? (wl_0_ok (88, Cond.selects RX9 yX9_stationBy yX9_stationBy) (List.mem_of_getElem? (i := 88) rfl)), rfl⟩
set_option maxRecDepth 100000 in
theorem w_89 : Cond.selects RX9 yX9_batteryOf yX9_batteryOf ∈ lw_ok := List.mem_filter.mpr ⟨List.mem_of_getElem? (wl_0_ok (89, Cond.selects RX9 yX9_batteryOf yX9_batteryOf) (List.mem_of_getElem? (i := 89) rfl)), rfl⟩
set_option maxRecDepth 100000 in
theorem w_90 : Cond.selects RX9 yX9_isClear yX9_isClear ∈ lw_ok := List.mem_filter.mpr ⟨List.mem_of_getElem? (wl_0_ok (90, Cond.selects RX9 yX9_isClear yX9_isClear) (List.mem_of_getElem? (i := 90) rfl)), rfl⟩
set_option maxRecDepth 100000 in
theorem w_91 : Cond.selects RX9 yX9_cureOf yX9_cureOf ∈ lw_ok := List.mem_filter.mpr ⟨List.mem_of_getElem? (wl_0_ok (91, Cond.selects RX9 yX9_cureOf yX9_cureOf) (List.mem_of_getElem? (i := 91) rfl)), rfl⟩
set_option maxRecDepth 100000 in
theorem w_92 : Cond.selects RX9 yX9_whyNot yX9_whyNot ∈ lw_ok := List.mem_filter.mpr ⟨List.mem_of_getElem? (wl_0_ok (92, Cond.selects RX9 yX9_whyNot yX9_whyNot) (List.mem_of_getElem? (i := 92) rfl)), rfl⟩
set_option maxRecDepth 100000 in
theorem w_93 : Cond.selects RX9 yX9_laysSeen yX9_laysSeen ∈ lw_ok := List.mem_filter.mpr ⟨List.mem_of_getElem? (wl_0_ok (93, Cond.selects RX9 yX9_laysSeen yX9_laysSeen) (List.mem_of_getElem? (i := 93) rfl)), rfl⟩
set_option maxRecDepth 100000 in
theorem w_94 : Cond.selects RX9 yX9_isLeak yX9_isLeak ∈ lw_ok := List.mem_filter.mpr ⟨List.mem_of_getElem? (wl_0_ok (94, Cond.selects RX9 yX9_isLeak yX9_isLeak) (List.mem_of_getElem? (i := 94) rfl)), rfl⟩
set_option maxRecDepth 100000 in
theorem w_95 : Cond.selects RX9 yX9_isSo yX9_isSo ∈ lw_ok := List.mem_filter.mpr ⟨List.mem_of_getElem? (wl_0_ok (95, Cond.selects RX9 yX9_isSo yX9_isSo) (List.mem_of_getElem? (i := 95) rfl)), rfl⟩
set_option maxRecDepth 100000 in
theorem w_96 : Cond.selects RX9 yX9_worstAt yX9_worstAt ∈ lw_ok := List.mem_filter.mpr ⟨List.mem_of_getElem? (wl_0_ok (96, Cond.selects RX9 yX9_worstAt yX9_worstAt) (List.mem_of_getElem? (i := 96) rfl)), rfl⟩
set_option maxRecDepth 100000 in
theorem w_97 : Cond.selects RX9 yX9_sumBy yX9_sumBy ∈ lw_ok := List.mem_filter.mpr ⟨List.mem_of_getElem? (wl_0_ok (97, Cond.selects RX9 yX9_sumBy yX9_sumBy) (List.mem_of_getElem? (i := 97) rfl)), rfl⟩
set_option maxRecDepth 100000 in
theorem w_98 : Cond.selects RX9 yX9_areTwo yX9_areTwo ∈ lw_ok := List.mem_filter.mpr ⟨List.mem_of_getElem? (wl_0_ok (98, Cond.selects RX9 yX9_areTwo yX9_areTwo) (List.mem_of_getElem? (i := 98) rfl)), rfl⟩
set_option maxRecDepth 100000 in
theorem w_99 : Cond.selects RX9 yX9_getsBy yX9_getsBy ∈ lw_ok := List.mem_filter.mpr ⟨List.mem_of_getElem? (wl_0_ok (99, Cond.selects RX9 yX9_getsBy yX9_getsBy) (List.mem_of_getElem? (i := 99) rfl)), rfl⟩
def wl_1 : List (Nat × Cond) := [(100, Cond.selects RX9 yX9_isSoon yX9_isSoon), (101, Cond.selects RX9 yX9_weightOf yX9_weightOf), (102, Cond.selects RX9 yX9_draws yX9_draws), (103, Cond.selects RX9 yX9_does yX9_does), (104, Cond.initialized "LeakyLineLaw"), (105, Cond.initialized RX8), (106, Cond.initialized RX5), (107, Cond.initialized RX7), (108, Cond.initialized RX6), (109, Cond.initialized RX2), (110, Cond.initialized RX3), (111, Cond.initialized RX4), (112, Cond.initialized RX1), (113, Cond.initialized RX0), (114, Cond.initialized RX9), (115, Cond.initialized RJ0), (116, Cond.initialized RJ1), (117, Cond.initialized RJ3), (118, Cond.initialized RJ2), (119, Cond.initialized RJ9), (120, Cond.initialized RJ7), (121, Cond.initialized RJ10), (122, Cond.initialized RJ6), (123, Cond.classLink "LeakyLineLaw" 7 RX8), (124, Cond.instantiable RX8 16), (125, Cond.methodLink "LeakyLineLaw" 9 yX8_init), (126, Cond.instanceMethod yX8_init), (127, Cond.code yX8_init cX8_init 1 none), (128, Cond.methodLink RX8 1 objectInit), (129, Cond.instanceMethod objectInit), (130, Cond.code objectInit ⟨#[0xb1]⟩ 1 none), (131, Cond.classLink RX8 7 RX5), (132, Cond.instantiable RX5 2), (134, Cond.instanceMethod yX5_init), (135, Cond.code yX5_init cX5_init 1 none), (136, Cond.methodLink RX5 3 objectInit), (137, Cond.fieldLink RX5 9 "LeakyLine$Tape" "bytes" "[B"), (138, Cond.fieldLink RX5 15 "LeakyLine$Tape" "length" "I"), (139, Cond.fieldLink RX8 93 "LeakyLine$Tape" "length" "I"), (140, Cond.fieldLink RX7 25 "LeakyLine$Tape" "length" "I"), (146, Cond.arrayClass (.byte)), (147, Cond.classLink RX8 16 RX7), (148, Cond.instantiable RX7 4), (150, Cond.instanceMethod yX7_init), (151, Cond.code yX7_init cX7_init 1 none), (152, Cond.methodLink RX7 3 objectInit), (153, Cond.fieldLink RX7 9 "LeakyLine$Tokens" "kinds" "[I"), (154, Cond.fieldLink RX6 104 "LeakyLine$Tokens" "kinds" "[I"), (155, Cond.fieldLink RX7 15 "LeakyLine$Tokens" "places" "[I"), (156, Cond.fieldLink RX6 107 "LeakyLine$Tokens" "places" "[I"), (157, Cond.fieldLink RX7 18 "LeakyLine$Tokens" "values" "[I"), (158, Cond.fieldLink RX6 110 "LeakyLine$Tokens" "values" "[I"), (159, Cond.fieldLink RX7 21 "LeakyLine$Tokens" "size" "I"), (160, Cond.fieldLink RX6 34 "LeakyLine$Tokens" "size" "I"), (170, Cond.arrayClass (.int)), (171, Cond.classLink RX8 23 RX6), (172, Cond.instantiable RX6 5), (174, Cond.instanceMethod yX6_init), (175, Cond.code yX6_init cX6_init 1 none), (176, Cond.methodLink RX6 3 objectInit), (177, Cond.fieldLink RX6 9 "LeakyLine$Teller" "fault" "I"), (178, Cond.fieldLink RX8 108 "LeakyLine$Teller" "fault" "I"), (179, Cond.fieldLink RX6 15 "LeakyLine$Teller" "place" "I"), (180, Cond.fieldLink RX8 111 "LeakyLine$Teller" "place" "I"), (181, Cond.fieldLink RX6 18 "LeakyLine$Teller" "next" "I"), (182, Cond.fieldLink RX6 23 "LeakyLine$Teller" "kind" "I"), (183, Cond.fieldLink RX6 26 "LeakyLine$Teller" "value" "I"), (195, Cond.classLink RX8 30 RX2), (196, Cond.instantiable RX2 17), (198, Cond.instanceMethod yX2_init), (199, Cond.code yX2_init cX2_init 1 none), (200, Cond.methodLink RX2 3 objectInit), (201, Cond.fieldLink RX2 9 "LeakyLine$Line" "lines" "I"), (202, Cond.fieldLink RX6 45 "LeakyLine$Line" "lines" "I"), (203, Cond.fieldLink RX8 118 "LeakyLine$Line" "lines" "I"), (204, Cond.fieldLink RX2 15 "LeakyLine$Line" "days" "I"), (205, Cond.fieldLink RX6 65 "LeakyLine$Line" "days" "I"), (206, Cond.fieldLink RX8 242 "LeakyLine$Line" "days" "I"), (207, Cond.fieldLink RX2 18 "LeakyLine$Line" "law" "I"), (208, Cond.fieldLink RX4 31 "LeakyLine$Line" "law" "I"), (209, Cond.fieldLink RX6 68 "LeakyLine$Line" "law" "I"), (210, Cond.fieldLink RX8 354 "LeakyLine$Line" "law" "I"), (211, Cond.fieldLink RX2 21 "LeakyLine$Line" "odds" "I"), (212, Cond.fieldLink RX6 71 "LeakyLine$Line" "odds" "I"), (213, Cond.fieldLink RX8 355 "LeakyLine$Line" "odds" "I"), (214, Cond.fieldLink RX2 24 "LeakyLine$Line" "volts" "I"), (215, Cond.fieldLink RX6 74 "LeakyLine$Line" "volts" "I"), (216, Cond.fieldLink RX8 175 "LeakyLine$Line" "volts" "I"), (217, Cond.fieldLink RX2 27 "LeakyLine$Line" "spans" "I"), (218, Cond.fieldLink RX1 36 "LeakyLine$Line" "spans" "I"), (219, Cond.fieldLink RX4 67 "LeakyLine$Line" "spans" "I"), (220, Cond.fieldLink RX6 81 "LeakyLine$Line" "spans" "I"), (221, Cond.fieldLink RX8 210 "LeakyLine$Line" "spans" "I"), (222, Cond.fieldLink RX2 30 "LeakyLine$Line" "wetLines" "I"), (223, Cond.fieldLink RX6 98 "LeakyLine$Line" "wetLines" "I"), (224, Cond.fieldLink RX8 358 "LeakyLine$Line" "wetLines" "I"), (225, Cond.fieldLink RX2 33 "LeakyLine$Line" "wet" "I"), (226, Cond.fieldLink RX4 34 "LeakyLine$Line" "wet" "I"), (227, Cond.fieldLink RX6 101 "LeakyLine$Line" "wet" "I"), (228, Cond.fieldLink RX8 142 "LeakyLine$Line" "wet" "I")]
set_option maxRecDepth 100000 in
theorem wl_1_ok : ∀ x ∈ wl_1, lw_tbl[x.1]? = some x.2 := by decide +kernel
set_option maxRecDepth 100000 in
theorem w_100 : Cond.selects RX9 yX9_isSoon yX9_isSoon ∈ lw_ok := List.mem_filter.mpr ⟨List.mem_of_getElem? (wl_1_ok (100, Cond.selects RX9 yX9_isSoon yX9_isSoon) (List.mem_of_getElem? (i := 0) rfl)), rfl⟩
set_option maxRecDepth 100000 in
theorem w_101 : Cond.selects RX9 yX9_weightOf yX9_weightOf ∈ lw_ok := List.mem_filter.mpr ⟨List.mem_of_getElem? (wl_1_ok (101, Cond.selects RX9 yX9_weightOf yX9_weightOf) (List.mem_of_getElem? (i := 1) rfl)), rfl⟩
set_option maxRecDepth 100000 in
theorem w_102 : Cond.selects RX9 yX9_draws yX9_draws ∈ lw_ok := List.mem_filter.mpr ⟨List.mem_of_getElem? (wl_1_ok (102, Cond.selects RX9 yX9_draws yX9_draws) (List.mem_of_getElem? (i := 2) rfl)), rfl⟩
set_option maxRecDepth 100000 in
theorem w_103 : Cond.selects RX9 yX9_does yX9_does ∈ lw_ok := List.mem_filter.mpr ⟨List.mem_of_getElem? (wl_1_ok (103, Cond.selects RX9 yX9_does yX9_does) (List.mem_of_getElem? (i := 3) rfl)), rfl⟩
set_option maxRecDepth 100000 in
theorem w_104 : Cond.initialized "LeakyLineLaw" ∈ lw_ok := List.mem_filter.mpr ⟨List.mem_of_getElem? (wl_1_ok (104, Cond.initialized "LeakyLineLaw") (List.mem_of_getElem? (i := 4) rfl)), rfl⟩
set_option maxRecDepth 100000 in
theorem w_105 : Cond.initialized RX8 ∈ lw_ok := List.mem_filter.mpr ⟨List.mem_of_getElem? (wl_1_ok (105, Cond.initialized RX8) (List.mem_of_getElem? (i := 5) rfl)), rfl⟩
set_option maxRecDepth 100000 in
theorem w_106 : Cond.initialized RX5 ∈ lw_ok := List.mem_filter.mpr ⟨List.mem_of_getElem? (wl_1_ok (106, Cond.initialized RX5) (List.mem_of_getElem? (i := 6) rfl)), rfl⟩
set_option maxRecDepth 100000 in
theorem w_107 : Cond.initialized RX7 ∈ lw_ok := List.mem_filter.mpr ⟨List.mem_of_getElem? (wl_1_ok (107, Cond.initialized RX7) (List.mem_of_getElem? (i := 7) rfl)), rfl⟩
set_option maxRecDepth 100000 in
theorem w_108 : Cond.initialized RX6 ∈ lw_ok := List.mem_filter.mpr ⟨List.mem_of_getElem? (wl_1_ok (108, Cond.initialized RX6) (List.mem_of_getElem? (i := 8) rfl)), rfl⟩
set_option maxRecDepth 100000 in
theorem w_109 : Cond.initialized RX2 ∈ lw_ok := List.mem_filter.mpr ⟨List.mem_of_getElem? (wl_1_ok (109, Cond.initialized RX2) (List.mem_of_getElem? (i := 9) rfl)), rfl⟩
set_option maxRecDepth 100000 in
theorem w_110 : Cond.initialized RX3 ∈ lw_ok := List.mem_filter.mpr ⟨List.mem_of_getElem? (wl_1_ok (110, Cond.initialized RX3) (List.mem_of_getElem? (i := 10) rfl)), rfl⟩
set_option maxRecDepth 100000 in
theorem w_111 : Cond.initialized RX4 ∈ lw_ok := List.mem_filter.mpr ⟨List.mem_of_getElem? (wl_1_ok (111, Cond.initialized RX4) (List.mem_of_getElem? (i := 11) rfl)), rfl⟩
set_option maxRecDepth 100000 in
theorem w_112 : Cond.initialized RX1 ∈ lw_ok := List.mem_filter.mpr ⟨List.mem_of_getElem? (wl_1_ok (112, Cond.initialized RX1) (List.mem_of_getElem? (i := 12) rfl)), rfl⟩
set_option maxRecDepth 100000 in
theorem w_113 : Cond.initialized RX0 ∈ lw_ok := List.mem_filter.mpr ⟨List.mem_of_getElem? (wl_1_ok (113, Cond.initialized RX0) (List.mem_of_getElem? (i := 13) rfl)), rfl⟩
set_option maxRecDepth 100000 in
theorem w_114 : Cond.initialized RX9 ∈ lw_ok := List.mem_filter.mpr ⟨List.mem_of_getElem? (wl_1_ok (114, Cond.initialized RX9) (List.mem_of_getElem? (i := 14) rfl)), rfl⟩
set_option maxRecDepth 100000 in
theorem w_115 : Cond.initialized RJ0 ∈ lw_ok := List.mem_filter.mpr ⟨List.mem_of_getElem? (wl_1_ok (115, Cond.initialized RJ0) (List.mem_of_getElem? (i := 15) rfl)), rfl⟩
set_option maxRecDepth 100000 in
theorem w_116 : Cond.initialized RJ1 ∈ lw_ok := List.mem_filter.mpr ⟨List.mem_of_getElem? (wl_1_ok (116, Cond.initialized RJ1) (List.mem_of_getElem? (i := 16) rfl)), rfl⟩
set_option maxRecDepth 100000 in
theorem w_117 : Cond.initialized RJ3 ∈ lw_ok := List.mem_filter.mpr ⟨List.mem_of_getElem? (wl_1_ok (117, Cond.initialized RJ3) (List.mem_of_getElem? (i := 17) rfl)), rfl⟩
set_option maxRecDepth 100000 in
theorem w_118 : Cond.initialized RJ2 ∈ lw_ok := List.mem_filter.mpr ⟨List.mem_of_getElem? (wl_1_ok (118, Cond.initialized RJ2) (List.mem_of_getElem? (i := 18) rfl)), rfl⟩
set_option maxRecDepth 100000 in
theorem w_119 : Cond.initialized RJ9 ∈ lw_ok := List.mem_filter.mpr ⟨List.mem_of_getElem? (wl_1_ok (119, Cond.initialized RJ9) (List.mem_of_getElem? (i := 19) rfl)), rfl⟩
set_option maxRecDepth 100000 in
theorem w_120 : Cond.initialized RJ7 ∈ lw_ok := List.mem_filter.mpr ⟨List.mem_of_getElem? (wl_1_ok (120, Cond.initialized RJ7) (List.mem_of_getElem? (i := 20) rfl)), rfl⟩
set_option maxRecDepth 100000 in
theorem w_121 : Cond.initialized RJ10 ∈ lw_ok := List.mem_filter.mpr ⟨List.mem_of_getElem? (wl_1_ok (121, Cond.initialized RJ10) (List.mem_of_getElem? (i := 21) rfl)), rfl⟩
set_option maxRecDepth 100000 in
theorem w_122 : Cond.initialized RJ6 ∈ lw_ok := List.mem_filter.mpr ⟨List.mem_of_getElem? (wl_1_ok (122, Cond.initialized RJ6) (List.mem_of_getElem? (i := 22) rfl)), rfl⟩
set_option maxRecDepth 100000 in
theorem w_123 : Cond.classLink "LeakyLineLaw" 7 RX8 ∈ lw_ok := List.mem_filter.mpr ⟨List.mem_of_getElem? (wl_1_ok (123, Cond.classLink "LeakyLineLaw" 7 RX8) (List.mem_of_getElem? (i := 23) rfl)), rfl⟩
set_option maxRecDepth 100000 in
theorem w_124 : Cond.instantiable RX8 16 ∈ lw_ok := List.mem_filter.mpr ⟨List.mem_of_getElem? (wl_1_ok (124, Cond.instantiable RX8 16) (List.mem_of_getElem? (i := 24) rfl)), rfl⟩
set_option maxRecDepth 100000 in
theorem w_125 : Cond.methodLink "LeakyLineLaw" 9 yX8_init ∈ lw_ok := List.mem_filter.mpr ⟨List.mem_of_getElem? (wl_1_ok (125, Cond.methodLink "LeakyLineLaw" 9 yX8_init) (List.mem_of_getElem? (i := 25) rfl)), rfl⟩
set_option maxRecDepth 100000 in
theorem w_126 : Cond.instanceMethod yX8_init ∈ lw_ok := List.mem_filter.mpr ⟨List.mem_of_getElem? (wl_1_ok (126, Cond.instanceMethod yX8_init) (List.mem_of_getElem? (i := 26) rfl)), rfl⟩
set_option maxRecDepth 100000 in
theorem w_127 : Cond.code yX8_init cX8_init 1 none ∈ lw_ok := List.mem_filter.mpr ⟨List.mem_of_getElem? (wl_1_ok (127, Cond.code yX8_init cX8_init 1 none) (List.mem_of_getElem? (i := 27) rfl)), rfl⟩
set_option maxRecDepth 100000 in
theorem w_128 : Cond.methodLink RX8 1 objectInit ∈ lw_ok := List.mem_filter.mpr ⟨List.mem_of_getElem? (wl_1_ok (128, Cond.methodLink RX8 1 objectInit) (List.mem_of_getElem? (i := 28) rfl)), rfl⟩
set_option maxRecDepth 100000 in
theorem w_129 : Cond.instanceMethod objectInit ∈ lw_ok := List.mem_filter.mpr ⟨List.mem_of_getElem? (wl_1_ok (129, Cond.instanceMethod objectInit) (List.mem_of_getElem? (i := 29) rfl)), rfl⟩
set_option maxRecDepth 100000 in
theorem w_130 : Cond.code objectInit ⟨#[0xb1]⟩ 1 none ∈ lw_ok := List.mem_filter.mpr ⟨List.mem_of_getElem? (wl_1_ok (130, Cond.code objectInit ⟨#[0xb1]⟩ 1 none) (List.mem_of_getElem? (i := 30) rfl)), rfl⟩
set_option maxRecDepth 100000 in
theorem w_131 : Cond.classLink RX8 7 RX5 ∈ lw_ok := List.mem_filter.mpr ⟨List.mem_of_getElem? (wl_1_ok (131, Cond.classLink RX8 7 RX5) (List.mem_of_getElem? (i := 31) rfl)), rfl⟩
set_option maxRecDepth 100000 in
theorem w_132 : Cond.instantiable RX5 2 ∈ lw_ok := List.mem_filter.mpr ⟨List.mem_of_getElem? (wl_1_ok (132, Cond.instantiable RX5 2) (List.mem_of_getElem? (i := 32) rfl)), rfl⟩
set_option maxRecDepth 100000 in
theorem w_134 : Cond.instanceMethod yX5_init ∈ lw_ok := List.mem_filter.mpr ⟨List.mem_of_getElem? (wl_1_ok (134, Cond.instanceMethod yX5_init) (List.mem_of_getElem? (i := 33) rfl)), rfl⟩
set_option maxRecDepth 100000 in
theorem w_135 : Cond.code yX5_init cX5_init 1 none ∈ lw_ok := List.mem_filter.mpr ⟨List.mem_of_getElem? (wl_1_ok (135, Cond.code yX5_init cX5_init 1 none) (List.mem_of_getElem? (i := 34) rfl)), rfl⟩
set_option maxRecDepth 100000 in
theorem w_136 : Cond.methodLink RX5 3 objectInit ∈ lw_ok := List.mem_filter.mpr ⟨List.mem_of_getElem? (wl_1_ok (136, Cond.methodLink RX5 3 objectInit) (List.mem_of_getElem? (i := 35) rfl)), rfl⟩
set_option maxRecDepth 100000 in
theorem w_137 : Cond.fieldLink RX5 9 "LeakyLine$Tape" "bytes" "[B" ∈ lw_ok := List.mem_filter.mpr ⟨List.mem_of_getElem? (wl_1_ok (137, Cond.fieldLink RX5 9 "LeakyLine$Tape" "bytes" "[B") (List.mem_of_getElem? (i := 36) rfl)), rfl⟩
set_option maxRecDepth 100000 in
theorem w_138 : Cond.fieldLink RX5 15 "LeakyLine$Tape" "length" "I" ∈ lw_ok := List.mem_filter.mpr ⟨List.mem_of_getElem? (wl_1_ok (138, Cond.fieldLink RX5 15 "LeakyLine$Tape" "length" "I") (List.mem_of_getElem? (i := 37) rfl)), rfl⟩
set_option maxRecDepth 100000 in
theorem w_139 : Cond.fieldLink RX8 93 "LeakyLine$Tape" "length" "I" ∈ lw_ok := List.mem_filter.mpr ⟨List.mem_of_getElem? (wl_1_ok (139, Cond.fieldLink RX8 93 "LeakyLine$Tape" "length" "I") (List.mem_of_getElem? (i := 38) rfl)), rfl⟩
set_option maxRecDepth 100000 in
theorem w_140 : Cond.fieldLink RX7 25 "LeakyLine$Tape" "length" "I" ∈ lw_ok := List.mem_filter.mpr ⟨List.mem_of_getElem? (wl_1_ok (140, Cond.fieldLink RX7 25 "LeakyLine$Tape" "length" "I") (List.mem_of_getElem? (i := 39) rfl)), rfl⟩
set_option maxRecDepth 100000 in
theorem w_146 : Cond.arrayClass (.byte) ∈ lw_ok := List.mem_filter.mpr ⟨List.mem_of_getElem? (wl_1_ok (146, Cond.arrayClass (.byte)) (List.mem_of_getElem? (i := 40) rfl)), rfl⟩
set_option maxRecDepth 100000 in
theorem w_147 : Cond.classLink RX8 16 RX7 ∈ lw_ok := List.mem_filter.mpr ⟨List.mem_of_getElem? (wl_1_ok (147, Cond.classLink RX8 16 RX7) (List.mem_of_getElem? (i := 41) rfl)), rfl⟩
set_option maxRecDepth 100000 in
theorem w_148 : Cond.instantiable RX7 4 ∈ lw_ok := List.mem_filter.mpr ⟨List.mem_of_getElem? (wl_1_ok (148, Cond.instantiable RX7 4) (List.mem_of_getElem? (i := 42) rfl)), rfl⟩
set_option maxRecDepth 100000 in
theorem w_150 : Cond.instanceMethod yX7_init ∈ lw_ok := List.mem_filter.mpr ⟨List.mem_of_getElem? (wl_1_ok (150, Cond.instanceMethod yX7_init) (List.mem_of_getElem? (i := 43) rfl)), rfl⟩
set_option maxRecDepth 100000 in
theorem w_151 : Cond.code yX7_init cX7_init 1 none ∈ lw_ok := List.mem_filter.mpr ⟨List.mem_of_getElem? (wl_1_ok (151, Cond.code yX7_init cX7_init 1 none) (List.mem_of_getElem? (i := 44) rfl)), rfl⟩
set_option maxRecDepth 100000 in
theorem w_152 : Cond.methodLink RX7 3 objectInit ∈ lw_ok := List.mem_filter.mpr ⟨List.mem_of_getElem? (wl_1_ok (152, Cond.methodLink RX7 3 objectInit) (List.mem_of_getElem? (i := 45) rfl)), rfl⟩
set_option maxRecDepth 100000 in
theorem w_153 : Cond.fieldLink RX7 9 "LeakyLine$Tokens" "kinds" "[I" ∈ lw_ok := List.mem_filter.mpr ⟨List.mem_of_getElem? (wl_1_ok (153, Cond.fieldLink RX7 9 "LeakyLine$Tokens" "kinds" "[I") (List.mem_of_getElem? (i := 46) rfl)), rfl⟩
set_option maxRecDepth 100000 in
theorem w_154 : Cond.fieldLink RX6 104 "LeakyLine$Tokens" "kinds" "[I" ∈ lw_ok := List.mem_filter.mpr ⟨List.mem_of_getElem? (wl_1_ok (154, Cond.fieldLink RX6 104 "LeakyLine$Tokens" "kinds" "[I") (List.mem_of_getElem? (i := 47) rfl)), rfl⟩
set_option maxRecDepth 100000 in
theorem w_155 : Cond.fieldLink RX7 15 "LeakyLine$Tokens" "places" "[I" ∈ lw_ok := List.mem_filter.mpr ⟨List.mem_of_getElem? (wl_1_ok (155, Cond.fieldLink RX7 15 "LeakyLine$Tokens" "places" "[I") (List.mem_of_getElem? (i := 48) rfl)), rfl⟩
set_option maxRecDepth 100000 in
theorem w_156 : Cond.fieldLink RX6 107 "LeakyLine$Tokens" "places" "[I" ∈ lw_ok := List.mem_filter.mpr ⟨List.mem_of_getElem? (wl_1_ok (156, Cond.fieldLink RX6 107 "LeakyLine$Tokens" "places" "[I") (List.mem_of_getElem? (i := 49) rfl)), rfl⟩
set_option maxRecDepth 100000 in
theorem w_157 : Cond.fieldLink RX7 18 "LeakyLine$Tokens" "values" "[I" ∈ lw_ok := List.mem_filter.mpr ⟨List.mem_of_getElem? (wl_1_ok (157, Cond.fieldLink RX7 18 "LeakyLine$Tokens" "values" "[I") (List.mem_of_getElem? (i := 50) rfl)), rfl⟩
set_option maxRecDepth 100000 in
theorem w_158 : Cond.fieldLink RX6 110 "LeakyLine$Tokens" "values" "[I" ∈ lw_ok := List.mem_filter.mpr ⟨List.mem_of_getElem? (wl_1_ok (158, Cond.fieldLink RX6 110 "LeakyLine$Tokens" "values" "[I") (List.mem_of_getElem? (i := 51) rfl)), rfl⟩
set_option maxRecDepth 100000 in
theorem w_159 : Cond.fieldLink RX7 21 "LeakyLine$Tokens" "size" "I" ∈ lw_ok := List.mem_filter.mpr ⟨List.mem_of_getElem? (wl_1_ok (159, Cond.fieldLink RX7 21 "LeakyLine$Tokens" "size" "I") (List.mem_of_getElem? (i := 52) rfl)), rfl⟩
set_option maxRecDepth 100000 in
theorem w_160 : Cond.fieldLink RX6 34 "LeakyLine$Tokens" "size" "I" ∈ lw_ok := List.mem_filter.mpr ⟨List.mem_of_getElem? (wl_1_ok (160, Cond.fieldLink RX6 34 "LeakyLine$Tokens" "size" "I") (List.mem_of_getElem? (i := 53) rfl)), rfl⟩
set_option maxRecDepth 100000 in
theorem w_170 : Cond.arrayClass (.int) ∈ lw_ok := List.mem_filter.mpr ⟨List.mem_of_getElem? (wl_1_ok (170, Cond.arrayClass (.int)) (List.mem_of_getElem? (i := 54) rfl)), rfl⟩
set_option maxRecDepth 100000 in
theorem w_171 : Cond.classLink RX8 23 RX6 ∈ lw_ok := List.mem_filter.mpr ⟨List.mem_of_getElem? (wl_1_ok (171, Cond.classLink RX8 23 RX6) (List.mem_of_getElem? (i := 55) rfl)), rfl⟩
set_option maxRecDepth 100000 in
theorem w_172 : Cond.instantiable RX6 5 ∈ lw_ok := List.mem_filter.mpr ⟨List.mem_of_getElem? (wl_1_ok (172, Cond.instantiable RX6 5) (List.mem_of_getElem? (i := 56) rfl)), rfl⟩
set_option maxRecDepth 100000 in
theorem w_174 : Cond.instanceMethod yX6_init ∈ lw_ok := List.mem_filter.mpr ⟨List.mem_of_getElem? (wl_1_ok (174, Cond.instanceMethod yX6_init) (List.mem_of_getElem? (i := 57) rfl)), rfl⟩
set_option maxRecDepth 100000 in
theorem w_175 : Cond.code yX6_init cX6_init 1 none ∈ lw_ok := List.mem_filter.mpr ⟨List.mem_of_getElem? (wl_1_ok (175, Cond.code yX6_init cX6_init 1 none) (List.mem_of_getElem? (i := 58) rfl)), rfl⟩
set_option maxRecDepth 100000 in
theorem w_176 : Cond.methodLink RX6 3 objectInit ∈ lw_ok := List.mem_filter.mpr ⟨List.mem_of_getElem? (wl_1_ok (176, Cond.methodLink RX6 3 objectInit) (List.mem_of_getElem? (i := 59) rfl)), rfl⟩
set_option maxRecDepth 100000 in
theorem w_177 : Cond.fieldLink RX6 9 "LeakyLine$Teller" "fault" "I" ∈ lw_ok := List.mem_filter.mpr ⟨List.mem_of_getElem? (wl_1_ok (177, Cond.fieldLink RX6 9 "LeakyLine$Teller" "fault" "I") (List.mem_of_getElem? (i := 60) rfl)), rfl⟩
set_option maxRecDepth 100000 in
theorem w_178 : Cond.fieldLink RX8 108 "LeakyLine$Teller" "fault" "I" ∈ lw_ok := List.mem_filter.mpr ⟨List.mem_of_getElem? (wl_1_ok (178, Cond.fieldLink RX8 108 "LeakyLine$Teller" "fault" "I") (List.mem_of_getElem? (i := 61) rfl)), rfl⟩
set_option maxRecDepth 100000 in
theorem w_179 : Cond.fieldLink RX6 15 "LeakyLine$Teller" "place" "I" ∈ lw_ok := List.mem_filter.mpr ⟨List.mem_of_getElem? (wl_1_ok (179, Cond.fieldLink RX6 15 "LeakyLine$Teller" "place" "I") (List.mem_of_getElem? (i := 62) rfl)), rfl⟩
set_option maxRecDepth 100000 in
theorem w_180 : Cond.fieldLink RX8 111 "LeakyLine$Teller" "place" "I" ∈ lw_ok := List.mem_filter.mpr ⟨List.mem_of_getElem? (wl_1_ok (180, Cond.fieldLink RX8 111 "LeakyLine$Teller" "place" "I") (List.mem_of_getElem? (i := 63) rfl)), rfl⟩
set_option maxRecDepth 100000 in
theorem w_181 : Cond.fieldLink RX6 18 "LeakyLine$Teller" "next" "I" ∈ lw_ok := List.mem_filter.mpr ⟨List.mem_of_getElem? (wl_1_ok (181, Cond.fieldLink RX6 18 "LeakyLine$Teller" "next" "I") (List.mem_of_getElem? (i := 64) rfl)), rfl⟩
set_option maxRecDepth 100000 in
theorem w_182 : Cond.fieldLink RX6 23 "LeakyLine$Teller" "kind" "I" ∈ lw_ok := List.mem_filter.mpr ⟨List.mem_of_getElem? (wl_1_ok (182, Cond.fieldLink RX6 23 "LeakyLine$Teller" "kind" "I") (List.mem_of_getElem? (i := 65) rfl)), rfl⟩
set_option maxRecDepth 100000 in
theorem w_183 : Cond.fieldLink RX6 26 "LeakyLine$Teller" "value" "I" ∈ lw_ok := List.mem_filter.mpr ⟨List.mem_of_getElem? (wl_1_ok (183, Cond.fieldLink RX6 26 "LeakyLine$Teller" "value" "I") (List.mem_of_getElem? (i := 66) rfl)), rfl⟩
set_option maxRecDepth 100000 in
theorem w_195 : Cond.classLink RX8 30 RX2 ∈ lw_ok := List.mem_filter.mpr ⟨List.mem_of_getElem? (wl_1_ok (195, Cond.classLink RX8 30 RX2) (List.mem_of_getElem? (i := 67) rfl)), rfl⟩
set_option maxRecDepth 100000 in
theorem w_196 : Cond.instantiable RX2 17 ∈ lw_ok := List.mem_filter.mpr ⟨List.mem_of_getElem? (wl_1_ok (196, Cond.instantiable RX2 17) (List.mem_of_getElem? (i := 68) rfl)), rfl⟩
set_option maxRecDepth 100000 in
theorem w_198 : Cond.instanceMethod yX2_init ∈ lw_ok := List.mem_filter.mpr ⟨List.mem_of_getElem? (wl_1_ok (198, Cond.instanceMethod yX2_init) (List.mem_of_getElem? (i := 69) rfl)), rfl⟩
set_option maxRecDepth 100000 in
theorem w_199 : Cond.code yX2_init cX2_init 1 none ∈ lw_ok := List.mem_filter.mpr ⟨List.mem_of_getElem? (wl_1_ok (199, Cond.code yX2_init cX2_init 1 none) (List.mem_of_getElem? (i := 70) rfl)), rfl⟩
set_option maxRecDepth 100000 in
theorem w_200 : Cond.methodLink RX2 3 objectInit ∈ lw_ok := List.mem_filter.mpr ⟨List.mem_of_getElem? (wl_1_ok (200, Cond.methodLink RX2 3 objectInit) (List.mem_of_getElem? (i := 71) rfl)), rfl⟩
set_option maxRecDepth 100000 in
theorem w_201 : Cond.fieldLink RX2 9 "LeakyLine$Line" "lines" "I" ∈ lw_ok := List.mem_filter.mpr ⟨List.mem_of_getElem? (wl_1_ok (201, Cond.fieldLink RX2 9 "LeakyLine$Line" "lines" "I") (List.mem_of_getElem? (i := 72) rfl)), rfl⟩
set_option maxRecDepth 100000 in
theorem w_202 : Cond.fieldLink RX6 45 "LeakyLine$Line" "lines" "I" ∈ lw_ok := List.mem_filter.mpr ⟨List.mem_of_getElem? (wl_1_ok (202, Cond.fieldLink RX6 45 "LeakyLine$Line" "lines" "I") (List.mem_of_getElem? (i := 73) rfl)), rfl⟩
set_option maxRecDepth 100000 in
theorem w_203 : Cond.fieldLink RX8 118 "LeakyLine$Line" "lines" "I" ∈ lw_ok := List.mem_filter.mpr ⟨List.mem_of_getElem? (wl_1_ok (203, Cond.fieldLink RX8 118 "LeakyLine$Line" "lines" "I") (List.mem_of_getElem? (i := 74) rfl)), rfl⟩
set_option maxRecDepth 100000 in
theorem w_204 : Cond.fieldLink RX2 15 "LeakyLine$Line" "days" "I" ∈ lw_ok := List.mem_filter.mpr ⟨List.mem_of_getElem? (wl_1_ok (204, Cond.fieldLink RX2 15 "LeakyLine$Line" "days" "I") (List.mem_of_getElem? (i := 75) rfl)), rfl⟩
set_option maxRecDepth 100000 in
theorem w_205 : Cond.fieldLink RX6 65 "LeakyLine$Line" "days" "I" ∈ lw_ok := List.mem_filter.mpr ⟨List.mem_of_getElem? (wl_1_ok (205, Cond.fieldLink RX6 65 "LeakyLine$Line" "days" "I") (List.mem_of_getElem? (i := 76) rfl)), rfl⟩
set_option maxRecDepth 100000 in
theorem w_206 : Cond.fieldLink RX8 242 "LeakyLine$Line" "days" "I" ∈ lw_ok := List.mem_filter.mpr ⟨List.mem_of_getElem? (wl_1_ok (206, Cond.fieldLink RX8 242 "LeakyLine$Line" "days" "I") (List.mem_of_getElem? (i := 77) rfl)), rfl⟩
set_option maxRecDepth 100000 in
theorem w_207 : Cond.fieldLink RX2 18 "LeakyLine$Line" "law" "I" ∈ lw_ok := List.mem_filter.mpr ⟨List.mem_of_getElem? (wl_1_ok (207, Cond.fieldLink RX2 18 "LeakyLine$Line" "law" "I") (List.mem_of_getElem? (i := 78) rfl)), rfl⟩
set_option maxRecDepth 100000 in
theorem w_208 : Cond.fieldLink RX4 31 "LeakyLine$Line" "law" "I" ∈ lw_ok := List.mem_filter.mpr ⟨List.mem_of_getElem? (wl_1_ok (208, Cond.fieldLink RX4 31 "LeakyLine$Line" "law" "I") (List.mem_of_getElem? (i := 79) rfl)), rfl⟩
set_option maxRecDepth 100000 in
theorem w_209 : Cond.fieldLink RX6 68 "LeakyLine$Line" "law" "I" ∈ lw_ok := List.mem_filter.mpr ⟨List.mem_of_getElem? (wl_1_ok (209, Cond.fieldLink RX6 68 "LeakyLine$Line" "law" "I") (List.mem_of_getElem? (i := 80) rfl)), rfl⟩
set_option maxRecDepth 100000 in
theorem w_210 : Cond.fieldLink RX8 354 "LeakyLine$Line" "law" "I" ∈ lw_ok := List.mem_filter.mpr ⟨List.mem_of_getElem? (wl_1_ok (210, Cond.fieldLink RX8 354 "LeakyLine$Line" "law" "I") (List.mem_of_getElem? (i := 81) rfl)), rfl⟩
set_option maxRecDepth 100000 in
theorem w_211 : Cond.fieldLink RX2 21 "LeakyLine$Line" "odds" "I" ∈ lw_ok := List.mem_filter.mpr ⟨List.mem_of_getElem? (wl_1_ok (211, Cond.fieldLink RX2 21 "LeakyLine$Line" "odds" "I") (List.mem_of_getElem? (i := 82) rfl)), rfl⟩
set_option maxRecDepth 100000 in
theorem w_212 : Cond.fieldLink RX6 71 "LeakyLine$Line" "odds" "I" ∈ lw_ok := List.mem_filter.mpr ⟨List.mem_of_getElem? (wl_1_ok (212, Cond.fieldLink RX6 71 "LeakyLine$Line" "odds" "I") (List.mem_of_getElem? (i := 83) rfl)), rfl⟩
set_option maxRecDepth 100000 in
theorem w_213 : Cond.fieldLink RX8 355 "LeakyLine$Line" "odds" "I" ∈ lw_ok := List.mem_filter.mpr ⟨List.mem_of_getElem? (wl_1_ok (213, Cond.fieldLink RX8 355 "LeakyLine$Line" "odds" "I") (List.mem_of_getElem? (i := 84) rfl)), rfl⟩
set_option maxRecDepth 100000 in
theorem w_214 : Cond.fieldLink RX2 24 "LeakyLine$Line" "volts" "I" ∈ lw_ok := List.mem_filter.mpr ⟨List.mem_of_getElem? (wl_1_ok (214, Cond.fieldLink RX2 24 "LeakyLine$Line" "volts" "I") (List.mem_of_getElem? (i := 85) rfl)), rfl⟩
set_option maxRecDepth 100000 in
theorem w_215 : Cond.fieldLink RX6 74 "LeakyLine$Line" "volts" "I" ∈ lw_ok := List.mem_filter.mpr ⟨List.mem_of_getElem? (wl_1_ok (215, Cond.fieldLink RX6 74 "LeakyLine$Line" "volts" "I") (List.mem_of_getElem? (i := 86) rfl)), rfl⟩
set_option maxRecDepth 100000 in
theorem w_216 : Cond.fieldLink RX8 175 "LeakyLine$Line" "volts" "I" ∈ lw_ok := List.mem_filter.mpr ⟨List.mem_of_getElem? (wl_1_ok (216, Cond.fieldLink RX8 175 "LeakyLine$Line" "volts" "I") (List.mem_of_getElem? (i := 87) rfl)), rfl⟩
set_option maxRecDepth 100000 in
theorem w_217 : Cond.fieldLink RX2 27 "LeakyLine$Line" "spans" "I" ∈ lw_ok := List.mem_filter.mpr ⟨List.mem_of_getElem? (wl_1_ok (217, Cond.fieldLink RX2 27 "LeakyLine$Line" "spans" "I") (List.mem_of_getElem? (i := 88) rfl)), rfl⟩
set_option maxRecDepth 100000 in
theorem w_218 : Cond.fieldLink RX1 36 "LeakyLine$Line" "spans" "I" ∈ lw_ok := List.mem_filter.mpr ⟨List.mem_of_getElem? (wl_1_ok (218, Cond.fieldLink RX1 36 "LeakyLine$Line" "spans" "I") (List.mem_of_getElem? (i := 89) rfl)), rfl⟩
set_option maxRecDepth 100000 in
theorem w_219 : Cond.fieldLink RX4 67 "LeakyLine$Line" "spans" "I" ∈ lw_ok := List.mem_filter.mpr ⟨List.mem_of_getElem? (wl_1_ok (219, Cond.fieldLink RX4 67 "LeakyLine$Line" "spans" "I") (List.mem_of_getElem? (i := 90) rfl)), rfl⟩
set_option maxRecDepth 100000 in
theorem w_220 : Cond.fieldLink RX6 81 "LeakyLine$Line" "spans" "I" ∈ lw_ok := List.mem_filter.mpr ⟨List.mem_of_getElem? (wl_1_ok (220, Cond.fieldLink RX6 81 "LeakyLine$Line" "spans" "I") (List.mem_of_getElem? (i := 91) rfl)), rfl⟩
set_option maxRecDepth 100000 in
theorem w_221 : Cond.fieldLink RX8 210 "LeakyLine$Line" "spans" "I" ∈ lw_ok := List.mem_filter.mpr ⟨List.mem_of_getElem? (wl_1_ok (221, Cond.fieldLink RX8 210 "LeakyLine$Line" "spans" "I") (List.mem_of_getElem? (i := 92) rfl)), rfl⟩
set_option maxRecDepth 100000 in
theorem w_222 : Cond.fieldLink RX2 30 "LeakyLine$Line" "wetLines" "I" ∈ lw_ok := List.mem_filter.mpr ⟨List.mem_of_getElem? (wl_1_ok (222, Cond.fieldLink RX2 30 "LeakyLine$Line" "wetLines" "I") (List.mem_of_getElem? (i := 93) rfl)), rfl⟩
set_option maxRecDepth 100000 in
theorem w_223 : Cond.fieldLink RX6 98 "LeakyLine$Line" "wetLines" "I" ∈ lw_ok := List.mem_filter.mpr ⟨List.mem_of_getElem? (wl_1_ok (223, Cond.fieldLink RX6 98 "LeakyLine$Line" "wetLines" "I") (List.mem_of_getElem? (i := 94) rfl)), rfl⟩
set_option maxRecDepth 100000 in
theorem w_224 : Cond.fieldLink RX8 358 "LeakyLine$Line" "wetLines" "I" ∈ lw_ok := List.mem_filter.mpr ⟨List.mem_of_getElem? (wl_1_ok (224, Cond.fieldLink RX8 358 "LeakyLine$Line" "wetLines" "I") (List.mem_of_getElem? (i := 95) rfl)), rfl⟩
set_option maxRecDepth 100000 in
theorem w_225 : Cond.fieldLink RX2 33 "LeakyLine$Line" "wet" "I" ∈ lw_ok := List.mem_filter.mpr ⟨List.mem_of_getElem? (wl_1_ok (225, Cond.fieldLink RX2 33 "LeakyLine$Line" "wet" "I") (List.mem_of_getElem? (i := 96) rfl)), rfl⟩
set_option maxRecDepth 100000 in
theorem w_226 : Cond.fieldLink RX4 34 "LeakyLine$Line" "wet" "I" ∈ lw_ok := List.mem_filter.mpr ⟨List.mem_of_getElem? (wl_1_ok (226, Cond.fieldLink RX4 34 "LeakyLine$Line" "wet" "I") (List.mem_of_getElem? (i := 97) rfl)), rfl⟩
set_option maxRecDepth 100000 in
theorem w_227 : Cond.fieldLink RX6 101 "LeakyLine$Line" "wet" "I" ∈ lw_ok := List.mem_filter.mpr ⟨List.mem_of_getElem? (wl_1_ok (227, Cond.fieldLink RX6 101 "LeakyLine$Line" "wet" "I") (List.mem_of_getElem? (i := 98) rfl)), rfl⟩
set_option maxRecDepth 100000 in
theorem w_228 : Cond.fieldLink RX8 142 "LeakyLine$Line" "wet" "I" ∈ lw_ok := List.mem_filter.mpr ⟨List.mem_of_getElem? (wl_1_ok (228, Cond.fieldLink RX8 142 "LeakyLine$Line" "wet" "I") (List.mem_of_getElem? (i := 99) rfl)), rfl⟩
def wl_2 : List (Nat × Cond) := [(229, Cond.fieldLink RX2 36 "LeakyLine$Line" "acts" "I"), (230, Cond.fieldLink RX8 335 "LeakyLine$Line" "acts" "I"), (231, Cond.fieldLink RX2 39 "LeakyLine$Line" "ohms" "[I"), (232, Cond.fieldLink RX4 35 "LeakyLine$Line" "ohms" "[I"), (233, Cond.fieldLink RX6 88 "LeakyLine$Line" "ohms" "[I"), (234, Cond.fieldLink RX8 125 "LeakyLine$Line" "ohms" "[I"), (235, Cond.fieldLink RX2 43 "LeakyLine$Line" "leaks" "[I"), (236, Cond.fieldLink RX4 42 "LeakyLine$Line" "leaks" "[I"), (237, Cond.fieldLink RX6 92 "LeakyLine$Line" "leaks" "[I"), (238, Cond.fieldLink RX8 128 "LeakyLine$Line" "leaks" "[I"), (239, Cond.fieldLink RX2 46 "LeakyLine$Line" "needs" "[I"), (240, Cond.fieldLink RX6 95 "LeakyLine$Line" "needs" "[I"), (241, Cond.fieldLink RX8 131 "LeakyLine$Line" "needs" "[I"), (242, Cond.fieldLink RX2 49 "LeakyLine$Line" "kinds" "[I"), (243, Cond.fieldLink RX2 52 "LeakyLine$Line" "places" "[I"), (244, Cond.fieldLink RX2 55 "LeakyLine$Line" "actDays" "[I"), (245, Cond.fieldLink RX2 58 "LeakyLine$Line" "cupDays" "[I"), (246, Cond.fieldLink RX2 61 "LeakyLine$Line" "snapDays" "[I"), (283, Cond.classLink RX8 44 RX3), (284, Cond.instantiable RX3 3), (286, Cond.instanceMethod yX3_init), (287, Cond.code yX3_init cX3_init 1 none), (288, Cond.methodLink RX3 3 objectInit), (289, Cond.fieldLink RX3 9 "LeakyLine$Slots" "numbers" "[J"), (290, Cond.fieldLink RX3 15 "LeakyLine$Slots" "widths" "[I"), (291, Cond.fieldLink RX8 380 "LeakyLine$Slots" "widths" "[I"), (292, Cond.fieldLink RX3 19 "LeakyLine$Slots" "sizes" "[I"), (293, Cond.fieldLink RX8 373 "LeakyLine$Slots" "sizes" "[I"), (301, Cond.arrayClass (.long)), (302, Cond.classLink RX8 51 RX4), (303, Cond.instantiable RX4 6), (305, Cond.instanceMethod yX4_init), (306, Cond.code yX4_init cX4_init 1 none), (307, Cond.methodLink RX4 3 objectInit), (308, Cond.fieldLink RX4 9 "LeakyLine$Supposed" "law" "I"), (309, Cond.fieldLink RX8 308 "LeakyLine$Supposed" "law" "I"), (310, Cond.fieldLink RX4 15 "LeakyLine$Supposed" "wet" "I"), (311, Cond.fieldLink RX8 248 "LeakyLine$Supposed" "wet" "I"), (312, Cond.fieldLink RX4 18 "LeakyLine$Supposed" "cupSet" "I"), (313, Cond.fieldLink RX8 409 "LeakyLine$Supposed" "cupSet" "I"), (314, Cond.fieldLink RX4 21 "LeakyLine$Supposed" "broken" "I"), (315, Cond.fieldLink RX8 263 "LeakyLine$Supposed" "broken" "I"), (316, Cond.fieldLink RX4 24 "LeakyLine$Supposed" "ohms" "[I"), (317, Cond.fieldLink RX1 51 "LeakyLine$Supposed" "ohms" "[I"), (318, Cond.fieldLink RX8 288 "LeakyLine$Supposed" "ohms" "[I"), (319, Cond.fieldLink RX4 28 "LeakyLine$Supposed" "leaks" "[I"), (320, Cond.fieldLink RX8 426 "LeakyLine$Supposed" "leaks" "[I"), (334, Cond.classLink RX8 58 RX1), (335, Cond.instantiable RX1 5), (337, Cond.instanceMethod yX1_init), (338, Cond.code yX1_init cX1_init 1 none), (339, Cond.methodLink RX1 3 objectInit), (340, Cond.fieldLink RX1 9 "LeakyLine$Ladder" "lead" "I"), (341, Cond.fieldLink RX8 200 "LeakyLine$Ladder" "lead" "I"), (342, Cond.fieldLink RX1 15 "LeakyLine$Ladder" "source" "J"), (343, Cond.fieldLink RX8 182 "LeakyLine$Ladder" "source" "J"), (344, Cond.fieldLink RX1 19 "LeakyLine$Ladder" "leaks" "[I"), (345, Cond.fieldLink RX8 199 "LeakyLine$Ladder" "leaks" "[I"), (346, Cond.fieldLink RX1 23 "LeakyLine$Ladder" "volts" "[J"), (347, Cond.fieldLink RX8 190 "LeakyLine$Ladder" "volts" "[J"), (348, Cond.fieldLink RX1 27 "LeakyLine$Ladder" "amps" "[J"), (360, Cond.classLink RX8 65 RX0), (361, Cond.instantiable RX0 2), (363, Cond.instanceMethod yX0_init), (364, Cond.code yX0_init cX0_init 1 none), (365, Cond.methodLink RX0 3 objectInit), (366, Cond.fieldLink RX0 9 "LeakyLine$Fraction" "above" "J"), (367, Cond.fieldLink RX8 420 "LeakyLine$Fraction" "above" "J"), (368, Cond.fieldLink RX0 15 "LeakyLine$Fraction" "below" "J"), (369, Cond.fieldLink RX8 423 "LeakyLine$Fraction" "below" "J"), (375, Cond.fieldLink RX8 10 "LeakyLine" "tape" "LLeakyLine$Tape;"), (376, Cond.fieldLink RX8 19 "LeakyLine" "tokens" "LLeakyLine$Tokens;"), (377, Cond.fieldLink RX8 26 "LeakyLine" "teller" "LLeakyLine$Teller;"), (378, Cond.fieldLink RX8 33 "LeakyLine" "line" "LLeakyLine$Line;"), (379, Cond.fieldLink RX8 37 "LeakyLine" "drafted" "LLeakyLine$Line;"), (380, Cond.fieldLink RX8 40 "LeakyLine" "images" "[LLeakyLine$Line;"), (381, Cond.fieldLink RX8 47 "LeakyLine" "slots" "LLeakyLine$Slots;"), (382, Cond.fieldLink RX8 54 "LeakyLine" "supposed" "LLeakyLine$Supposed;"), (383, Cond.fieldLink RX8 61 "LeakyLine" "ladder" "LLeakyLine$Ladder;"), (384, Cond.fieldLink RX8 68 "LeakyLine" "fraction" "LLeakyLine$Fraction;"), (385, Cond.fieldLink RX8 72 "LeakyLine" "heardOn" "[I"), (386, Cond.fieldLink RX8 76 "LeakyLine" "worths" "[I"), (387, Cond.fieldLink RX8 79 "LeakyLine" "readsAbove" "[J"), (388, Cond.fieldLink RX8 83 "LeakyLine" "readsBelow" "[J"), (389, Cond.fieldLink RX8 86 "LeakyLine" "faultKind" "I"), (390, Cond.fieldLink RX8 90 "LeakyLine" "faultPlace" "I"), (424, Cond.methodLink "LeakyLineLaw" 13 yX8_feed), (425, Cond.instanceMethod yX8_feed), (426, Cond.selects RX8 yX8_feed yX8_feed), (427, Cond.code yX8_feed cX8_feed 6 (some .int)), (428, Cond.methodLink RX8 96 yX5_append), (429, Cond.instanceMethod yX5_append), (430, Cond.selects RX5 yX5_append yX5_append), (431, Cond.code yX5_append cX5_append 3 none), (432, Cond.methodLink "LeakyLineLaw" 18 yX8_end), (433, Cond.instanceMethod yX8_end), (434, Cond.selects RX8 yX8_end yX8_end), (435, Cond.code yX8_end cX8_end 2 (some .int)), (436, Cond.methodLink "LeakyLineLaw" 23 yX8_wire), (437, Cond.instanceMethod yX8_wire)]
set_option maxRecDepth 100000 in
theorem wl_2_ok : ∀ x ∈ wl_2, lw_tbl[x.1]? = some x.2 := by decide +kernel
set_option maxRecDepth 100000 in
theorem w_229 : Cond.fieldLink RX2 36 "LeakyLine$Line" "acts" "I" ∈ lw_ok := List.mem_filter.mpr ⟨List.mem_of_getElem? (wl_2_ok (229, Cond.fieldLink RX2 36 "LeakyLine$Line" "acts" "I") (List.mem_of_getElem? (i := 0) rfl)), rfl⟩
set_option maxRecDepth 100000 in
theorem w_230 : Cond.fieldLink RX8 335 "LeakyLine$Line" "acts" "I" ∈ lw_ok := List.mem_filter.mpr ⟨List.mem_of_getElem? (wl_2_ok (230, Cond.fieldLink RX8 335 "LeakyLine$Line" "acts" "I") (List.mem_of_getElem? (i := 1) rfl)), rfl⟩
set_option maxRecDepth 100000 in
theorem w_231 : Cond.fieldLink RX2 39 "LeakyLine$Line" "ohms" "[I" ∈ lw_ok := List.mem_filter.mpr ⟨List.mem_of_getElem? (wl_2_ok (231, Cond.fieldLink RX2 39 "LeakyLine$Line" "ohms" "[I") (List.mem_of_getElem? (i := 2) rfl)), rfl⟩
set_option maxRecDepth 100000 in
theorem w_232 : Cond.fieldLink RX4 35 "LeakyLine$Line" "ohms" "[I" ∈ lw_ok := List.mem_filter.mpr ⟨List.mem_of_getElem? (wl_2_ok (232, Cond.fieldLink RX4 35 "LeakyLine$Line" "ohms" "[I") (List.mem_of_getElem? (i := 3) rfl)), rfl⟩
set_option maxRecDepth 100000 in
theorem w_233 : Cond.fieldLink RX6 88 "LeakyLine$Line" "ohms" "[I" ∈ lw_ok := List.mem_filter.mpr ⟨List.mem_of_getElem? (wl_2_ok (233, Cond.fieldLink RX6 88 "LeakyLine$Line" "ohms" "[I") (List.mem_of_getElem? (i := 4) rfl)), rfl⟩
set_option maxRecDepth 100000 in
theorem w_234 : Cond.fieldLink RX8 125 "LeakyLine$Line" "ohms" "[I" ∈ lw_ok := List.mem_filter.mpr ⟨List.mem_of_getElem? (wl_2_ok (234, Cond.fieldLink RX8 125 "LeakyLine$Line" "ohms" "[I") (List.mem_of_getElem? (i := 5) rfl)), rfl⟩
set_option maxRecDepth 100000 in
theorem w_235 : Cond.fieldLink RX2 43 "LeakyLine$Line" "leaks" "[I" ∈ lw_ok := List.mem_filter.mpr ⟨List.mem_of_getElem? (wl_2_ok (235, Cond.fieldLink RX2 43 "LeakyLine$Line" "leaks" "[I") (List.mem_of_getElem? (i := 6) rfl)), rfl⟩
set_option maxRecDepth 100000 in
theorem w_236 : Cond.fieldLink RX4 42 "LeakyLine$Line" "leaks" "[I" ∈ lw_ok := List.mem_filter.mpr ⟨List.mem_of_getElem? (wl_2_ok (236, Cond.fieldLink RX4 42 "LeakyLine$Line" "leaks" "[I") (List.mem_of_getElem? (i := 7) rfl)), rfl⟩
set_option maxRecDepth 100000 in
theorem w_237 : Cond.fieldLink RX6 92 "LeakyLine$Line" "leaks" "[I" ∈ lw_ok := List.mem_filter.mpr ⟨List.mem_of_getElem? (wl_2_ok (237, Cond.fieldLink RX6 92 "LeakyLine$Line" "leaks" "[I") (List.mem_of_getElem? (i := 8) rfl)), rfl⟩
set_option maxRecDepth 100000 in
theorem w_238 : Cond.fieldLink RX8 128 "LeakyLine$Line" "leaks" "[I" ∈ lw_ok := List.mem_filter.mpr ⟨List.mem_of_getElem? (wl_2_ok (238, Cond.fieldLink RX8 128 "LeakyLine$Line" "leaks" "[I") (List.mem_of_getElem? (i := 9) rfl)), rfl⟩
set_option maxRecDepth 100000 in
theorem w_239 : Cond.fieldLink RX2 46 "LeakyLine$Line" "needs" "[I" ∈ lw_ok := List.mem_filter.mpr ⟨List.mem_of_getElem? (wl_2_ok (239, Cond.fieldLink RX2 46 "LeakyLine$Line" "needs" "[I") (List.mem_of_getElem? (i := 10) rfl)), rfl⟩
set_option maxRecDepth 100000 in
theorem w_240 : Cond.fieldLink RX6 95 "LeakyLine$Line" "needs" "[I" ∈ lw_ok := List.mem_filter.mpr ⟨List.mem_of_getElem? (wl_2_ok (240, Cond.fieldLink RX6 95 "LeakyLine$Line" "needs" "[I") (List.mem_of_getElem? (i := 11) rfl)), rfl⟩
set_option maxRecDepth 100000 in
theorem w_241 : Cond.fieldLink RX8 131 "LeakyLine$Line" "needs" "[I" ∈ lw_ok := List.mem_filter.mpr ⟨List.mem_of_getElem? (wl_2_ok (241, Cond.fieldLink RX8 131 "LeakyLine$Line" "needs" "[I") (List.mem_of_getElem? (i := 12) rfl)), rfl⟩
set_option maxRecDepth 100000 in
theorem w_242 : Cond.fieldLink RX2 49 "LeakyLine$Line" "kinds" "[I" ∈ lw_ok := List.mem_filter.mpr ⟨List.mem_of_getElem? (wl_2_ok (242, Cond.fieldLink RX2 49 "LeakyLine$Line" "kinds" "[I") (List.mem_of_getElem? (i := 13) rfl)), rfl⟩
set_option maxRecDepth 100000 in
theorem w_243 : Cond.fieldLink RX2 52 "LeakyLine$Line" "places" "[I" ∈ lw_ok := List.mem_filter.mpr ⟨List.mem_of_getElem? (wl_2_ok (243, Cond.fieldLink RX2 52 "LeakyLine$Line" "places" "[I") (List.mem_of_getElem? (i := 14) rfl)), rfl⟩
set_option maxRecDepth 100000 in
theorem w_244 : Cond.fieldLink RX2 55 "LeakyLine$Line" "actDays" "[I" ∈ lw_ok := List.mem_filter.mpr ⟨List.mem_of_getElem? (wl_2_ok (244, Cond.fieldLink RX2 55 "LeakyLine$Line" "actDays" "[I") (List.mem_of_getElem? (i := 15) rfl)), rfl⟩
set_option maxRecDepth 100000 in
theorem w_245 : Cond.fieldLink RX2 58 "LeakyLine$Line" "cupDays" "[I" ∈ lw_ok := List.mem_filter.mpr ⟨List.mem_of_getElem? (wl_2_ok (245, Cond.fieldLink RX2 58 "LeakyLine$Line" "cupDays" "[I") (List.mem_of_getElem? (i := 16) rfl)), rfl⟩
set_option maxRecDepth 100000 in
theorem w_246 : Cond.fieldLink RX2 61 "LeakyLine$Line" "snapDays" "[I" ∈ lw_ok := List.mem_filter.mpr ⟨List.mem_of_getElem? (wl_2_ok (246, Cond.fieldLink RX2 61 "LeakyLine$Line" "snapDays" "[I") (List.mem_of_getElem? (i := 17) rfl)), rfl⟩
set_option maxRecDepth 100000 in
theorem w_283 : Cond.classLink RX8 44 RX3 ∈ lw_ok := List.mem_filter.mpr ⟨List.mem_of_getElem? (wl_2_ok (283, Cond.classLink RX8 44 RX3) (List.mem_of_getElem? (i := 18) rfl)), rfl⟩
set_option maxRecDepth 100000 in
theorem w_284 : Cond.instantiable RX3 3 ∈ lw_ok := List.mem_filter.mpr ⟨List.mem_of_getElem? (wl_2_ok (284, Cond.instantiable RX3 3) (List.mem_of_getElem? (i := 19) rfl)), rfl⟩
set_option maxRecDepth 100000 in
theorem w_286 : Cond.instanceMethod yX3_init ∈ lw_ok := List.mem_filter.mpr ⟨List.mem_of_getElem? (wl_2_ok (286, Cond.instanceMethod yX3_init) (List.mem_of_getElem? (i := 20) rfl)), rfl⟩
set_option maxRecDepth 100000 in
theorem w_287 : Cond.code yX3_init cX3_init 1 none ∈ lw_ok := List.mem_filter.mpr ⟨List.mem_of_getElem? (wl_2_ok (287, Cond.code yX3_init cX3_init 1 none) (List.mem_of_getElem? (i := 21) rfl)), rfl⟩
set_option maxRecDepth 100000 in
theorem w_288 : Cond.methodLink RX3 3 objectInit ∈ lw_ok := List.mem_filter.mpr ⟨List.mem_of_getElem? (wl_2_ok (288, Cond.methodLink RX3 3 objectInit) (List.mem_of_getElem? (i := 22) rfl)), rfl⟩
set_option maxRecDepth 100000 in
theorem w_289 : Cond.fieldLink RX3 9 "LeakyLine$Slots" "numbers" "[J" ∈ lw_ok := List.mem_filter.mpr ⟨List.mem_of_getElem? (wl_2_ok (289, Cond.fieldLink RX3 9 "LeakyLine$Slots" "numbers" "[J") (List.mem_of_getElem? (i := 23) rfl)), rfl⟩
set_option maxRecDepth 100000 in
theorem w_290 : Cond.fieldLink RX3 15 "LeakyLine$Slots" "widths" "[I" ∈ lw_ok := List.mem_filter.mpr ⟨List.mem_of_getElem? (wl_2_ok (290, Cond.fieldLink RX3 15 "LeakyLine$Slots" "widths" "[I") (List.mem_of_getElem? (i := 24) rfl)), rfl⟩
set_option maxRecDepth 100000 in
theorem w_291 : Cond.fieldLink RX8 380 "LeakyLine$Slots" "widths" "[I" ∈ lw_ok := List.mem_filter.mpr ⟨List.mem_of_getElem? (wl_2_ok (291, Cond.fieldLink RX8 380 "LeakyLine$Slots" "widths" "[I") (List.mem_of_getElem? (i := 25) rfl)), rfl⟩
set_option maxRecDepth 100000 in
theorem w_292 : Cond.fieldLink RX3 19 "LeakyLine$Slots" "sizes" "[I" ∈ lw_ok := List.mem_filter.mpr ⟨List.mem_of_getElem? (wl_2_ok (292, Cond.fieldLink RX3 19 "LeakyLine$Slots" "sizes" "[I") (List.mem_of_getElem? (i := 26) rfl)), rfl⟩
set_option maxRecDepth 100000 in
theorem w_293 : Cond.fieldLink RX8 373 "LeakyLine$Slots" "sizes" "[I" ∈ lw_ok := List.mem_filter.mpr ⟨List.mem_of_getElem? (wl_2_ok (293, Cond.fieldLink RX8 373 "LeakyLine$Slots" "sizes" "[I") (List.mem_of_getElem? (i := 27) rfl)), rfl⟩
set_option maxRecDepth 100000 in
theorem w_301 : Cond.arrayClass (.long) ∈ lw_ok := List.mem_filter.mpr ⟨List.mem_of_getElem? (wl_2_ok (301, Cond.arrayClass (.long)) (List.mem_of_getElem? (i := 28) rfl)), rfl⟩
set_option maxRecDepth 100000 in
theorem w_302 : Cond.classLink RX8 51 RX4 ∈ lw_ok := List.mem_filter.mpr ⟨List.mem_of_getElem? (wl_2_ok (302, Cond.classLink RX8 51 RX4) (List.mem_of_getElem? (i := 29) rfl)), rfl⟩
set_option maxRecDepth 100000 in
theorem w_303 : Cond.instantiable RX4 6 ∈ lw_ok := List.mem_filter.mpr ⟨List.mem_of_getElem? (wl_2_ok (303, Cond.instantiable RX4 6) (List.mem_of_getElem? (i := 30) rfl)), rfl⟩
set_option maxRecDepth 100000 in
theorem w_305 : Cond.instanceMethod yX4_init ∈ lw_ok := List.mem_filter.mpr ⟨List.mem_of_getElem? (wl_2_ok (305, Cond.instanceMethod yX4_init) (List.mem_of_getElem? (i := 31) rfl)), rfl⟩
set_option maxRecDepth 100000 in
theorem w_306 : Cond.code yX4_init cX4_init 1 none ∈ lw_ok := List.mem_filter.mpr ⟨List.mem_of_getElem? (wl_2_ok (306, Cond.code yX4_init cX4_init 1 none) (List.mem_of_getElem? (i := 32) rfl)), rfl⟩
set_option maxRecDepth 100000 in
theorem w_307 : Cond.methodLink RX4 3 objectInit ∈ lw_ok := List.mem_filter.mpr ⟨List.mem_of_getElem? (wl_2_ok (307, Cond.methodLink RX4 3 objectInit) (List.mem_of_getElem? (i := 33) rfl)), rfl⟩
set_option maxRecDepth 100000 in
theorem w_308 : Cond.fieldLink RX4 9 "LeakyLine$Supposed" "law" "I" ∈ lw_ok := List.mem_filter.mpr ⟨List.mem_of_getElem? (wl_2_ok (308, Cond.fieldLink RX4 9 "LeakyLine$Supposed" "law" "I") (List.mem_of_getElem? (i := 34) rfl)), rfl⟩
set_option maxRecDepth 100000 in
theorem w_309 : Cond.fieldLink RX8 308 "LeakyLine$Supposed" "law" "I" ∈ lw_ok := List.mem_filter.mpr ⟨List.mem_of_getElem? (wl_2_ok (309, Cond.fieldLink RX8 308 "LeakyLine$Supposed" "law" "I") (List.mem_of_getElem? (i := 35) rfl)), rfl⟩
set_option maxRecDepth 100000 in
theorem w_310 : Cond.fieldLink RX4 15 "LeakyLine$Supposed" "wet" "I" ∈ lw_ok := List.mem_filter.mpr ⟨List.mem_of_getElem? (wl_2_ok (310, Cond.fieldLink RX4 15 "LeakyLine$Supposed" "wet" "I") (List.mem_of_getElem? (i := 36) rfl)), rfl⟩
set_option maxRecDepth 100000 in
theorem w_311 : Cond.fieldLink RX8 248 "LeakyLine$Supposed" "wet" "I" ∈ lw_ok := List.mem_filter.mpr ⟨List.mem_of_getElem? (wl_2_ok (311, Cond.fieldLink RX8 248 "LeakyLine$Supposed" "wet" "I") (List.mem_of_getElem? (i := 37) rfl)), rfl⟩
set_option maxRecDepth 100000 in
theorem w_312 : Cond.fieldLink RX4 18 "LeakyLine$Supposed" "cupSet" "I" ∈ lw_ok := List.mem_filter.mpr ⟨List.mem_of_getElem? (wl_2_ok (312, Cond.fieldLink RX4 18 "LeakyLine$Supposed" "cupSet" "I") (List.mem_of_getElem? (i := 38) rfl)), rfl⟩
set_option maxRecDepth 100000 in
theorem w_313 : Cond.fieldLink RX8 409 "LeakyLine$Supposed" "cupSet" "I" ∈ lw_ok := List.mem_filter.mpr ⟨List.mem_of_getElem? (wl_2_ok (313, Cond.fieldLink RX8 409 "LeakyLine$Supposed" "cupSet" "I") (List.mem_of_getElem? (i := 39) rfl)), rfl⟩
set_option maxRecDepth 100000 in
theorem w_314 : Cond.fieldLink RX4 21 "LeakyLine$Supposed" "broken" "I" ∈ lw_ok := List.mem_filter.mpr ⟨List.mem_of_getElem? (wl_2_ok (314, Cond.fieldLink RX4 21 "LeakyLine$Supposed" "broken" "I") (List.mem_of_getElem? (i := 40) rfl)), rfl⟩
set_option maxRecDepth 100000 in
theorem w_315 : Cond.fieldLink RX8 263 "LeakyLine$Supposed" "broken" "I" ∈ lw_ok := List.mem_filter.mpr ⟨List.mem_of_getElem? (wl_2_ok (315, Cond.fieldLink RX8 263 "LeakyLine$Supposed" "broken" "I") (List.mem_of_getElem? (i := 41) rfl)), rfl⟩
set_option maxRecDepth 100000 in
theorem w_316 : Cond.fieldLink RX4 24 "LeakyLine$Supposed" "ohms" "[I" ∈ lw_ok := List.mem_filter.mpr ⟨List.mem_of_getElem? (wl_2_ok (316, Cond.fieldLink RX4 24 "LeakyLine$Supposed" "ohms" "[I") (List.mem_of_getElem? (i := 42) rfl)), rfl⟩
set_option maxRecDepth 100000 in
theorem w_317 : Cond.fieldLink RX1 51 "LeakyLine$Supposed" "ohms" "[I" ∈ lw_ok := List.mem_filter.mpr ⟨List.mem_of_getElem? (wl_2_ok (317, Cond.fieldLink RX1 51 "LeakyLine$Supposed" "ohms" "[I") (List.mem_of_getElem? (i := 43) rfl)), rfl⟩
set_option maxRecDepth 100000 in
theorem w_318 : Cond.fieldLink RX8 288 "LeakyLine$Supposed" "ohms" "[I" ∈ lw_ok := List.mem_filter.mpr ⟨List.mem_of_getElem? (wl_2_ok (318, Cond.fieldLink RX8 288 "LeakyLine$Supposed" "ohms" "[I") (List.mem_of_getElem? (i := 44) rfl)), rfl⟩
set_option maxRecDepth 100000 in
theorem w_319 : Cond.fieldLink RX4 28 "LeakyLine$Supposed" "leaks" "[I" ∈ lw_ok := List.mem_filter.mpr ⟨List.mem_of_getElem? (wl_2_ok (319, Cond.fieldLink RX4 28 "LeakyLine$Supposed" "leaks" "[I") (List.mem_of_getElem? (i := 45) rfl)), rfl⟩
set_option maxRecDepth 100000 in
theorem w_320 : Cond.fieldLink RX8 426 "LeakyLine$Supposed" "leaks" "[I" ∈ lw_ok := List.mem_filter.mpr ⟨List.mem_of_getElem? (wl_2_ok (320, Cond.fieldLink RX8 426 "LeakyLine$Supposed" "leaks" "[I") (List.mem_of_getElem? (i := 46) rfl)), rfl⟩
set_option maxRecDepth 100000 in
theorem w_334 : Cond.classLink RX8 58 RX1 ∈ lw_ok := List.mem_filter.mpr ⟨List.mem_of_getElem? (wl_2_ok (334, Cond.classLink RX8 58 RX1) (List.mem_of_getElem? (i := 47) rfl)), rfl⟩
set_option maxRecDepth 100000 in
theorem w_335 : Cond.instantiable RX1 5 ∈ lw_ok := List.mem_filter.mpr ⟨List.mem_of_getElem? (wl_2_ok (335, Cond.instantiable RX1 5) (List.mem_of_getElem? (i := 48) rfl)), rfl⟩
set_option maxRecDepth 100000 in
theorem w_337 : Cond.instanceMethod yX1_init ∈ lw_ok := List.mem_filter.mpr ⟨List.mem_of_getElem? (wl_2_ok (337, Cond.instanceMethod yX1_init) (List.mem_of_getElem? (i := 49) rfl)), rfl⟩
set_option maxRecDepth 100000 in
theorem w_338 : Cond.code yX1_init cX1_init 1 none ∈ lw_ok := List.mem_filter.mpr ⟨List.mem_of_getElem? (wl_2_ok (338, Cond.code yX1_init cX1_init 1 none) (List.mem_of_getElem? (i := 50) rfl)), rfl⟩
set_option maxRecDepth 100000 in
theorem w_339 : Cond.methodLink RX1 3 objectInit ∈ lw_ok := List.mem_filter.mpr ⟨List.mem_of_getElem? (wl_2_ok (339, Cond.methodLink RX1 3 objectInit) (List.mem_of_getElem? (i := 51) rfl)), rfl⟩
set_option maxRecDepth 100000 in
theorem w_340 : Cond.fieldLink RX1 9 "LeakyLine$Ladder" "lead" "I" ∈ lw_ok := List.mem_filter.mpr ⟨List.mem_of_getElem? (wl_2_ok (340, Cond.fieldLink RX1 9 "LeakyLine$Ladder" "lead" "I") (List.mem_of_getElem? (i := 52) rfl)), rfl⟩
set_option maxRecDepth 100000 in
theorem w_341 : Cond.fieldLink RX8 200 "LeakyLine$Ladder" "lead" "I" ∈ lw_ok := List.mem_filter.mpr ⟨List.mem_of_getElem? (wl_2_ok (341, Cond.fieldLink RX8 200 "LeakyLine$Ladder" "lead" "I") (List.mem_of_getElem? (i := 53) rfl)), rfl⟩
set_option maxRecDepth 100000 in
theorem w_342 : Cond.fieldLink RX1 15 "LeakyLine$Ladder" "source" "J" ∈ lw_ok := List.mem_filter.mpr ⟨List.mem_of_getElem? (wl_2_ok (342, Cond.fieldLink RX1 15 "LeakyLine$Ladder" "source" "J") (List.mem_of_getElem? (i := 54) rfl)), rfl⟩
set_option maxRecDepth 100000 in
theorem w_343 : Cond.fieldLink RX8 182 "LeakyLine$Ladder" "source" "J" ∈ lw_ok := List.mem_filter.mpr ⟨List.mem_of_getElem? (wl_2_ok (343, Cond.fieldLink RX8 182 "LeakyLine$Ladder" "source" "J") (List.mem_of_getElem? (i := 55) rfl)), rfl⟩
set_option maxRecDepth 100000 in
theorem w_344 : Cond.fieldLink RX1 19 "LeakyLine$Ladder" "leaks" "[I" ∈ lw_ok := List.mem_filter.mpr ⟨List.mem_of_getElem? (wl_2_ok (344, Cond.fieldLink RX1 19 "LeakyLine$Ladder" "leaks" "[I") (List.mem_of_getElem? (i := 56) rfl)), rfl⟩
set_option maxRecDepth 100000 in
theorem w_345 : Cond.fieldLink RX8 199 "LeakyLine$Ladder" "leaks" "[I" ∈ lw_ok := List.mem_filter.mpr ⟨List.mem_of_getElem? (wl_2_ok (345, Cond.fieldLink RX8 199 "LeakyLine$Ladder" "leaks" "[I") (List.mem_of_getElem? (i := 57) rfl)), rfl⟩
set_option maxRecDepth 100000 in
theorem w_346 : Cond.fieldLink RX1 23 "LeakyLine$Ladder" "volts" "[J" ∈ lw_ok := List.mem_filter.mpr ⟨List.mem_of_getElem? (wl_2_ok (346, Cond.fieldLink RX1 23 "LeakyLine$Ladder" "volts" "[J") (List.mem_of_getElem? (i := 58) rfl)), rfl⟩
set_option maxRecDepth 100000 in
theorem w_347 : Cond.fieldLink RX8 190 "LeakyLine$Ladder" "volts" "[J" ∈ lw_ok := List.mem_filter.mpr ⟨List.mem_of_getElem? (wl_2_ok (347, Cond.fieldLink RX8 190 "LeakyLine$Ladder" "volts" "[J") (List.mem_of_getElem? (i := 59) rfl)), rfl⟩
set_option maxRecDepth 100000 in
theorem w_348 : Cond.fieldLink RX1 27 "LeakyLine$Ladder" "amps" "[J" ∈ lw_ok := List.mem_filter.mpr ⟨List.mem_of_getElem? (wl_2_ok (348, Cond.fieldLink RX1 27 "LeakyLine$Ladder" "amps" "[J") (List.mem_of_getElem? (i := 60) rfl)), rfl⟩
set_option maxRecDepth 100000 in
theorem w_360 : Cond.classLink RX8 65 RX0 ∈ lw_ok := List.mem_filter.mpr ⟨List.mem_of_getElem? (wl_2_ok (360, Cond.classLink RX8 65 RX0) (List.mem_of_getElem? (i := 61) rfl)), rfl⟩
set_option maxRecDepth 100000 in
theorem w_361 : Cond.instantiable RX0 2 ∈ lw_ok := List.mem_filter.mpr ⟨List.mem_of_getElem? (wl_2_ok (361, Cond.instantiable RX0 2) (List.mem_of_getElem? (i := 62) rfl)), rfl⟩
set_option maxRecDepth 100000 in
theorem w_363 : Cond.instanceMethod yX0_init ∈ lw_ok := List.mem_filter.mpr ⟨List.mem_of_getElem? (wl_2_ok (363, Cond.instanceMethod yX0_init) (List.mem_of_getElem? (i := 63) rfl)), rfl⟩
set_option maxRecDepth 100000 in
theorem w_364 : Cond.code yX0_init cX0_init 1 none ∈ lw_ok := List.mem_filter.mpr ⟨List.mem_of_getElem? (wl_2_ok (364, Cond.code yX0_init cX0_init 1 none) (List.mem_of_getElem? (i := 64) rfl)), rfl⟩
set_option maxRecDepth 100000 in
theorem w_365 : Cond.methodLink RX0 3 objectInit ∈ lw_ok := List.mem_filter.mpr ⟨List.mem_of_getElem? (wl_2_ok (365, Cond.methodLink RX0 3 objectInit) (List.mem_of_getElem? (i := 65) rfl)), rfl⟩
set_option maxRecDepth 100000 in
theorem w_366 : Cond.fieldLink RX0 9 "LeakyLine$Fraction" "above" "J" ∈ lw_ok := List.mem_filter.mpr ⟨List.mem_of_getElem? (wl_2_ok (366, Cond.fieldLink RX0 9 "LeakyLine$Fraction" "above" "J") (List.mem_of_getElem? (i := 66) rfl)), rfl⟩
set_option maxRecDepth 100000 in
theorem w_367 : Cond.fieldLink RX8 420 "LeakyLine$Fraction" "above" "J" ∈ lw_ok := List.mem_filter.mpr ⟨List.mem_of_getElem? (wl_2_ok (367, Cond.fieldLink RX8 420 "LeakyLine$Fraction" "above" "J") (List.mem_of_getElem? (i := 67) rfl)), rfl⟩
set_option maxRecDepth 100000 in
theorem w_368 : Cond.fieldLink RX0 15 "LeakyLine$Fraction" "below" "J" ∈ lw_ok := List.mem_filter.mpr ⟨List.mem_of_getElem? (wl_2_ok (368, Cond.fieldLink RX0 15 "LeakyLine$Fraction" "below" "J") (List.mem_of_getElem? (i := 68) rfl)), rfl⟩
set_option maxRecDepth 100000 in
theorem w_369 : Cond.fieldLink RX8 423 "LeakyLine$Fraction" "below" "J" ∈ lw_ok := List.mem_filter.mpr ⟨List.mem_of_getElem? (wl_2_ok (369, Cond.fieldLink RX8 423 "LeakyLine$Fraction" "below" "J") (List.mem_of_getElem? (i := 69) rfl)), rfl⟩
set_option maxRecDepth 100000 in
theorem w_375 : Cond.fieldLink RX8 10 "LeakyLine" "tape" "LLeakyLine$Tape;" ∈ lw_ok := List.mem_filter.mpr ⟨List.mem_of_getElem? (wl_2_ok (375, Cond.fieldLink RX8 10 "LeakyLine" "tape" "LLeakyLine$Tape;") (List.mem_of_getElem? (i := 70) rfl)), rfl⟩
set_option maxRecDepth 100000 in
theorem w_376 : Cond.fieldLink RX8 19 "LeakyLine" "tokens" "LLeakyLine$Tokens;" ∈ lw_ok := List.mem_filter.mpr ⟨List.mem_of_getElem? (wl_2_ok (376, Cond.fieldLink RX8 19 "LeakyLine" "tokens" "LLeakyLine$Tokens;") (List.mem_of_getElem? (i := 71) rfl)), rfl⟩
set_option maxRecDepth 100000 in
theorem w_377 : Cond.fieldLink RX8 26 "LeakyLine" "teller" "LLeakyLine$Teller;" ∈ lw_ok := List.mem_filter.mpr ⟨List.mem_of_getElem? (wl_2_ok (377, Cond.fieldLink RX8 26 "LeakyLine" "teller" "LLeakyLine$Teller;") (List.mem_of_getElem? (i := 72) rfl)), rfl⟩
set_option maxRecDepth 100000 in
theorem w_378 : Cond.fieldLink RX8 33 "LeakyLine" "line" "LLeakyLine$Line;" ∈ lw_ok := List.mem_filter.mpr ⟨List.mem_of_getElem? (wl_2_ok (378, Cond.fieldLink RX8 33 "LeakyLine" "line" "LLeakyLine$Line;") (List.mem_of_getElem? (i := 73) rfl)), rfl⟩
set_option maxRecDepth 100000 in
theorem w_379 : Cond.fieldLink RX8 37 "LeakyLine" "drafted" "LLeakyLine$Line;" ∈ lw_ok := List.mem_filter.mpr ⟨List.mem_of_getElem? (wl_2_ok (379, Cond.fieldLink RX8 37 "LeakyLine" "drafted" "LLeakyLine$Line;") (List.mem_of_getElem? (i := 74) rfl)), rfl⟩
set_option maxRecDepth 100000 in
theorem w_380 : Cond.fieldLink RX8 40 "LeakyLine" "images" "[LLeakyLine$Line;" ∈ lw_ok := List.mem_filter.mpr ⟨List.mem_of_getElem? (wl_2_ok (380, Cond.fieldLink RX8 40 "LeakyLine" "images" "[LLeakyLine$Line;") (List.mem_of_getElem? (i := 75) rfl)), rfl⟩
set_option maxRecDepth 100000 in
theorem w_381 : Cond.fieldLink RX8 47 "LeakyLine" "slots" "LLeakyLine$Slots;" ∈ lw_ok := List.mem_filter.mpr ⟨List.mem_of_getElem? (wl_2_ok (381, Cond.fieldLink RX8 47 "LeakyLine" "slots" "LLeakyLine$Slots;") (List.mem_of_getElem? (i := 76) rfl)), rfl⟩
set_option maxRecDepth 100000 in
theorem w_382 : Cond.fieldLink RX8 54 "LeakyLine" "supposed" "LLeakyLine$Supposed;" ∈ lw_ok := List.mem_filter.mpr ⟨List.mem_of_getElem? (wl_2_ok (382, Cond.fieldLink RX8 54 "LeakyLine" "supposed" "LLeakyLine$Supposed;") (List.mem_of_getElem? (i := 77) rfl)), rfl⟩
set_option maxRecDepth 100000 in
theorem w_383 : Cond.fieldLink RX8 61 "LeakyLine" "ladder" "LLeakyLine$Ladder;" ∈ lw_ok := List.mem_filter.mpr ⟨List.mem_of_getElem? (wl_2_ok (383, Cond.fieldLink RX8 61 "LeakyLine" "ladder" "LLeakyLine$Ladder;") (List.mem_of_getElem? (i := 78) rfl)), rfl⟩
set_option maxRecDepth 100000 in
theorem w_384 : Cond.fieldLink RX8 68 "LeakyLine" "fraction" "LLeakyLine$Fraction;" ∈ lw_ok := List.mem_filter.mpr ⟨List.mem_of_getElem? (wl_2_ok (384, Cond.fieldLink RX8 68 "LeakyLine" "fraction" "LLeakyLine$Fraction;") (List.mem_of_getElem? (i := 79) rfl)), rfl⟩
set_option maxRecDepth 100000 in
theorem w_385 : Cond.fieldLink RX8 72 "LeakyLine" "heardOn" "[I" ∈ lw_ok := List.mem_filter.mpr ⟨List.mem_of_getElem? (wl_2_ok (385, Cond.fieldLink RX8 72 "LeakyLine" "heardOn" "[I") (List.mem_of_getElem? (i := 80) rfl)), rfl⟩
set_option maxRecDepth 100000 in
theorem w_386 : Cond.fieldLink RX8 76 "LeakyLine" "worths" "[I" ∈ lw_ok := List.mem_filter.mpr ⟨List.mem_of_getElem? (wl_2_ok (386, Cond.fieldLink RX8 76 "LeakyLine" "worths" "[I") (List.mem_of_getElem? (i := 81) rfl)), rfl⟩
set_option maxRecDepth 100000 in
theorem w_387 : Cond.fieldLink RX8 79 "LeakyLine" "readsAbove" "[J" ∈ lw_ok := List.mem_filter.mpr ⟨List.mem_of_getElem? (wl_2_ok (387, Cond.fieldLink RX8 79 "LeakyLine" "readsAbove" "[J") (List.mem_of_getElem? (i := 82) rfl)), rfl⟩
set_option maxRecDepth 100000 in
theorem w_388 : Cond.fieldLink RX8 83 "LeakyLine" "readsBelow" "[J" ∈ lw_ok := List.mem_filter.mpr ⟨List.mem_of_getElem? (wl_2_ok (388, Cond.fieldLink RX8 83 "LeakyLine" "readsBelow" "[J") (List.mem_of_getElem? (i := 83) rfl)), rfl⟩
set_option maxRecDepth 100000 in
theorem w_389 : Cond.fieldLink RX8 86 "LeakyLine" "faultKind" "I" ∈ lw_ok := List.mem_filter.mpr ⟨List.mem_of_getElem? (wl_2_ok (389, Cond.fieldLink RX8 86 "LeakyLine" "faultKind" "I") (List.mem_of_getElem? (i := 84) rfl)), rfl⟩
set_option maxRecDepth 100000 in
theorem w_390 : Cond.fieldLink RX8 90 "LeakyLine" "faultPlace" "I" ∈ lw_ok := List.mem_filter.mpr ⟨List.mem_of_getElem? (wl_2_ok (390, Cond.fieldLink RX8 90 "LeakyLine" "faultPlace" "I") (List.mem_of_getElem? (i := 85) rfl)), rfl⟩
set_option maxRecDepth 100000 in
theorem w_424 : Cond.methodLink "LeakyLineLaw" 13 yX8_feed ∈ lw_ok := List.mem_filter.mpr ⟨List.mem_of_getElem? (wl_2_ok (424, Cond.methodLink "LeakyLineLaw" 13 yX8_feed) (List.mem_of_getElem? (i := 86) rfl)), rfl⟩
set_option maxRecDepth 100000 in
theorem w_425 : Cond.instanceMethod yX8_feed ∈ lw_ok := List.mem_filter.mpr ⟨List.mem_of_getElem? (wl_2_ok (425, Cond.instanceMethod yX8_feed) (List.mem_of_getElem? (i := 87) rfl)), rfl⟩
set_option maxRecDepth 100000 in
theorem w_426 : Cond.selects RX8 yX8_feed yX8_feed ∈ lw_ok := List.mem_filter.mpr ⟨List.mem_of_getElem? (wl_2_ok (426, Cond.selects RX8 yX8_feed yX8_feed) (List.mem_of_getElem? (i := 88) rfl)), rfl⟩
set_option maxRecDepth 100000 in
theorem w_427 : Cond.code yX8_feed cX8_feed 6 (some .int) ∈ lw_ok := List.mem_filter.mpr ⟨List.mem_of_getElem? (wl_2_ok (427, Cond.code yX8_feed cX8_feed 6 (some .int)) (List.mem_of_getElem? (i := 89) rfl)), rfl⟩
set_option maxRecDepth 100000 in
theorem w_428 : Cond.methodLink RX8 96 yX5_append ∈ lw_ok := List.mem_filter.mpr ⟨List.mem_of_getElem? (wl_2_ok (428, Cond.methodLink RX8 96 yX5_append) (List.mem_of_getElem? (i := 90) rfl)), rfl⟩
set_option maxRecDepth 100000 in
theorem w_429 : Cond.instanceMethod yX5_append ∈ lw_ok := List.mem_filter.mpr ⟨List.mem_of_getElem? (wl_2_ok (429, Cond.instanceMethod yX5_append) (List.mem_of_getElem? (i := 91) rfl)), rfl⟩
set_option maxRecDepth 100000 in
theorem w_430 : Cond.selects RX5 yX5_append yX5_append ∈ lw_ok := List.mem_filter.mpr ⟨List.mem_of_getElem? (wl_2_ok (430, Cond.selects RX5 yX5_append yX5_append) (List.mem_of_getElem? (i := 92) rfl)), rfl⟩
set_option maxRecDepth 100000 in
theorem w_431 : Cond.code yX5_append cX5_append 3 none ∈ lw_ok := List.mem_filter.mpr ⟨List.mem_of_getElem? (wl_2_ok (431, Cond.code yX5_append cX5_append 3 none) (List.mem_of_getElem? (i := 93) rfl)), rfl⟩
set_option maxRecDepth 100000 in
theorem w_432 : Cond.methodLink "LeakyLineLaw" 18 yX8_end ∈ lw_ok := List.mem_filter.mpr ⟨List.mem_of_getElem? (wl_2_ok (432, Cond.methodLink "LeakyLineLaw" 18 yX8_end) (List.mem_of_getElem? (i := 94) rfl)), rfl⟩
set_option maxRecDepth 100000 in
theorem w_433 : Cond.instanceMethod yX8_end ∈ lw_ok := List.mem_filter.mpr ⟨List.mem_of_getElem? (wl_2_ok (433, Cond.instanceMethod yX8_end) (List.mem_of_getElem? (i := 95) rfl)), rfl⟩
set_option maxRecDepth 100000 in
theorem w_434 : Cond.selects RX8 yX8_end yX8_end ∈ lw_ok := List.mem_filter.mpr ⟨List.mem_of_getElem? (wl_2_ok (434, Cond.selects RX8 yX8_end yX8_end) (List.mem_of_getElem? (i := 96) rfl)), rfl⟩
set_option maxRecDepth 100000 in
theorem w_435 : Cond.code yX8_end cX8_end 2 (some .int) ∈ lw_ok := List.mem_filter.mpr ⟨List.mem_of_getElem? (wl_2_ok (435, Cond.code yX8_end cX8_end 2 (some .int)) (List.mem_of_getElem? (i := 97) rfl)), rfl⟩
set_option maxRecDepth 100000 in
theorem w_436 : Cond.methodLink "LeakyLineLaw" 23 yX8_wire ∈ lw_ok := List.mem_filter.mpr ⟨List.mem_of_getElem? (wl_2_ok (436, Cond.methodLink "LeakyLineLaw" 23 yX8_wire) (List.mem_of_getElem? (i := 98) rfl)), rfl⟩
set_option maxRecDepth 100000 in
theorem w_437 : Cond.instanceMethod yX8_wire ∈ lw_ok := List.mem_filter.mpr ⟨List.mem_of_getElem? (wl_2_ok (437, Cond.instanceMethod yX8_wire) (List.mem_of_getElem? (i := 99) rfl)), rfl⟩
def wl_3 : List (Nat × Cond) := [(438, Cond.selects RX8 yX8_wire yX8_wire), (439, Cond.code yX8_wire cX8_wire 1 (some .int)), (440, Cond.methodLink RX8 100 yX7_scan), (441, Cond.instanceMethod yX7_scan), (442, Cond.selects RX7 yX7_scan yX7_scan), (443, Cond.code yX7_scan cX7_scan 5 none), (444, Cond.methodLink RX7 30 yX5_at), (445, Cond.instanceMethod yX5_at), (446, Cond.selects RX5 yX5_at yX5_at), (447, Cond.code yX5_at cX5_at 2 (some .int)), (448, Cond.methodLink RX7 34 yX7_isLetter), (449, Cond.static yX7_isLetter), (450, Cond.code yX7_isLetter cX7_isLetter 1 (some .boolean)), (451, Cond.methodLink RX7 38 yX7_wordEnd), (452, Cond.static yX7_wordEnd), (453, Cond.code yX7_wordEnd cX7_wordEnd 3 (some .int)), (454, Cond.methodLink RX7 42 yX7_wordKind), (455, Cond.static yX7_wordKind), (456, Cond.code yX7_wordKind cX7_wordKind 3 (some .int)), (458, Cond.methodLink RX7 73 yX7_isWord), (459, Cond.static yX7_isWord), (460, Cond.code yX7_isWord cX7_isWord 5 (some .boolean)), (461, Cond.methodLink RX7 97 yJ0_length_8abf5), (462, Cond.instanceMethod yJ0_length_8abf5), (463, Cond.selects RJ0 yJ0_length_8abf5 yJ0_length_8abf5), (464, Cond.code yJ0_length_8abf5 cJ0_length_8abf5 1 (some .int)), (465, Cond.methodLink RJ0 335 yJ0_coder_7d493), (466, Cond.instanceMethod yJ0_coder_7d493), (467, Cond.selects RJ0 yJ0_coder_7d493 yJ0_coder_7d493), (469, Cond.fieldLink RJ0 38 "java/lang/String" "COMPACT_STRINGS" "Z"), (471, Cond.methodLink RX7 102 yJ0_charAt_5068e), (472, Cond.instanceMethod yJ0_charAt_5068e), (473, Cond.selects RJ0 yJ0_charAt_5068e yJ0_charAt_5068e), (474, Cond.code yJ0_charAt_5068e cJ0_charAt_5068e 2 (some .char)), (475, Cond.methodLink RJ0 492 yJ0_isLatin1_aae02), (476, Cond.instanceMethod yJ0_isLatin1_aae02), (477, Cond.selects RJ0 yJ0_isLatin1_aae02 yJ0_isLatin1_aae02), (478, Cond.code yJ0_isLatin1_aae02 cJ0_isLatin1_aae02 1 (some .boolean)), (479, Cond.methodLink RJ0 495 yJ1_charAt_3b067), (480, Cond.static yJ1_charAt_3b067), (481, Cond.code yJ1_charAt_3b067 cJ1_charAt_3b067 2 (some .char)), (482, Cond.methodLink RJ1 9 yJ0_checkIndex_df160), (483, Cond.static yJ0_checkIndex_df160), (484, Cond.code yJ0_checkIndex_df160 cJ0_checkIndex_df160 2 none), (485, Cond.fieldLink RJ0 1053 "jdk/internal/util/Preconditions" "SIOOBE_FORMATTER" "Ljava/util/function/BiFunction;"), (487, Cond.methodLink RJ0 1059 yJ3_checkIndex_8e157), (488, Cond.static yJ3_checkIndex_8e157), (489, Cond.code yJ3_checkIndex_8e157 cJ3_checkIndex_8e157 3 (some .int)), (490, Cond.methodLink RJ0 498 yJ2_charAt_3b067), (491, Cond.static yJ2_charAt_3b067), (492, Cond.code yJ2_charAt_3b067 cJ2_charAt_3b067 2 (some .char)), (493, Cond.methodLink RJ2 67 yJ2_checkIndex_2214a), (494, Cond.static yJ2_checkIndex_2214a), (495, Cond.code yJ2_checkIndex_2214a cJ2_checkIndex_2214a 2 none), (496, Cond.methodLink RJ2 48 yJ2_length_9d52b), (497, Cond.static yJ2_length_9d52b), (498, Cond.code yJ2_length_9d52b cJ2_length_9d52b 1 (some .int)), (499, Cond.methodLink RJ2 414 yJ0_checkIndex_df160), (500, Cond.methodLink RJ2 71 yJ2_getChar_3b067), (501, Cond.static yJ2_getChar_3b067), (502, Cond.code yJ2_getChar_3b067 cJ2_getChar_3b067 2 (some .char)), (503, Cond.fieldLink RJ2 44 "java/lang/StringUTF16" "$assertionsDisabled" "Z"), (505, Cond.fieldLink RJ2 59 "java/lang/StringUTF16" "HI_BYTE_SHIFT" "I"), (507, Cond.fieldLink RJ2 63 "java/lang/StringUTF16" "LO_BYTE_SHIFT" "I"), (510, Cond.methodLink RX7 79 yX7_ifWord), (511, Cond.static yX7_ifWord), (512, Cond.code yX7_ifWord cX7_ifWord 5 (some .int)), (520, Cond.methodLink RX7 46 yX7_add), (522, Cond.instanceMethod yX7_add), (523, Cond.code yX7_add cX7_add 4 none), (524, Cond.methodLink RX7 50 yX7_isDigit), (525, Cond.static yX7_isDigit), (526, Cond.code yX7_isDigit cX7_isDigit 1 (some .boolean)), (527, Cond.methodLink RX7 53 yX7_numberEnd), (528, Cond.static yX7_numberEnd), (529, Cond.code yX7_numberEnd cX7_numberEnd 3 (some .int)), (530, Cond.methodLink RX7 56 yX7_valueOf), (531, Cond.static yX7_valueOf), (532, Cond.code yX7_valueOf cX7_valueOf 5 (some .int)), (533, Cond.methodLink RX7 68 yJ9_min_7cf53), (534, Cond.static yJ9_min_7cf53), (535, Cond.code yJ9_min_7cf53 cJ9_min_7cf53 2 (some .int)), (536, Cond.methodLink RX7 59 yX7_isBlank), (537, Cond.static yX7_isBlank), (538, Cond.code yX7_isBlank cX7_isBlank 1 (some .boolean)), (539, Cond.methodLink RX7 62 yJ9_max_7cf53), (540, Cond.static yJ9_max_7cf53), (541, Cond.code yJ9_max_7cf53 cJ9_max_7cf53 2 (some .int)), (542, Cond.methodLink RX8 104 yX6_read), (543, Cond.instanceMethod yX6_read), (544, Cond.selects RX6 yX6_read yX6_read), (545, Cond.code yX6_read cX6_read 4 none), (546, Cond.methodLink RX6 29 yX2_wipe), (547, Cond.instanceMethod yX2_wipe), (548, Cond.selects RX2 yX2_wipe yX2_wipe), (549, Cond.code yX2_wipe cX2_wipe 1 none), (550, Cond.methodLink RX2 64 yX2_keepActs), (551, Cond.instanceMethod yX2_keepActs), (552, Cond.selects RX2 yX2_keepActs yX2_keepActs), (553, Cond.code yX2_keepActs cX2_keepActs 4 none)]
set_option maxRecDepth 100000 in
theorem wl_3_ok : ∀ x ∈ wl_3, lw_tbl[x.1]? = some x.2 := by decide +kernel
set_option maxRecDepth 100000 in
theorem w_438 : Cond.selects RX8 yX8_wire yX8_wire ∈ lw_ok := List.mem_filter.mpr ⟨List.mem_of_getElem? (wl_3_ok (438, Cond.selects RX8 yX8_wire yX8_wire) (List.mem_of_getElem? (i := 0) rfl)), rfl⟩
set_option maxRecDepth 100000 in
theorem w_439 : Cond.code yX8_wire cX8_wire 1 (some .int) ∈ lw_ok := List.mem_filter.mpr ⟨List.mem_of_getElem? (wl_3_ok (439, Cond.code yX8_wire cX8_wire 1 (some .int)) (List.mem_of_getElem? (i := 1) rfl)), rfl⟩
set_option maxRecDepth 100000 in
theorem w_440 : Cond.methodLink RX8 100 yX7_scan ∈ lw_ok := List.mem_filter.mpr ⟨List.mem_of_getElem? (wl_3_ok (440, Cond.methodLink RX8 100 yX7_scan) (List.mem_of_getElem? (i := 2) rfl)), rfl⟩
set_option maxRecDepth 100000 in
theorem w_441 : Cond.instanceMethod yX7_scan ∈ lw_ok := List.mem_filter.mpr ⟨List.mem_of_getElem? (wl_3_ok (441, Cond.instanceMethod yX7_scan) (List.mem_of_getElem? (i := 3) rfl)), rfl⟩
set_option maxRecDepth 100000 in
theorem w_442 : Cond.selects RX7 yX7_scan yX7_scan ∈ lw_ok := List.mem_filter.mpr ⟨List.mem_of_getElem? (wl_3_ok (442, Cond.selects RX7 yX7_scan yX7_scan) (List.mem_of_getElem? (i := 4) rfl)), rfl⟩
set_option maxRecDepth 100000 in
theorem w_443 : Cond.code yX7_scan cX7_scan 5 none ∈ lw_ok := List.mem_filter.mpr ⟨List.mem_of_getElem? (wl_3_ok (443, Cond.code yX7_scan cX7_scan 5 none) (List.mem_of_getElem? (i := 5) rfl)), rfl⟩
set_option maxRecDepth 100000 in
theorem w_444 : Cond.methodLink RX7 30 yX5_at ∈ lw_ok := List.mem_filter.mpr ⟨List.mem_of_getElem? (wl_3_ok (444, Cond.methodLink RX7 30 yX5_at) (List.mem_of_getElem? (i := 6) rfl)), rfl⟩
set_option maxRecDepth 100000 in
theorem w_445 : Cond.instanceMethod yX5_at ∈ lw_ok := List.mem_filter.mpr ⟨List.mem_of_getElem? (wl_3_ok (445, Cond.instanceMethod yX5_at) (List.mem_of_getElem? (i := 7) rfl)), rfl⟩
set_option maxRecDepth 100000 in
theorem w_446 : Cond.selects RX5 yX5_at yX5_at ∈ lw_ok := List.mem_filter.mpr ⟨List.mem_of_getElem? (wl_3_ok (446, Cond.selects RX5 yX5_at yX5_at) (List.mem_of_getElem? (i := 8) rfl)), rfl⟩
set_option maxRecDepth 100000 in
theorem w_447 : Cond.code yX5_at cX5_at 2 (some .int) ∈ lw_ok := List.mem_filter.mpr ⟨List.mem_of_getElem? (wl_3_ok (447, Cond.code yX5_at cX5_at 2 (some .int)) (List.mem_of_getElem? (i := 9) rfl)), rfl⟩
set_option maxRecDepth 100000 in
theorem w_448 : Cond.methodLink RX7 34 yX7_isLetter ∈ lw_ok := List.mem_filter.mpr ⟨List.mem_of_getElem? (wl_3_ok (448, Cond.methodLink RX7 34 yX7_isLetter) (List.mem_of_getElem? (i := 10) rfl)), rfl⟩
set_option maxRecDepth 100000 in
theorem w_449 : Cond.static yX7_isLetter ∈ lw_ok := List.mem_filter.mpr ⟨List.mem_of_getElem? (wl_3_ok (449, Cond.static yX7_isLetter) (List.mem_of_getElem? (i := 11) rfl)), rfl⟩
set_option maxRecDepth 100000 in
theorem w_450 : Cond.code yX7_isLetter cX7_isLetter 1 (some .boolean) ∈ lw_ok := List.mem_filter.mpr ⟨List.mem_of_getElem? (wl_3_ok (450, Cond.code yX7_isLetter cX7_isLetter 1 (some .boolean)) (List.mem_of_getElem? (i := 12) rfl)), rfl⟩
set_option maxRecDepth 100000 in
theorem w_451 : Cond.methodLink RX7 38 yX7_wordEnd ∈ lw_ok := List.mem_filter.mpr ⟨List.mem_of_getElem? (wl_3_ok (451, Cond.methodLink RX7 38 yX7_wordEnd) (List.mem_of_getElem? (i := 13) rfl)), rfl⟩
set_option maxRecDepth 100000 in
theorem w_452 : Cond.static yX7_wordEnd ∈ lw_ok := List.mem_filter.mpr ⟨List.mem_of_getElem? (wl_3_ok (452, Cond.static yX7_wordEnd) (List.mem_of_getElem? (i := 14) rfl)), rfl⟩
set_option maxRecDepth 100000 in
theorem w_453 : Cond.code yX7_wordEnd cX7_wordEnd 3 (some .int) ∈ lw_ok := List.mem_filter.mpr ⟨List.mem_of_getElem? (wl_3_ok (453, Cond.code yX7_wordEnd cX7_wordEnd 3 (some .int)) (List.mem_of_getElem? (i := 15) rfl)), rfl⟩
set_option maxRecDepth 100000 in
theorem w_454 : Cond.methodLink RX7 42 yX7_wordKind ∈ lw_ok := List.mem_filter.mpr ⟨List.mem_of_getElem? (wl_3_ok (454, Cond.methodLink RX7 42 yX7_wordKind) (List.mem_of_getElem? (i := 16) rfl)), rfl⟩
set_option maxRecDepth 100000 in
theorem w_455 : Cond.static yX7_wordKind ∈ lw_ok := List.mem_filter.mpr ⟨List.mem_of_getElem? (wl_3_ok (455, Cond.static yX7_wordKind) (List.mem_of_getElem? (i := 17) rfl)), rfl⟩
set_option maxRecDepth 100000 in
theorem w_456 : Cond.code yX7_wordKind cX7_wordKind 3 (some .int) ∈ lw_ok := List.mem_filter.mpr ⟨List.mem_of_getElem? (wl_3_ok (456, Cond.code yX7_wordKind cX7_wordKind 3 (some .int)) (List.mem_of_getElem? (i := 18) rfl)), rfl⟩
set_option maxRecDepth 100000 in
theorem w_458 : Cond.methodLink RX7 73 yX7_isWord ∈ lw_ok := List.mem_filter.mpr ⟨List.mem_of_getElem? (wl_3_ok (458, Cond.methodLink RX7 73 yX7_isWord) (List.mem_of_getElem? (i := 19) rfl)), rfl⟩
set_option maxRecDepth 100000 in
theorem w_459 : Cond.static yX7_isWord ∈ lw_ok := List.mem_filter.mpr ⟨List.mem_of_getElem? (wl_3_ok (459, Cond.static yX7_isWord) (List.mem_of_getElem? (i := 20) rfl)), rfl⟩
set_option maxRecDepth 100000 in
theorem w_460 : Cond.code yX7_isWord cX7_isWord 5 (some .boolean) ∈ lw_ok := List.mem_filter.mpr ⟨List.mem_of_getElem? (wl_3_ok (460, Cond.code yX7_isWord cX7_isWord 5 (some .boolean)) (List.mem_of_getElem? (i := 21) rfl)), rfl⟩
set_option maxRecDepth 100000 in
theorem w_461 : Cond.methodLink RX7 97 yJ0_length_8abf5 ∈ lw_ok := List.mem_filter.mpr ⟨List.mem_of_getElem? (wl_3_ok (461, Cond.methodLink RX7 97 yJ0_length_8abf5) (List.mem_of_getElem? (i := 22) rfl)), rfl⟩
set_option maxRecDepth 100000 in
theorem w_462 : Cond.instanceMethod yJ0_length_8abf5 ∈ lw_ok := List.mem_filter.mpr ⟨List.mem_of_getElem? (wl_3_ok (462, Cond.instanceMethod yJ0_length_8abf5) (List.mem_of_getElem? (i := 23) rfl)), rfl⟩
set_option maxRecDepth 100000 in
theorem w_463 : Cond.selects RJ0 yJ0_length_8abf5 yJ0_length_8abf5 ∈ lw_ok := List.mem_filter.mpr ⟨List.mem_of_getElem? (wl_3_ok (463, Cond.selects RJ0 yJ0_length_8abf5 yJ0_length_8abf5) (List.mem_of_getElem? (i := 24) rfl)), rfl⟩
set_option maxRecDepth 100000 in
theorem w_464 : Cond.code yJ0_length_8abf5 cJ0_length_8abf5 1 (some .int) ∈ lw_ok := List.mem_filter.mpr ⟨List.mem_of_getElem? (wl_3_ok (464, Cond.code yJ0_length_8abf5 cJ0_length_8abf5 1 (some .int)) (List.mem_of_getElem? (i := 25) rfl)), rfl⟩
set_option maxRecDepth 100000 in
theorem w_465 : Cond.methodLink RJ0 335 yJ0_coder_7d493 ∈ lw_ok := List.mem_filter.mpr ⟨List.mem_of_getElem? (wl_3_ok (465, Cond.methodLink RJ0 335 yJ0_coder_7d493) (List.mem_of_getElem? (i := 26) rfl)), rfl⟩
set_option maxRecDepth 100000 in
theorem w_466 : Cond.instanceMethod yJ0_coder_7d493 ∈ lw_ok := List.mem_filter.mpr ⟨List.mem_of_getElem? (wl_3_ok (466, Cond.instanceMethod yJ0_coder_7d493) (List.mem_of_getElem? (i := 27) rfl)), rfl⟩
set_option maxRecDepth 100000 in
theorem w_467 : Cond.selects RJ0 yJ0_coder_7d493 yJ0_coder_7d493 ∈ lw_ok := List.mem_filter.mpr ⟨List.mem_of_getElem? (wl_3_ok (467, Cond.selects RJ0 yJ0_coder_7d493 yJ0_coder_7d493) (List.mem_of_getElem? (i := 28) rfl)), rfl⟩
set_option maxRecDepth 100000 in
theorem w_469 : Cond.fieldLink RJ0 38 "java/lang/String" "COMPACT_STRINGS" "Z" ∈ lw_ok := List.mem_filter.mpr ⟨List.mem_of_getElem? (wl_3_ok (469, Cond.fieldLink RJ0 38 "java/lang/String" "COMPACT_STRINGS" "Z") (List.mem_of_getElem? (i := 29) rfl)), rfl⟩
set_option maxRecDepth 100000 in
theorem w_471 : Cond.methodLink RX7 102 yJ0_charAt_5068e ∈ lw_ok := List.mem_filter.mpr ⟨List.mem_of_getElem? (wl_3_ok (471, Cond.methodLink RX7 102 yJ0_charAt_5068e) (List.mem_of_getElem? (i := 30) rfl)), rfl⟩
set_option maxRecDepth 100000 in
theorem w_472 : Cond.instanceMethod yJ0_charAt_5068e ∈ lw_ok := List.mem_filter.mpr ⟨List.mem_of_getElem? (wl_3_ok (472, Cond.instanceMethod yJ0_charAt_5068e) (List.mem_of_getElem? (i := 31) rfl)), rfl⟩
set_option maxRecDepth 100000 in
theorem w_473 : Cond.selects RJ0 yJ0_charAt_5068e yJ0_charAt_5068e ∈ lw_ok := List.mem_filter.mpr ⟨List.mem_of_getElem? (wl_3_ok (473, Cond.selects RJ0 yJ0_charAt_5068e yJ0_charAt_5068e) (List.mem_of_getElem? (i := 32) rfl)), rfl⟩
set_option maxRecDepth 100000 in
theorem w_474 : Cond.code yJ0_charAt_5068e cJ0_charAt_5068e 2 (some .char) ∈ lw_ok := List.mem_filter.mpr ⟨List.mem_of_getElem? (wl_3_ok (474, Cond.code yJ0_charAt_5068e cJ0_charAt_5068e 2 (some .char)) (List.mem_of_getElem? (i := 33) rfl)), rfl⟩
set_option maxRecDepth 100000 in
theorem w_475 : Cond.methodLink RJ0 492 yJ0_isLatin1_aae02 ∈ lw_ok := List.mem_filter.mpr ⟨List.mem_of_getElem? (wl_3_ok (475, Cond.methodLink RJ0 492 yJ0_isLatin1_aae02) (List.mem_of_getElem? (i := 34) rfl)), rfl⟩
set_option maxRecDepth 100000 in
theorem w_476 : Cond.instanceMethod yJ0_isLatin1_aae02 ∈ lw_ok := List.mem_filter.mpr ⟨List.mem_of_getElem? (wl_3_ok (476, Cond.instanceMethod yJ0_isLatin1_aae02) (List.mem_of_getElem? (i := 35) rfl)), rfl⟩
set_option maxRecDepth 100000 in
theorem w_477 : Cond.selects RJ0 yJ0_isLatin1_aae02 yJ0_isLatin1_aae02 ∈ lw_ok := List.mem_filter.mpr ⟨List.mem_of_getElem? (wl_3_ok (477, Cond.selects RJ0 yJ0_isLatin1_aae02 yJ0_isLatin1_aae02) (List.mem_of_getElem? (i := 36) rfl)), rfl⟩
set_option maxRecDepth 100000 in
theorem w_478 : Cond.code yJ0_isLatin1_aae02 cJ0_isLatin1_aae02 1 (some .boolean) ∈ lw_ok := List.mem_filter.mpr ⟨List.mem_of_getElem? (wl_3_ok (478, Cond.code yJ0_isLatin1_aae02 cJ0_isLatin1_aae02 1 (some .boolean)) (List.mem_of_getElem? (i := 37) rfl)), rfl⟩
set_option maxRecDepth 100000 in
theorem w_479 : Cond.methodLink RJ0 495 yJ1_charAt_3b067 ∈ lw_ok := List.mem_filter.mpr ⟨List.mem_of_getElem? (wl_3_ok (479, Cond.methodLink RJ0 495 yJ1_charAt_3b067) (List.mem_of_getElem? (i := 38) rfl)), rfl⟩
set_option maxRecDepth 100000 in
theorem w_480 : Cond.static yJ1_charAt_3b067 ∈ lw_ok := List.mem_filter.mpr ⟨List.mem_of_getElem? (wl_3_ok (480, Cond.static yJ1_charAt_3b067) (List.mem_of_getElem? (i := 39) rfl)), rfl⟩
set_option maxRecDepth 100000 in
theorem w_481 : Cond.code yJ1_charAt_3b067 cJ1_charAt_3b067 2 (some .char) ∈ lw_ok := List.mem_filter.mpr ⟨List.mem_of_getElem? (wl_3_ok (481, Cond.code yJ1_charAt_3b067 cJ1_charAt_3b067 2 (some .char)) (List.mem_of_getElem? (i := 40) rfl)), rfl⟩
set_option maxRecDepth 100000 in
theorem w_482 : Cond.methodLink RJ1 9 yJ0_checkIndex_df160 ∈ lw_ok := List.mem_filter.mpr ⟨List.mem_of_getElem? (wl_3_ok (482, Cond.methodLink RJ1 9 yJ0_checkIndex_df160) (List.mem_of_getElem? (i := 41) rfl)), rfl⟩
set_option maxRecDepth 100000 in
theorem w_483 : Cond.static yJ0_checkIndex_df160 ∈ lw_ok := List.mem_filter.mpr ⟨List.mem_of_getElem? (wl_3_ok (483, Cond.static yJ0_checkIndex_df160) (List.mem_of_getElem? (i := 42) rfl)), rfl⟩
set_option maxRecDepth 100000 in
theorem w_484 : Cond.code yJ0_checkIndex_df160 cJ0_checkIndex_df160 2 none ∈ lw_ok := List.mem_filter.mpr ⟨List.mem_of_getElem? (wl_3_ok (484, Cond.code yJ0_checkIndex_df160 cJ0_checkIndex_df160 2 none) (List.mem_of_getElem? (i := 43) rfl)), rfl⟩
set_option maxRecDepth 100000 in
theorem w_485 : Cond.fieldLink RJ0 1053 "jdk/internal/util/Preconditions" "SIOOBE_FORMATTER" "Ljava/util/function/BiFunction;" ∈ lw_ok := List.mem_filter.mpr ⟨List.mem_of_getElem? (wl_3_ok (485, Cond.fieldLink RJ0 1053 "jdk/internal/util/Preconditions" "SIOOBE_FORMATTER" "Ljava/util/function/BiFunction;") (List.mem_of_getElem? (i := 44) rfl)), rfl⟩
set_option maxRecDepth 100000 in
theorem w_487 : Cond.methodLink RJ0 1059 yJ3_checkIndex_8e157 ∈ lw_ok := List.mem_filter.mpr ⟨List.mem_of_getElem? (wl_3_ok (487, Cond.methodLink RJ0 1059 yJ3_checkIndex_8e157) (List.mem_of_getElem? (i := 45) rfl)), rfl⟩
set_option maxRecDepth 100000 in
theorem w_488 : Cond.static yJ3_checkIndex_8e157 ∈ lw_ok := List.mem_filter.mpr ⟨List.mem_of_getElem? (wl_3_ok (488, Cond.static yJ3_checkIndex_8e157) (List.mem_of_getElem? (i := 46) rfl)), rfl⟩
set_option maxRecDepth 100000 in
theorem w_489 : Cond.code yJ3_checkIndex_8e157 cJ3_checkIndex_8e157 3 (some .int) ∈ lw_ok := List.mem_filter.mpr ⟨List.mem_of_getElem? (wl_3_ok (489, Cond.code yJ3_checkIndex_8e157 cJ3_checkIndex_8e157 3 (some .int)) (List.mem_of_getElem? (i := 47) rfl)), rfl⟩
set_option maxRecDepth 100000 in
theorem w_490 : Cond.methodLink RJ0 498 yJ2_charAt_3b067 ∈ lw_ok := List.mem_filter.mpr ⟨List.mem_of_getElem? (wl_3_ok (490, Cond.methodLink RJ0 498 yJ2_charAt_3b067) (List.mem_of_getElem? (i := 48) rfl)), rfl⟩
set_option maxRecDepth 100000 in
theorem w_491 : Cond.static yJ2_charAt_3b067 ∈ lw_ok := List.mem_filter.mpr ⟨List.mem_of_getElem? (wl_3_ok (491, Cond.static yJ2_charAt_3b067) (List.mem_of_getElem? (i := 49) rfl)), rfl⟩
set_option maxRecDepth 100000 in
theorem w_492 : Cond.code yJ2_charAt_3b067 cJ2_charAt_3b067 2 (some .char) ∈ lw_ok := List.mem_filter.mpr ⟨List.mem_of_getElem? (wl_3_ok (492, Cond.code yJ2_charAt_3b067 cJ2_charAt_3b067 2 (some .char)) (List.mem_of_getElem? (i := 50) rfl)), rfl⟩
set_option maxRecDepth 100000 in
theorem w_493 : Cond.methodLink RJ2 67 yJ2_checkIndex_2214a ∈ lw_ok := List.mem_filter.mpr ⟨List.mem_of_getElem? (wl_3_ok (493, Cond.methodLink RJ2 67 yJ2_checkIndex_2214a) (List.mem_of_getElem? (i := 51) rfl)), rfl⟩
set_option maxRecDepth 100000 in
theorem w_494 : Cond.static yJ2_checkIndex_2214a ∈ lw_ok := List.mem_filter.mpr ⟨List.mem_of_getElem? (wl_3_ok (494, Cond.static yJ2_checkIndex_2214a) (List.mem_of_getElem? (i := 52) rfl)), rfl⟩
set_option maxRecDepth 100000 in
theorem w_495 : Cond.code yJ2_checkIndex_2214a cJ2_checkIndex_2214a 2 none ∈ lw_ok := List.mem_filter.mpr ⟨List.mem_of_getElem? (wl_3_ok (495, Cond.code yJ2_checkIndex_2214a cJ2_checkIndex_2214a 2 none) (List.mem_of_getElem? (i := 53) rfl)), rfl⟩
set_option maxRecDepth 100000 in
theorem w_496 : Cond.methodLink RJ2 48 yJ2_length_9d52b ∈ lw_ok := List.mem_filter.mpr ⟨List.mem_of_getElem? (wl_3_ok (496, Cond.methodLink RJ2 48 yJ2_length_9d52b) (List.mem_of_getElem? (i := 54) rfl)), rfl⟩
set_option maxRecDepth 100000 in
theorem w_497 : Cond.static yJ2_length_9d52b ∈ lw_ok := List.mem_filter.mpr ⟨List.mem_of_getElem? (wl_3_ok (497, Cond.static yJ2_length_9d52b) (List.mem_of_getElem? (i := 55) rfl)), rfl⟩
set_option maxRecDepth 100000 in
theorem w_498 : Cond.code yJ2_length_9d52b cJ2_length_9d52b 1 (some .int) ∈ lw_ok := List.mem_filter.mpr ⟨List.mem_of_getElem? (wl_3_ok (498, Cond.code yJ2_length_9d52b cJ2_length_9d52b 1 (some .int)) (List.mem_of_getElem? (i := 56) rfl)), rfl⟩
set_option maxRecDepth 100000 in
theorem w_499 : Cond.methodLink RJ2 414 yJ0_checkIndex_df160 ∈ lw_ok := List.mem_filter.mpr ⟨List.mem_of_getElem? (wl_3_ok (499, Cond.methodLink RJ2 414 yJ0_checkIndex_df160) (List.mem_of_getElem? (i := 57) rfl)), rfl⟩
set_option maxRecDepth 100000 in
theorem w_500 : Cond.methodLink RJ2 71 yJ2_getChar_3b067 ∈ lw_ok := List.mem_filter.mpr ⟨List.mem_of_getElem? (wl_3_ok (500, Cond.methodLink RJ2 71 yJ2_getChar_3b067) (List.mem_of_getElem? (i := 58) rfl)), rfl⟩
set_option maxRecDepth 100000 in
theorem w_501 : Cond.static yJ2_getChar_3b067 ∈ lw_ok := List.mem_filter.mpr ⟨List.mem_of_getElem? (wl_3_ok (501, Cond.static yJ2_getChar_3b067) (List.mem_of_getElem? (i := 59) rfl)), rfl⟩
set_option maxRecDepth 100000 in
theorem w_502 : Cond.code yJ2_getChar_3b067 cJ2_getChar_3b067 2 (some .char) ∈ lw_ok := List.mem_filter.mpr ⟨List.mem_of_getElem? (wl_3_ok (502, Cond.code yJ2_getChar_3b067 cJ2_getChar_3b067 2 (some .char)) (List.mem_of_getElem? (i := 60) rfl)), rfl⟩
set_option maxRecDepth 100000 in
theorem w_503 : Cond.fieldLink RJ2 44 "java/lang/StringUTF16" "$assertionsDisabled" "Z" ∈ lw_ok := List.mem_filter.mpr ⟨List.mem_of_getElem? (wl_3_ok (503, Cond.fieldLink RJ2 44 "java/lang/StringUTF16" "$assertionsDisabled" "Z") (List.mem_of_getElem? (i := 61) rfl)), rfl⟩
set_option maxRecDepth 100000 in
theorem w_505 : Cond.fieldLink RJ2 59 "java/lang/StringUTF16" "HI_BYTE_SHIFT" "I" ∈ lw_ok := List.mem_filter.mpr ⟨List.mem_of_getElem? (wl_3_ok (505, Cond.fieldLink RJ2 59 "java/lang/StringUTF16" "HI_BYTE_SHIFT" "I") (List.mem_of_getElem? (i := 62) rfl)), rfl⟩
set_option maxRecDepth 100000 in
theorem w_507 : Cond.fieldLink RJ2 63 "java/lang/StringUTF16" "LO_BYTE_SHIFT" "I" ∈ lw_ok := List.mem_filter.mpr ⟨List.mem_of_getElem? (wl_3_ok (507, Cond.fieldLink RJ2 63 "java/lang/StringUTF16" "LO_BYTE_SHIFT" "I") (List.mem_of_getElem? (i := 63) rfl)), rfl⟩
set_option maxRecDepth 100000 in
theorem w_510 : Cond.methodLink RX7 79 yX7_ifWord ∈ lw_ok := List.mem_filter.mpr ⟨List.mem_of_getElem? (wl_3_ok (510, Cond.methodLink RX7 79 yX7_ifWord) (List.mem_of_getElem? (i := 64) rfl)), rfl⟩
set_option maxRecDepth 100000 in
theorem w_511 : Cond.static yX7_ifWord ∈ lw_ok := List.mem_filter.mpr ⟨List.mem_of_getElem? (wl_3_ok (511, Cond.static yX7_ifWord) (List.mem_of_getElem? (i := 65) rfl)), rfl⟩
set_option maxRecDepth 100000 in
theorem w_512 : Cond.code yX7_ifWord cX7_ifWord 5 (some .int) ∈ lw_ok := List.mem_filter.mpr ⟨List.mem_of_getElem? (wl_3_ok (512, Cond.code yX7_ifWord cX7_ifWord 5 (some .int)) (List.mem_of_getElem? (i := 66) rfl)), rfl⟩
set_option maxRecDepth 100000 in
theorem w_520 : Cond.methodLink RX7 46 yX7_add ∈ lw_ok := List.mem_filter.mpr ⟨List.mem_of_getElem? (wl_3_ok (520, Cond.methodLink RX7 46 yX7_add) (List.mem_of_getElem? (i := 67) rfl)), rfl⟩
set_option maxRecDepth 100000 in
theorem w_522 : Cond.instanceMethod yX7_add ∈ lw_ok := List.mem_filter.mpr ⟨List.mem_of_getElem? (wl_3_ok (522, Cond.instanceMethod yX7_add) (List.mem_of_getElem? (i := 68) rfl)), rfl⟩
set_option maxRecDepth 100000 in
theorem w_523 : Cond.code yX7_add cX7_add 4 none ∈ lw_ok := List.mem_filter.mpr ⟨List.mem_of_getElem? (wl_3_ok (523, Cond.code yX7_add cX7_add 4 none) (List.mem_of_getElem? (i := 69) rfl)), rfl⟩
set_option maxRecDepth 100000 in
theorem w_524 : Cond.methodLink RX7 50 yX7_isDigit ∈ lw_ok := List.mem_filter.mpr ⟨List.mem_of_getElem? (wl_3_ok (524, Cond.methodLink RX7 50 yX7_isDigit) (List.mem_of_getElem? (i := 70) rfl)), rfl⟩
set_option maxRecDepth 100000 in
theorem w_525 : Cond.static yX7_isDigit ∈ lw_ok := List.mem_filter.mpr ⟨List.mem_of_getElem? (wl_3_ok (525, Cond.static yX7_isDigit) (List.mem_of_getElem? (i := 71) rfl)), rfl⟩
set_option maxRecDepth 100000 in
theorem w_526 : Cond.code yX7_isDigit cX7_isDigit 1 (some .boolean) ∈ lw_ok := List.mem_filter.mpr ⟨List.mem_of_getElem? (wl_3_ok (526, Cond.code yX7_isDigit cX7_isDigit 1 (some .boolean)) (List.mem_of_getElem? (i := 72) rfl)), rfl⟩
set_option maxRecDepth 100000 in
theorem w_527 : Cond.methodLink RX7 53 yX7_numberEnd ∈ lw_ok := List.mem_filter.mpr ⟨List.mem_of_getElem? (wl_3_ok (527, Cond.methodLink RX7 53 yX7_numberEnd) (List.mem_of_getElem? (i := 73) rfl)), rfl⟩
set_option maxRecDepth 100000 in
theorem w_528 : Cond.static yX7_numberEnd ∈ lw_ok := List.mem_filter.mpr ⟨List.mem_of_getElem? (wl_3_ok (528, Cond.static yX7_numberEnd) (List.mem_of_getElem? (i := 74) rfl)), rfl⟩
set_option maxRecDepth 100000 in
theorem w_529 : Cond.code yX7_numberEnd cX7_numberEnd 3 (some .int) ∈ lw_ok := List.mem_filter.mpr ⟨List.mem_of_getElem? (wl_3_ok (529, Cond.code yX7_numberEnd cX7_numberEnd 3 (some .int)) (List.mem_of_getElem? (i := 75) rfl)), rfl⟩
set_option maxRecDepth 100000 in
theorem w_530 : Cond.methodLink RX7 56 yX7_valueOf ∈ lw_ok := List.mem_filter.mpr ⟨List.mem_of_getElem? (wl_3_ok (530, Cond.methodLink RX7 56 yX7_valueOf) (List.mem_of_getElem? (i := 76) rfl)), rfl⟩
set_option maxRecDepth 100000 in
theorem w_531 : Cond.static yX7_valueOf ∈ lw_ok := List.mem_filter.mpr ⟨List.mem_of_getElem? (wl_3_ok (531, Cond.static yX7_valueOf) (List.mem_of_getElem? (i := 77) rfl)), rfl⟩
set_option maxRecDepth 100000 in
theorem w_532 : Cond.code yX7_valueOf cX7_valueOf 5 (some .int) ∈ lw_ok := List.mem_filter.mpr ⟨List.mem_of_getElem? (wl_3_ok (532, Cond.code yX7_valueOf cX7_valueOf 5 (some .int)) (List.mem_of_getElem? (i := 78) rfl)), rfl⟩
set_option maxRecDepth 100000 in
theorem w_533 : Cond.methodLink RX7 68 yJ9_min_7cf53 ∈ lw_ok := List.mem_filter.mpr ⟨List.mem_of_getElem? (wl_3_ok (533, Cond.methodLink RX7 68 yJ9_min_7cf53) (List.mem_of_getElem? (i := 79) rfl)), rfl⟩
set_option maxRecDepth 100000 in
theorem w_534 : Cond.static yJ9_min_7cf53 ∈ lw_ok := List.mem_filter.mpr ⟨List.mem_of_getElem? (wl_3_ok (534, Cond.static yJ9_min_7cf53) (List.mem_of_getElem? (i := 80) rfl)), rfl⟩
set_option maxRecDepth 100000 in
theorem w_535 : Cond.code yJ9_min_7cf53 cJ9_min_7cf53 2 (some .int) ∈ lw_ok := List.mem_filter.mpr ⟨List.mem_of_getElem? (wl_3_ok (535, Cond.code yJ9_min_7cf53 cJ9_min_7cf53 2 (some .int)) (List.mem_of_getElem? (i := 81) rfl)), rfl⟩
set_option maxRecDepth 100000 in
theorem w_536 : Cond.methodLink RX7 59 yX7_isBlank ∈ lw_ok := List.mem_filter.mpr ⟨List.mem_of_getElem? (wl_3_ok (536, Cond.methodLink RX7 59 yX7_isBlank) (List.mem_of_getElem? (i := 82) rfl)), rfl⟩
set_option maxRecDepth 100000 in
theorem w_537 : Cond.static yX7_isBlank ∈ lw_ok := List.mem_filter.mpr ⟨List.mem_of_getElem? (wl_3_ok (537, Cond.static yX7_isBlank) (List.mem_of_getElem? (i := 83) rfl)), rfl⟩
set_option maxRecDepth 100000 in
theorem w_538 : Cond.code yX7_isBlank cX7_isBlank 1 (some .boolean) ∈ lw_ok := List.mem_filter.mpr ⟨List.mem_of_getElem? (wl_3_ok (538, Cond.code yX7_isBlank cX7_isBlank 1 (some .boolean)) (List.mem_of_getElem? (i := 84) rfl)), rfl⟩
set_option maxRecDepth 100000 in
theorem w_539 : Cond.methodLink RX7 62 yJ9_max_7cf53 ∈ lw_ok := List.mem_filter.mpr ⟨List.mem_of_getElem? (wl_3_ok (539, Cond.methodLink RX7 62 yJ9_max_7cf53) (List.mem_of_getElem? (i := 85) rfl)), rfl⟩
set_option maxRecDepth 100000 in
theorem w_540 : Cond.static yJ9_max_7cf53 ∈ lw_ok := List.mem_filter.mpr ⟨List.mem_of_getElem? (wl_3_ok (540, Cond.static yJ9_max_7cf53) (List.mem_of_getElem? (i := 86) rfl)), rfl⟩
set_option maxRecDepth 100000 in
theorem w_541 : Cond.code yJ9_max_7cf53 cJ9_max_7cf53 2 (some .int) ∈ lw_ok := List.mem_filter.mpr ⟨List.mem_of_getElem? (wl_3_ok (541, Cond.code yJ9_max_7cf53 cJ9_max_7cf53 2 (some .int)) (List.mem_of_getElem? (i := 87) rfl)), rfl⟩
set_option maxRecDepth 100000 in
theorem w_542 : Cond.methodLink RX8 104 yX6_read ∈ lw_ok := List.mem_filter.mpr ⟨List.mem_of_getElem? (wl_3_ok (542, Cond.methodLink RX8 104 yX6_read) (List.mem_of_getElem? (i := 88) rfl)), rfl⟩
set_option maxRecDepth 100000 in
theorem w_543 : Cond.instanceMethod yX6_read ∈ lw_ok := List.mem_filter.mpr ⟨List.mem_of_getElem? (wl_3_ok (543, Cond.instanceMethod yX6_read) (List.mem_of_getElem? (i := 89) rfl)), rfl⟩
set_option maxRecDepth 100000 in
theorem w_544 : Cond.selects RX6 yX6_read yX6_read ∈ lw_ok := List.mem_filter.mpr ⟨List.mem_of_getElem? (wl_3_ok (544, Cond.selects RX6 yX6_read yX6_read) (List.mem_of_getElem? (i := 90) rfl)), rfl⟩
set_option maxRecDepth 100000 in
theorem w_545 : Cond.code yX6_read cX6_read 4 none ∈ lw_ok := List.mem_filter.mpr ⟨List.mem_of_getElem? (wl_3_ok (545, Cond.code yX6_read cX6_read 4 none) (List.mem_of_getElem? (i := 91) rfl)), rfl⟩
set_option maxRecDepth 100000 in
theorem w_546 : Cond.methodLink RX6 29 yX2_wipe ∈ lw_ok := List.mem_filter.mpr ⟨List.mem_of_getElem? (wl_3_ok (546, Cond.methodLink RX6 29 yX2_wipe) (List.mem_of_getElem? (i := 92) rfl)), rfl⟩
set_option maxRecDepth 100000 in
theorem w_547 : Cond.instanceMethod yX2_wipe ∈ lw_ok := List.mem_filter.mpr ⟨List.mem_of_getElem? (wl_3_ok (547, Cond.instanceMethod yX2_wipe) (List.mem_of_getElem? (i := 93) rfl)), rfl⟩
set_option maxRecDepth 100000 in
theorem w_548 : Cond.selects RX2 yX2_wipe yX2_wipe ∈ lw_ok := List.mem_filter.mpr ⟨List.mem_of_getElem? (wl_3_ok (548, Cond.selects RX2 yX2_wipe yX2_wipe) (List.mem_of_getElem? (i := 94) rfl)), rfl⟩
set_option maxRecDepth 100000 in
theorem w_549 : Cond.code yX2_wipe cX2_wipe 1 none ∈ lw_ok := List.mem_filter.mpr ⟨List.mem_of_getElem? (wl_3_ok (549, Cond.code yX2_wipe cX2_wipe 1 none) (List.mem_of_getElem? (i := 95) rfl)), rfl⟩
set_option maxRecDepth 100000 in
theorem w_550 : Cond.methodLink RX2 64 yX2_keepActs ∈ lw_ok := List.mem_filter.mpr ⟨List.mem_of_getElem? (wl_3_ok (550, Cond.methodLink RX2 64 yX2_keepActs) (List.mem_of_getElem? (i := 96) rfl)), rfl⟩
set_option maxRecDepth 100000 in
theorem w_551 : Cond.instanceMethod yX2_keepActs ∈ lw_ok := List.mem_filter.mpr ⟨List.mem_of_getElem? (wl_3_ok (551, Cond.instanceMethod yX2_keepActs) (List.mem_of_getElem? (i := 97) rfl)), rfl⟩
set_option maxRecDepth 100000 in
theorem w_552 : Cond.selects RX2 yX2_keepActs yX2_keepActs ∈ lw_ok := List.mem_filter.mpr ⟨List.mem_of_getElem? (wl_3_ok (552, Cond.selects RX2 yX2_keepActs yX2_keepActs) (List.mem_of_getElem? (i := 98) rfl)), rfl⟩
set_option maxRecDepth 100000 in
theorem w_553 : Cond.code yX2_keepActs cX2_keepActs 4 none ∈ lw_ok := List.mem_filter.mpr ⟨List.mem_of_getElem? (wl_3_ok (553, Cond.code yX2_keepActs cX2_keepActs 4 none) (List.mem_of_getElem? (i := 99) rfl)), rfl⟩
def wl_4 : List (Nat × Cond) := [(554, Cond.methodLink RX2 74 yJ9_min_7cf53), (555, Cond.methodLink RX2 80 yJ7_fill_53178), (556, Cond.static yJ7_fill_53178), (557, Cond.code yJ7_fill_53178 cJ7_fill_53178 4 none), (558, Cond.methodLink RX6 37 yX6_step), (560, Cond.instanceMethod yX6_step), (561, Cond.code yX6_step cX6_step 2 none), (562, Cond.methodLink RX6 41 yX6_readLine), (564, Cond.instanceMethod yX6_readLine), (565, Cond.code yX6_readLine cX6_readLine 3 (some .boolean)), (566, Cond.methodLink RX6 48 yX6_readHead), (568, Cond.instanceMethod yX6_readHead), (569, Cond.code yX6_readHead cX6_readHead 3 (some .boolean)), (570, Cond.methodLink RX6 61 yX6_readPair), (572, Cond.instanceMethod yX6_readPair), (573, Cond.code yX6_readPair cX6_readPair 5 (some .boolean)), (574, Cond.methodLink RX6 84 yX6_readNumber), (576, Cond.instanceMethod yX6_readNumber), (577, Cond.code yX6_readNumber cX6_readNumber 4 (some .boolean)), (578, Cond.methodLink RX6 51 yX6_fail), (580, Cond.instanceMethod yX6_fail), (581, Cond.code yX6_fail cX6_fail 2 (some .boolean)), (582, Cond.methodLink RX6 77 yX6_isSign), (584, Cond.instanceMethod yX6_isSign), (585, Cond.code yX6_isSign cX6_isSign 1 (some .boolean)), (586, Cond.methodLink RX6 55 yX6_readSpan), (588, Cond.instanceMethod yX6_readSpan), (589, Cond.code yX6_readSpan cX6_readSpan 4 (some .boolean)), (590, Cond.methodLink RX6 58 yX6_readWet), (592, Cond.instanceMethod yX6_readWet), (593, Cond.code yX6_readWet cX6_readWet 3 (some .boolean)), (594, Cond.methodLink RX8 114 yX2_take), (595, Cond.instanceMethod yX2_take), (596, Cond.selects RX2 yX2_take yX2_take), (597, Cond.code yX2_take cX2_take 2 none), (598, Cond.methodLink RX2 68 arraycopyName), (599, Cond.static arraycopyName), (600, Cond.native arraycopyName), (601, Cond.methodLink "LeakyLineLaw" 28 yX8_fault), (602, Cond.instanceMethod yX8_fault), (603, Cond.selects RX8 yX8_fault yX8_fault), (604, Cond.code yX8_fault cX8_fault 2 (some .int)), (605, Cond.methodLink "LeakyLineLaw" 32 yX8_span), (606, Cond.instanceMethod yX8_span), (607, Cond.selects RX8 yX8_span yX8_span), (608, Cond.code yX8_span cX8_span 3 (some .int)), (609, Cond.methodLink RX8 121 yX8_isPole), (611, Cond.instanceMethod yX8_isPole), (612, Cond.code yX8_isPole cX8_isPole 2 (some .boolean)), (613, Cond.methodLink "LeakyLineLaw" 37 yX8_stations), (614, Cond.instanceMethod yX8_stations), (615, Cond.selects RX8 yX8_stations yX8_stations), (616, Cond.code yX8_stations cX8_stations 1 (some .int)), (617, Cond.methodLink RX8 134 yX8_isTold), (619, Cond.instanceMethod yX8_isTold), (620, Cond.code yX8_isTold cX8_isTold 1 (some .boolean)), (621, Cond.methodLink RX8 138 yX2_stationBits), (622, Cond.instanceMethod yX2_stationBits), (623, Cond.selects RX2 yX2_stationBits yX2_stationBits), (624, Cond.code yX2_stationBits cX2_stationBits 3 (some .int)), (625, Cond.methodLink "LeakyLineLaw" 41 yX8_wets), (626, Cond.instanceMethod yX8_wets), (627, Cond.selects RX8 yX8_wets yX8_wets), (628, Cond.code yX8_wets cX8_wets 1 (some .int)), (629, Cond.methodLink "LeakyLineLaw" 45 yX8_leak), (630, Cond.instanceMethod yX8_leak), (631, Cond.selects RX8 yX8_leak yX8_leak), (632, Cond.code yX8_leak cX8_leak 3 (some .int)), (633, Cond.methodLink RX8 145 yX8_isDay), (635, Cond.instanceMethod yX8_isDay), (636, Cond.code yX8_isDay cX8_isDay 2 (some .boolean)), (637, Cond.methodLink RX8 148 yX4_asTold), (638, Cond.instanceMethod yX4_asTold), (639, Cond.selects RX4 yX4_asTold yX4_asTold), (640, Cond.code yX4_asTold cX4_asTold 2 none), (641, Cond.methodLink RX4 36 arraycopyName), (642, Cond.methodLink RX8 151 yX4_leakOn), (643, Cond.instanceMethod yX4_leakOn), (644, Cond.selects RX4 yX4_leakOn yX4_leakOn), (645, Cond.code yX4_leakOn cX4_leakOn 6 (some .int)), (646, Cond.methodLink RX4 43 yX2_latestCup), (647, Cond.instanceMethod yX2_latestCup), (648, Cond.selects RX2 yX2_latestCup yX2_latestCup), (649, Cond.code yX2_latestCup cX2_latestCup 4 (some .int)), (650, Cond.methodLink RX2 86 yJ6_numberOfLeadingZeros_0f7a4), (651, Cond.static yJ6_numberOfLeadingZeros_0f7a4), (652, Cond.code yJ6_numberOfLeadingZeros_0f7a4 cJ6_numberOfLeadingZeros_0f7a4 2 (some .int)), (653, Cond.constant RJ6 264 65536), (655, Cond.static yX8_hasBit), (656, Cond.code yX8_hasBit cX8_hasBit 2 (some .boolean)), (657, Cond.methodLink RX4 51 yX4_isWet), (659, Cond.instanceMethod yX4_isWet), (660, Cond.code yX4_isWet cX4_isWet 2 (some .boolean)), (661, Cond.methodLink RX4 55 yX4_halved), (662, Cond.static yX4_halved), (663, Cond.code yX4_halved cX4_halved 1 (some .int)), (664, Cond.methodLink RX4 59 yJ9_max_7cf53), (665, Cond.methodLink RX4 64 yX4_wetDays), (667, Cond.instanceMethod yX4_wetDays), (668, Cond.code yX4_wetDays cX4_wetDays 3 (some .int))]
set_option maxRecDepth 100000 in
theorem wl_4_ok : ∀ x ∈ wl_4, lw_tbl[x.1]? = some x.2 := by decide +kernel
set_option maxRecDepth 100000 in
theorem w_554 : Cond.methodLink RX2 74 yJ9_min_7cf53 ∈ lw_ok := List.mem_filter.mpr ⟨List.mem_of_getElem? (wl_4_ok (554, Cond.methodLink RX2 74 yJ9_min_7cf53) (List.mem_of_getElem? (i := 0) rfl)), rfl⟩
set_option maxRecDepth 100000 in
theorem w_555 : Cond.methodLink RX2 80 yJ7_fill_53178 ∈ lw_ok := List.mem_filter.mpr ⟨List.mem_of_getElem? (wl_4_ok (555, Cond.methodLink RX2 80 yJ7_fill_53178) (List.mem_of_getElem? (i := 1) rfl)), rfl⟩
set_option maxRecDepth 100000 in
theorem w_556 : Cond.static yJ7_fill_53178 ∈ lw_ok := List.mem_filter.mpr ⟨List.mem_of_getElem? (wl_4_ok (556, Cond.static yJ7_fill_53178) (List.mem_of_getElem? (i := 2) rfl)), rfl⟩
set_option maxRecDepth 100000 in
theorem w_557 : Cond.code yJ7_fill_53178 cJ7_fill_53178 4 none ∈ lw_ok := List.mem_filter.mpr ⟨List.mem_of_getElem? (wl_4_ok (557, Cond.code yJ7_fill_53178 cJ7_fill_53178 4 none) (List.mem_of_getElem? (i := 3) rfl)), rfl⟩
set_option maxRecDepth 100000 in
theorem w_558 : Cond.methodLink RX6 37 yX6_step ∈ lw_ok := List.mem_filter.mpr ⟨List.mem_of_getElem? (wl_4_ok (558, Cond.methodLink RX6 37 yX6_step) (List.mem_of_getElem? (i := 4) rfl)), rfl⟩
set_option maxRecDepth 100000 in
theorem w_560 : Cond.instanceMethod yX6_step ∈ lw_ok := List.mem_filter.mpr ⟨List.mem_of_getElem? (wl_4_ok (560, Cond.instanceMethod yX6_step) (List.mem_of_getElem? (i := 5) rfl)), rfl⟩
set_option maxRecDepth 100000 in
theorem w_561 : Cond.code yX6_step cX6_step 2 none ∈ lw_ok := List.mem_filter.mpr ⟨List.mem_of_getElem? (wl_4_ok (561, Cond.code yX6_step cX6_step 2 none) (List.mem_of_getElem? (i := 6) rfl)), rfl⟩
set_option maxRecDepth 100000 in
theorem w_562 : Cond.methodLink RX6 41 yX6_readLine ∈ lw_ok := List.mem_filter.mpr ⟨List.mem_of_getElem? (wl_4_ok (562, Cond.methodLink RX6 41 yX6_readLine) (List.mem_of_getElem? (i := 7) rfl)), rfl⟩
set_option maxRecDepth 100000 in
theorem w_564 : Cond.instanceMethod yX6_readLine ∈ lw_ok := List.mem_filter.mpr ⟨List.mem_of_getElem? (wl_4_ok (564, Cond.instanceMethod yX6_readLine) (List.mem_of_getElem? (i := 8) rfl)), rfl⟩
set_option maxRecDepth 100000 in
theorem w_565 : Cond.code yX6_readLine cX6_readLine 3 (some .boolean) ∈ lw_ok := List.mem_filter.mpr ⟨List.mem_of_getElem? (wl_4_ok (565, Cond.code yX6_readLine cX6_readLine 3 (some .boolean)) (List.mem_of_getElem? (i := 9) rfl)), rfl⟩
set_option maxRecDepth 100000 in
theorem w_566 : Cond.methodLink RX6 48 yX6_readHead ∈ lw_ok := List.mem_filter.mpr ⟨List.mem_of_getElem? (wl_4_ok (566, Cond.methodLink RX6 48 yX6_readHead) (List.mem_of_getElem? (i := 10) rfl)), rfl⟩
set_option maxRecDepth 100000 in
theorem w_568 : Cond.instanceMethod yX6_readHead ∈ lw_ok := List.mem_filter.mpr ⟨List.mem_of_getElem? (wl_4_ok (568, Cond.instanceMethod yX6_readHead) (List.mem_of_getElem? (i := 11) rfl)), rfl⟩
set_option maxRecDepth 100000 in
theorem w_569 : Cond.code yX6_readHead cX6_readHead 3 (some .boolean) ∈ lw_ok := List.mem_filter.mpr ⟨List.mem_of_getElem? (wl_4_ok (569, Cond.code yX6_readHead cX6_readHead 3 (some .boolean)) (List.mem_of_getElem? (i := 12) rfl)), rfl⟩
set_option maxRecDepth 100000 in
theorem w_570 : Cond.methodLink RX6 61 yX6_readPair ∈ lw_ok := List.mem_filter.mpr ⟨List.mem_of_getElem? (wl_4_ok (570, Cond.methodLink RX6 61 yX6_readPair) (List.mem_of_getElem? (i := 13) rfl)), rfl⟩
set_option maxRecDepth 100000 in
theorem w_572 : Cond.instanceMethod yX6_readPair ∈ lw_ok := List.mem_filter.mpr ⟨List.mem_of_getElem? (wl_4_ok (572, Cond.instanceMethod yX6_readPair) (List.mem_of_getElem? (i := 14) rfl)), rfl⟩
set_option maxRecDepth 100000 in
theorem w_573 : Cond.code yX6_readPair cX6_readPair 5 (some .boolean) ∈ lw_ok := List.mem_filter.mpr ⟨List.mem_of_getElem? (wl_4_ok (573, Cond.code yX6_readPair cX6_readPair 5 (some .boolean)) (List.mem_of_getElem? (i := 15) rfl)), rfl⟩
set_option maxRecDepth 100000 in
theorem w_574 : Cond.methodLink RX6 84 yX6_readNumber ∈ lw_ok := List.mem_filter.mpr ⟨List.mem_of_getElem? (wl_4_ok (574, Cond.methodLink RX6 84 yX6_readNumber) (List.mem_of_getElem? (i := 16) rfl)), rfl⟩
set_option maxRecDepth 100000 in
theorem w_576 : Cond.instanceMethod yX6_readNumber ∈ lw_ok := List.mem_filter.mpr ⟨List.mem_of_getElem? (wl_4_ok (576, Cond.instanceMethod yX6_readNumber) (List.mem_of_getElem? (i := 17) rfl)), rfl⟩
set_option maxRecDepth 100000 in
theorem w_577 : Cond.code yX6_readNumber cX6_readNumber 4 (some .boolean) ∈ lw_ok := List.mem_filter.mpr ⟨List.mem_of_getElem? (wl_4_ok (577, Cond.code yX6_readNumber cX6_readNumber 4 (some .boolean)) (List.mem_of_getElem? (i := 18) rfl)), rfl⟩
set_option maxRecDepth 100000 in
theorem w_578 : Cond.methodLink RX6 51 yX6_fail ∈ lw_ok := List.mem_filter.mpr ⟨List.mem_of_getElem? (wl_4_ok (578, Cond.methodLink RX6 51 yX6_fail) (List.mem_of_getElem? (i := 19) rfl)), rfl⟩
set_option maxRecDepth 100000 in
theorem w_580 : Cond.instanceMethod yX6_fail ∈ lw_ok := List.mem_filter.mpr ⟨List.mem_of_getElem? (wl_4_ok (580, Cond.instanceMethod yX6_fail) (List.mem_of_getElem? (i := 20) rfl)), rfl⟩
set_option maxRecDepth 100000 in
theorem w_581 : Cond.code yX6_fail cX6_fail 2 (some .boolean) ∈ lw_ok := List.mem_filter.mpr ⟨List.mem_of_getElem? (wl_4_ok (581, Cond.code yX6_fail cX6_fail 2 (some .boolean)) (List.mem_of_getElem? (i := 21) rfl)), rfl⟩
set_option maxRecDepth 100000 in
theorem w_582 : Cond.methodLink RX6 77 yX6_isSign ∈ lw_ok := List.mem_filter.mpr ⟨List.mem_of_getElem? (wl_4_ok (582, Cond.methodLink RX6 77 yX6_isSign) (List.mem_of_getElem? (i := 22) rfl)), rfl⟩
set_option maxRecDepth 100000 in
theorem w_584 : Cond.instanceMethod yX6_isSign ∈ lw_ok := List.mem_filter.mpr ⟨List.mem_of_getElem? (wl_4_ok (584, Cond.instanceMethod yX6_isSign) (List.mem_of_getElem? (i := 23) rfl)), rfl⟩
set_option maxRecDepth 100000 in
theorem w_585 : Cond.code yX6_isSign cX6_isSign 1 (some .boolean) ∈ lw_ok := List.mem_filter.mpr ⟨List.mem_of_getElem? (wl_4_ok (585, Cond.code yX6_isSign cX6_isSign 1 (some .boolean)) (List.mem_of_getElem? (i := 24) rfl)), rfl⟩
set_option maxRecDepth 100000 in
theorem w_586 : Cond.methodLink RX6 55 yX6_readSpan ∈ lw_ok := List.mem_filter.mpr ⟨List.mem_of_getElem? (wl_4_ok (586, Cond.methodLink RX6 55 yX6_readSpan) (List.mem_of_getElem? (i := 25) rfl)), rfl⟩
set_option maxRecDepth 100000 in
theorem w_588 : Cond.instanceMethod yX6_readSpan ∈ lw_ok := List.mem_filter.mpr ⟨List.mem_of_getElem? (wl_4_ok (588, Cond.instanceMethod yX6_readSpan) (List.mem_of_getElem? (i := 26) rfl)), rfl⟩
set_option maxRecDepth 100000 in
theorem w_589 : Cond.code yX6_readSpan cX6_readSpan 4 (some .boolean) ∈ lw_ok := List.mem_filter.mpr ⟨List.mem_of_getElem? (wl_4_ok (589, Cond.code yX6_readSpan cX6_readSpan 4 (some .boolean)) (List.mem_of_getElem? (i := 27) rfl)), rfl⟩
set_option maxRecDepth 100000 in
theorem w_590 : Cond.methodLink RX6 58 yX6_readWet ∈ lw_ok := List.mem_filter.mpr ⟨List.mem_of_getElem? (wl_4_ok (590, Cond.methodLink RX6 58 yX6_readWet) (List.mem_of_getElem? (i := 28) rfl)), rfl⟩
set_option maxRecDepth 100000 in
theorem w_592 : Cond.instanceMethod yX6_readWet ∈ lw_ok := List.mem_filter.mpr ⟨List.mem_of_getElem? (wl_4_ok (592, Cond.instanceMethod yX6_readWet) (List.mem_of_getElem? (i := 29) rfl)), rfl⟩
set_option maxRecDepth 100000 in
theorem w_593 : Cond.code yX6_readWet cX6_readWet 3 (some .boolean) ∈ lw_ok := List.mem_filter.mpr ⟨List.mem_of_getElem? (wl_4_ok (593, Cond.code yX6_readWet cX6_readWet 3 (some .boolean)) (List.mem_of_getElem? (i := 30) rfl)), rfl⟩
set_option maxRecDepth 100000 in
theorem w_594 : Cond.methodLink RX8 114 yX2_take ∈ lw_ok := List.mem_filter.mpr ⟨List.mem_of_getElem? (wl_4_ok (594, Cond.methodLink RX8 114 yX2_take) (List.mem_of_getElem? (i := 31) rfl)), rfl⟩
set_option maxRecDepth 100000 in
theorem w_595 : Cond.instanceMethod yX2_take ∈ lw_ok := List.mem_filter.mpr ⟨List.mem_of_getElem? (wl_4_ok (595, Cond.instanceMethod yX2_take) (List.mem_of_getElem? (i := 32) rfl)), rfl⟩
set_option maxRecDepth 100000 in
theorem w_596 : Cond.selects RX2 yX2_take yX2_take ∈ lw_ok := List.mem_filter.mpr ⟨List.mem_of_getElem? (wl_4_ok (596, Cond.selects RX2 yX2_take yX2_take) (List.mem_of_getElem? (i := 33) rfl)), rfl⟩
set_option maxRecDepth 100000 in
theorem w_597 : Cond.code yX2_take cX2_take 2 none ∈ lw_ok := List.mem_filter.mpr ⟨List.mem_of_getElem? (wl_4_ok (597, Cond.code yX2_take cX2_take 2 none) (List.mem_of_getElem? (i := 34) rfl)), rfl⟩
set_option maxRecDepth 100000 in
theorem w_598 : Cond.methodLink RX2 68 arraycopyName ∈ lw_ok := List.mem_filter.mpr ⟨List.mem_of_getElem? (wl_4_ok (598, Cond.methodLink RX2 68 arraycopyName) (List.mem_of_getElem? (i := 35) rfl)), rfl⟩
set_option maxRecDepth 100000 in
theorem w_599 : Cond.static arraycopyName ∈ lw_ok := List.mem_filter.mpr ⟨List.mem_of_getElem? (wl_4_ok (599, Cond.static arraycopyName) (List.mem_of_getElem? (i := 36) rfl)), rfl⟩
set_option maxRecDepth 100000 in
theorem w_600 : Cond.native arraycopyName ∈ lw_ok := List.mem_filter.mpr ⟨List.mem_of_getElem? (wl_4_ok (600, Cond.native arraycopyName) (List.mem_of_getElem? (i := 37) rfl)), rfl⟩
set_option maxRecDepth 100000 in
theorem w_601 : Cond.methodLink "LeakyLineLaw" 28 yX8_fault ∈ lw_ok := List.mem_filter.mpr ⟨List.mem_of_getElem? (wl_4_ok (601, Cond.methodLink "LeakyLineLaw" 28 yX8_fault) (List.mem_of_getElem? (i := 38) rfl)), rfl⟩
set_option maxRecDepth 100000 in
theorem w_602 : Cond.instanceMethod yX8_fault ∈ lw_ok := List.mem_filter.mpr ⟨List.mem_of_getElem? (wl_4_ok (602, Cond.instanceMethod yX8_fault) (List.mem_of_getElem? (i := 39) rfl)), rfl⟩
set_option maxRecDepth 100000 in
theorem w_603 : Cond.selects RX8 yX8_fault yX8_fault ∈ lw_ok := List.mem_filter.mpr ⟨List.mem_of_getElem? (wl_4_ok (603, Cond.selects RX8 yX8_fault yX8_fault) (List.mem_of_getElem? (i := 40) rfl)), rfl⟩
set_option maxRecDepth 100000 in
theorem w_604 : Cond.code yX8_fault cX8_fault 2 (some .int) ∈ lw_ok := List.mem_filter.mpr ⟨List.mem_of_getElem? (wl_4_ok (604, Cond.code yX8_fault cX8_fault 2 (some .int)) (List.mem_of_getElem? (i := 41) rfl)), rfl⟩
set_option maxRecDepth 100000 in
theorem w_605 : Cond.methodLink "LeakyLineLaw" 32 yX8_span ∈ lw_ok := List.mem_filter.mpr ⟨List.mem_of_getElem? (wl_4_ok (605, Cond.methodLink "LeakyLineLaw" 32 yX8_span) (List.mem_of_getElem? (i := 42) rfl)), rfl⟩
set_option maxRecDepth 100000 in
theorem w_606 : Cond.instanceMethod yX8_span ∈ lw_ok := List.mem_filter.mpr ⟨List.mem_of_getElem? (wl_4_ok (606, Cond.instanceMethod yX8_span) (List.mem_of_getElem? (i := 43) rfl)), rfl⟩
set_option maxRecDepth 100000 in
theorem w_607 : Cond.selects RX8 yX8_span yX8_span ∈ lw_ok := List.mem_filter.mpr ⟨List.mem_of_getElem? (wl_4_ok (607, Cond.selects RX8 yX8_span yX8_span) (List.mem_of_getElem? (i := 44) rfl)), rfl⟩
set_option maxRecDepth 100000 in
theorem w_608 : Cond.code yX8_span cX8_span 3 (some .int) ∈ lw_ok := List.mem_filter.mpr ⟨List.mem_of_getElem? (wl_4_ok (608, Cond.code yX8_span cX8_span 3 (some .int)) (List.mem_of_getElem? (i := 45) rfl)), rfl⟩
set_option maxRecDepth 100000 in
theorem w_609 : Cond.methodLink RX8 121 yX8_isPole ∈ lw_ok := List.mem_filter.mpr ⟨List.mem_of_getElem? (wl_4_ok (609, Cond.methodLink RX8 121 yX8_isPole) (List.mem_of_getElem? (i := 46) rfl)), rfl⟩
set_option maxRecDepth 100000 in
theorem w_611 : Cond.instanceMethod yX8_isPole ∈ lw_ok := List.mem_filter.mpr ⟨List.mem_of_getElem? (wl_4_ok (611, Cond.instanceMethod yX8_isPole) (List.mem_of_getElem? (i := 47) rfl)), rfl⟩
set_option maxRecDepth 100000 in
theorem w_612 : Cond.code yX8_isPole cX8_isPole 2 (some .boolean) ∈ lw_ok := List.mem_filter.mpr ⟨List.mem_of_getElem? (wl_4_ok (612, Cond.code yX8_isPole cX8_isPole 2 (some .boolean)) (List.mem_of_getElem? (i := 48) rfl)), rfl⟩
set_option maxRecDepth 100000 in
theorem w_613 : Cond.methodLink "LeakyLineLaw" 37 yX8_stations ∈ lw_ok := List.mem_filter.mpr ⟨List.mem_of_getElem? (wl_4_ok (613, Cond.methodLink "LeakyLineLaw" 37 yX8_stations) (List.mem_of_getElem? (i := 49) rfl)), rfl⟩
set_option maxRecDepth 100000 in
theorem w_614 : Cond.instanceMethod yX8_stations ∈ lw_ok := List.mem_filter.mpr ⟨List.mem_of_getElem? (wl_4_ok (614, Cond.instanceMethod yX8_stations) (List.mem_of_getElem? (i := 50) rfl)), rfl⟩
set_option maxRecDepth 100000 in
theorem w_615 : Cond.selects RX8 yX8_stations yX8_stations ∈ lw_ok := List.mem_filter.mpr ⟨List.mem_of_getElem? (wl_4_ok (615, Cond.selects RX8 yX8_stations yX8_stations) (List.mem_of_getElem? (i := 51) rfl)), rfl⟩
set_option maxRecDepth 100000 in
theorem w_616 : Cond.code yX8_stations cX8_stations 1 (some .int) ∈ lw_ok := List.mem_filter.mpr ⟨List.mem_of_getElem? (wl_4_ok (616, Cond.code yX8_stations cX8_stations 1 (some .int)) (List.mem_of_getElem? (i := 52) rfl)), rfl⟩
set_option maxRecDepth 100000 in
theorem w_617 : Cond.methodLink RX8 134 yX8_isTold ∈ lw_ok := List.mem_filter.mpr ⟨List.mem_of_getElem? (wl_4_ok (617, Cond.methodLink RX8 134 yX8_isTold) (List.mem_of_getElem? (i := 53) rfl)), rfl⟩
set_option maxRecDepth 100000 in
theorem w_619 : Cond.instanceMethod yX8_isTold ∈ lw_ok := List.mem_filter.mpr ⟨List.mem_of_getElem? (wl_4_ok (619, Cond.instanceMethod yX8_isTold) (List.mem_of_getElem? (i := 54) rfl)), rfl⟩
set_option maxRecDepth 100000 in
theorem w_620 : Cond.code yX8_isTold cX8_isTold 1 (some .boolean) ∈ lw_ok := List.mem_filter.mpr ⟨List.mem_of_getElem? (wl_4_ok (620, Cond.code yX8_isTold cX8_isTold 1 (some .boolean)) (List.mem_of_getElem? (i := 55) rfl)), rfl⟩
set_option maxRecDepth 100000 in
theorem w_621 : Cond.methodLink RX8 138 yX2_stationBits ∈ lw_ok := List.mem_filter.mpr ⟨List.mem_of_getElem? (wl_4_ok (621, Cond.methodLink RX8 138 yX2_stationBits) (List.mem_of_getElem? (i := 56) rfl)), rfl⟩
set_option maxRecDepth 100000 in
theorem w_622 : Cond.instanceMethod yX2_stationBits ∈ lw_ok := List.mem_filter.mpr ⟨List.mem_of_getElem? (wl_4_ok (622, Cond.instanceMethod yX2_stationBits) (List.mem_of_getElem? (i := 57) rfl)), rfl⟩
set_option maxRecDepth 100000 in
theorem w_623 : Cond.selects RX2 yX2_stationBits yX2_stationBits ∈ lw_ok := List.mem_filter.mpr ⟨List.mem_of_getElem? (wl_4_ok (623, Cond.selects RX2 yX2_stationBits yX2_stationBits) (List.mem_of_getElem? (i := 58) rfl)), rfl⟩
set_option maxRecDepth 100000 in
theorem w_624 : Cond.code yX2_stationBits cX2_stationBits 3 (some .int) ∈ lw_ok := List.mem_filter.mpr ⟨List.mem_of_getElem? (wl_4_ok (624, Cond.code yX2_stationBits cX2_stationBits 3 (some .int)) (List.mem_of_getElem? (i := 59) rfl)), rfl⟩
set_option maxRecDepth 100000 in
theorem w_625 : Cond.methodLink "LeakyLineLaw" 41 yX8_wets ∈ lw_ok := List.mem_filter.mpr ⟨List.mem_of_getElem? (wl_4_ok (625, Cond.methodLink "LeakyLineLaw" 41 yX8_wets) (List.mem_of_getElem? (i := 60) rfl)), rfl⟩
set_option maxRecDepth 100000 in
theorem w_626 : Cond.instanceMethod yX8_wets ∈ lw_ok := List.mem_filter.mpr ⟨List.mem_of_getElem? (wl_4_ok (626, Cond.instanceMethod yX8_wets) (List.mem_of_getElem? (i := 61) rfl)), rfl⟩
set_option maxRecDepth 100000 in
theorem w_627 : Cond.selects RX8 yX8_wets yX8_wets ∈ lw_ok := List.mem_filter.mpr ⟨List.mem_of_getElem? (wl_4_ok (627, Cond.selects RX8 yX8_wets yX8_wets) (List.mem_of_getElem? (i := 62) rfl)), rfl⟩
set_option maxRecDepth 100000 in
theorem w_628 : Cond.code yX8_wets cX8_wets 1 (some .int) ∈ lw_ok := List.mem_filter.mpr ⟨List.mem_of_getElem? (wl_4_ok (628, Cond.code yX8_wets cX8_wets 1 (some .int)) (List.mem_of_getElem? (i := 63) rfl)), rfl⟩
set_option maxRecDepth 100000 in
theorem w_629 : Cond.methodLink "LeakyLineLaw" 45 yX8_leak ∈ lw_ok := List.mem_filter.mpr ⟨List.mem_of_getElem? (wl_4_ok (629, Cond.methodLink "LeakyLineLaw" 45 yX8_leak) (List.mem_of_getElem? (i := 64) rfl)), rfl⟩
set_option maxRecDepth 100000 in
theorem w_630 : Cond.instanceMethod yX8_leak ∈ lw_ok := List.mem_filter.mpr ⟨List.mem_of_getElem? (wl_4_ok (630, Cond.instanceMethod yX8_leak) (List.mem_of_getElem? (i := 65) rfl)), rfl⟩
set_option maxRecDepth 100000 in
theorem w_631 : Cond.selects RX8 yX8_leak yX8_leak ∈ lw_ok := List.mem_filter.mpr ⟨List.mem_of_getElem? (wl_4_ok (631, Cond.selects RX8 yX8_leak yX8_leak) (List.mem_of_getElem? (i := 66) rfl)), rfl⟩
set_option maxRecDepth 100000 in
theorem w_632 : Cond.code yX8_leak cX8_leak 3 (some .int) ∈ lw_ok := List.mem_filter.mpr ⟨List.mem_of_getElem? (wl_4_ok (632, Cond.code yX8_leak cX8_leak 3 (some .int)) (List.mem_of_getElem? (i := 67) rfl)), rfl⟩
set_option maxRecDepth 100000 in
theorem w_633 : Cond.methodLink RX8 145 yX8_isDay ∈ lw_ok := List.mem_filter.mpr ⟨List.mem_of_getElem? (wl_4_ok (633, Cond.methodLink RX8 145 yX8_isDay) (List.mem_of_getElem? (i := 68) rfl)), rfl⟩
set_option maxRecDepth 100000 in
theorem w_635 : Cond.instanceMethod yX8_isDay ∈ lw_ok := List.mem_filter.mpr ⟨List.mem_of_getElem? (wl_4_ok (635, Cond.instanceMethod yX8_isDay) (List.mem_of_getElem? (i := 69) rfl)), rfl⟩
set_option maxRecDepth 100000 in
theorem w_636 : Cond.code yX8_isDay cX8_isDay 2 (some .boolean) ∈ lw_ok := List.mem_filter.mpr ⟨List.mem_of_getElem? (wl_4_ok (636, Cond.code yX8_isDay cX8_isDay 2 (some .boolean)) (List.mem_of_getElem? (i := 70) rfl)), rfl⟩
set_option maxRecDepth 100000 in
theorem w_637 : Cond.methodLink RX8 148 yX4_asTold ∈ lw_ok := List.mem_filter.mpr ⟨List.mem_of_getElem? (wl_4_ok (637, Cond.methodLink RX8 148 yX4_asTold) (List.mem_of_getElem? (i := 71) rfl)), rfl⟩
set_option maxRecDepth 100000 in
theorem w_638 : Cond.instanceMethod yX4_asTold ∈ lw_ok := List.mem_filter.mpr ⟨List.mem_of_getElem? (wl_4_ok (638, Cond.instanceMethod yX4_asTold) (List.mem_of_getElem? (i := 72) rfl)), rfl⟩
set_option maxRecDepth 100000 in
theorem w_639 : Cond.selects RX4 yX4_asTold yX4_asTold ∈ lw_ok := List.mem_filter.mpr ⟨List.mem_of_getElem? (wl_4_ok (639, Cond.selects RX4 yX4_asTold yX4_asTold) (List.mem_of_getElem? (i := 73) rfl)), rfl⟩
set_option maxRecDepth 100000 in
theorem w_640 : Cond.code yX4_asTold cX4_asTold 2 none ∈ lw_ok := List.mem_filter.mpr ⟨List.mem_of_getElem? (wl_4_ok (640, Cond.code yX4_asTold cX4_asTold 2 none) (List.mem_of_getElem? (i := 74) rfl)), rfl⟩
set_option maxRecDepth 100000 in
theorem w_641 : Cond.methodLink RX4 36 arraycopyName ∈ lw_ok := List.mem_filter.mpr ⟨List.mem_of_getElem? (wl_4_ok (641, Cond.methodLink RX4 36 arraycopyName) (List.mem_of_getElem? (i := 75) rfl)), rfl⟩
set_option maxRecDepth 100000 in
theorem w_642 : Cond.methodLink RX8 151 yX4_leakOn ∈ lw_ok := List.mem_filter.mpr ⟨List.mem_of_getElem? (wl_4_ok (642, Cond.methodLink RX8 151 yX4_leakOn) (List.mem_of_getElem? (i := 76) rfl)), rfl⟩
set_option maxRecDepth 100000 in
theorem w_643 : Cond.instanceMethod yX4_leakOn ∈ lw_ok := List.mem_filter.mpr ⟨List.mem_of_getElem? (wl_4_ok (643, Cond.instanceMethod yX4_leakOn) (List.mem_of_getElem? (i := 77) rfl)), rfl⟩
set_option maxRecDepth 100000 in
theorem w_644 : Cond.selects RX4 yX4_leakOn yX4_leakOn ∈ lw_ok := List.mem_filter.mpr ⟨List.mem_of_getElem? (wl_4_ok (644, Cond.selects RX4 yX4_leakOn yX4_leakOn) (List.mem_of_getElem? (i := 78) rfl)), rfl⟩
set_option maxRecDepth 100000 in
theorem w_645 : Cond.code yX4_leakOn cX4_leakOn 6 (some .int) ∈ lw_ok := List.mem_filter.mpr ⟨List.mem_of_getElem? (wl_4_ok (645, Cond.code yX4_leakOn cX4_leakOn 6 (some .int)) (List.mem_of_getElem? (i := 79) rfl)), rfl⟩
set_option maxRecDepth 100000 in
theorem w_646 : Cond.methodLink RX4 43 yX2_latestCup ∈ lw_ok := List.mem_filter.mpr ⟨List.mem_of_getElem? (wl_4_ok (646, Cond.methodLink RX4 43 yX2_latestCup) (List.mem_of_getElem? (i := 80) rfl)), rfl⟩
set_option maxRecDepth 100000 in
theorem w_647 : Cond.instanceMethod yX2_latestCup ∈ lw_ok := List.mem_filter.mpr ⟨List.mem_of_getElem? (wl_4_ok (647, Cond.instanceMethod yX2_latestCup) (List.mem_of_getElem? (i := 81) rfl)), rfl⟩
set_option maxRecDepth 100000 in
theorem w_648 : Cond.selects RX2 yX2_latestCup yX2_latestCup ∈ lw_ok := List.mem_filter.mpr ⟨List.mem_of_getElem? (wl_4_ok (648, Cond.selects RX2 yX2_latestCup yX2_latestCup) (List.mem_of_getElem? (i := 82) rfl)), rfl⟩
set_option maxRecDepth 100000 in
theorem w_649 : Cond.code yX2_latestCup cX2_latestCup 4 (some .int) ∈ lw_ok := List.mem_filter.mpr ⟨List.mem_of_getElem? (wl_4_ok (649, Cond.code yX2_latestCup cX2_latestCup 4 (some .int)) (List.mem_of_getElem? (i := 83) rfl)), rfl⟩
set_option maxRecDepth 100000 in
theorem w_650 : Cond.methodLink RX2 86 yJ6_numberOfLeadingZeros_0f7a4 ∈ lw_ok := List.mem_filter.mpr ⟨List.mem_of_getElem? (wl_4_ok (650, Cond.methodLink RX2 86 yJ6_numberOfLeadingZeros_0f7a4) (List.mem_of_getElem? (i := 84) rfl)), rfl⟩
set_option maxRecDepth 100000 in
theorem w_651 : Cond.static yJ6_numberOfLeadingZeros_0f7a4 ∈ lw_ok := List.mem_filter.mpr ⟨List.mem_of_getElem? (wl_4_ok (651, Cond.static yJ6_numberOfLeadingZeros_0f7a4) (List.mem_of_getElem? (i := 85) rfl)), rfl⟩
set_option maxRecDepth 100000 in
theorem w_652 : Cond.code yJ6_numberOfLeadingZeros_0f7a4 cJ6_numberOfLeadingZeros_0f7a4 2 (some .int) ∈ lw_ok := List.mem_filter.mpr ⟨List.mem_of_getElem? (wl_4_ok (652, Cond.code yJ6_numberOfLeadingZeros_0f7a4 cJ6_numberOfLeadingZeros_0f7a4 2 (some .int)) (List.mem_of_getElem? (i := 86) rfl)), rfl⟩
set_option maxRecDepth 100000 in
theorem w_653 : Cond.constant RJ6 264 65536 ∈ lw_ok := List.mem_filter.mpr ⟨List.mem_of_getElem? (wl_4_ok (653, Cond.constant RJ6 264 65536) (List.mem_of_getElem? (i := 87) rfl)), rfl⟩
set_option maxRecDepth 100000 in
theorem w_655 : Cond.static yX8_hasBit ∈ lw_ok := List.mem_filter.mpr ⟨List.mem_of_getElem? (wl_4_ok (655, Cond.static yX8_hasBit) (List.mem_of_getElem? (i := 88) rfl)), rfl⟩
set_option maxRecDepth 100000 in
theorem w_656 : Cond.code yX8_hasBit cX8_hasBit 2 (some .boolean) ∈ lw_ok := List.mem_filter.mpr ⟨List.mem_of_getElem? (wl_4_ok (656, Cond.code yX8_hasBit cX8_hasBit 2 (some .boolean)) (List.mem_of_getElem? (i := 89) rfl)), rfl⟩
set_option maxRecDepth 100000 in
theorem w_657 : Cond.methodLink RX4 51 yX4_isWet ∈ lw_ok := List.mem_filter.mpr ⟨List.mem_of_getElem? (wl_4_ok (657, Cond.methodLink RX4 51 yX4_isWet) (List.mem_of_getElem? (i := 90) rfl)), rfl⟩
set_option maxRecDepth 100000 in
theorem w_659 : Cond.instanceMethod yX4_isWet ∈ lw_ok := List.mem_filter.mpr ⟨List.mem_of_getElem? (wl_4_ok (659, Cond.instanceMethod yX4_isWet) (List.mem_of_getElem? (i := 91) rfl)), rfl⟩
set_option maxRecDepth 100000 in
theorem w_660 : Cond.code yX4_isWet cX4_isWet 2 (some .boolean) ∈ lw_ok := List.mem_filter.mpr ⟨List.mem_of_getElem? (wl_4_ok (660, Cond.code yX4_isWet cX4_isWet 2 (some .boolean)) (List.mem_of_getElem? (i := 92) rfl)), rfl⟩
set_option maxRecDepth 100000 in
theorem w_661 : Cond.methodLink RX4 55 yX4_halved ∈ lw_ok := List.mem_filter.mpr ⟨List.mem_of_getElem? (wl_4_ok (661, Cond.methodLink RX4 55 yX4_halved) (List.mem_of_getElem? (i := 93) rfl)), rfl⟩
set_option maxRecDepth 100000 in
theorem w_662 : Cond.static yX4_halved ∈ lw_ok := List.mem_filter.mpr ⟨List.mem_of_getElem? (wl_4_ok (662, Cond.static yX4_halved) (List.mem_of_getElem? (i := 94) rfl)), rfl⟩
set_option maxRecDepth 100000 in
theorem w_663 : Cond.code yX4_halved cX4_halved 1 (some .int) ∈ lw_ok := List.mem_filter.mpr ⟨List.mem_of_getElem? (wl_4_ok (663, Cond.code yX4_halved cX4_halved 1 (some .int)) (List.mem_of_getElem? (i := 95) rfl)), rfl⟩
set_option maxRecDepth 100000 in
theorem w_664 : Cond.methodLink RX4 59 yJ9_max_7cf53 ∈ lw_ok := List.mem_filter.mpr ⟨List.mem_of_getElem? (wl_4_ok (664, Cond.methodLink RX4 59 yJ9_max_7cf53) (List.mem_of_getElem? (i := 96) rfl)), rfl⟩
set_option maxRecDepth 100000 in
theorem w_665 : Cond.methodLink RX4 64 yX4_wetDays ∈ lw_ok := List.mem_filter.mpr ⟨List.mem_of_getElem? (wl_4_ok (665, Cond.methodLink RX4 64 yX4_wetDays) (List.mem_of_getElem? (i := 97) rfl)), rfl⟩
set_option maxRecDepth 100000 in
theorem w_667 : Cond.instanceMethod yX4_wetDays ∈ lw_ok := List.mem_filter.mpr ⟨List.mem_of_getElem? (wl_4_ok (667, Cond.instanceMethod yX4_wetDays) (List.mem_of_getElem? (i := 98) rfl)), rfl⟩
set_option maxRecDepth 100000 in
theorem w_668 : Cond.code yX4_wetDays cX4_wetDays 3 (some .int) ∈ lw_ok := List.mem_filter.mpr ⟨List.mem_of_getElem? (wl_4_ok (668, Cond.code yX4_wetDays cX4_wetDays 3 (some .int)) (List.mem_of_getElem? (i := 99) rfl)), rfl⟩
def wl_5 : List (Nat × Cond) := [(669, Cond.methodLink RX4 73 yJ6_bitCount_0f7a4), (670, Cond.static yJ6_bitCount_0f7a4), (671, Cond.code yJ6_bitCount_0f7a4 cJ6_bitCount_0f7a4 1 (some .int)), (672, Cond.constant RJ6 265 1431655765), (673, Cond.constant RJ6 266 858993459), (674, Cond.constant RJ6 267 252645135), (675, Cond.methodLink "LeakyLineLaw" 49 yX8_joined), (676, Cond.instanceMethod yX8_joined), (677, Cond.selects RX8 yX8_joined yX8_joined), (678, Cond.code yX8_joined cX8_joined 2 (some .int)), (679, Cond.methodLink RX8 155 yX4_leadingOn), (680, Cond.instanceMethod yX4_leadingOn), (681, Cond.selects RX4 yX4_leadingOn yX4_leadingOn), (682, Cond.code yX4_leadingOn cX4_leadingOn 4 (some .int)), (683, Cond.methodLink RX4 70 yX2_isBroken), (684, Cond.instanceMethod yX2_isBroken), (685, Cond.selects RX2 yX2_isBroken yX2_isBroken), (686, Cond.code yX2_isBroken cX2_isBroken 3 (some .boolean)), (687, Cond.methodLink "LeakyLineLaw" 53 yX8_ohms), (688, Cond.instanceMethod yX8_ohms), (689, Cond.selects RX8 yX8_ohms yX8_ohms), (690, Cond.code yX8_ohms cX8_ohms 3 (some .long)), (691, Cond.methodLink RX8 159 yX8_isPart), (692, Cond.static yX8_isPart), (693, Cond.code yX8_isPart cX8_isPart 1 (some .boolean)), (694, Cond.constantLong RX8 162 (-2)), (695, Cond.methodLink RX8 164 yX8_settleAsTold), (697, Cond.instanceMethod yX8_settleAsTold), (698, Cond.code yX8_settleAsTold cX8_settleAsTold 2 none), (699, Cond.methodLink RX8 281 yX1_settle), (700, Cond.instanceMethod yX1_settle), (701, Cond.selects RX1 yX1_settle yX1_settle), (702, Cond.code yX1_settle cX1_settle 11 none), (703, Cond.methodLink RX1 30 yX4_leadingOn), (704, Cond.methodLink RX1 41 yX4_leakOn), (705, Cond.methodLink RX1 45 yJ9_max_7cf53), (706, Cond.methodLink RX8 167 yX1_readsInto), (707, Cond.instanceMethod yX1_readsInto), (708, Cond.selects RX1 yX1_readsInto yX1_readsInto), (709, Cond.code yX1_readsInto cX1_readsInto 2 none), (710, Cond.methodLink RX1 54 yX1_firstAmps), (711, Cond.instanceMethod yX1_firstAmps), (712, Cond.selects RX1 yX1_firstAmps yX1_firstAmps), (713, Cond.code yX1_firstAmps cX1_firstAmps 1 (some .long)), (714, Cond.methodLink RX1 58 yX0_set), (715, Cond.instanceMethod yX0_set), (716, Cond.selects RX0 yX0_set yX0_set), (717, Cond.code yX0_set cX0_set 7 none), (718, Cond.methodLink RX0 18 yJ9_abs_067f4), (719, Cond.static yJ9_abs_067f4), (720, Cond.code yJ9_abs_067f4 cJ9_abs_067f4 2 (some .long)), (721, Cond.methodLink RX0 24 yX0_commonDivisor), (722, Cond.static yX0_commonDivisor), (723, Cond.code yX0_commonDivisor cX0_commonDivisor 11 (some .long)), (724, Cond.methodLink RX8 171 yX0_part), (725, Cond.instanceMethod yX0_part), (726, Cond.selects RX0 yX0_part yX0_part), (727, Cond.code yX0_part cX0_part 2 (some .long)), (728, Cond.methodLink "LeakyLineLaw" 58 yX8_amps), (729, Cond.instanceMethod yX8_amps), (730, Cond.selects RX8 yX8_amps yX8_amps), (731, Cond.code yX8_amps cX8_amps 3 (some .long)), (732, Cond.methodLink RX8 178 yX1_firstAmps), (733, Cond.methodLink RX8 186 yX8_partOf), (735, Cond.instanceMethod yX8_partOf), (736, Cond.code yX8_partOf cX8_partOf 6 (some .long)), (737, Cond.methodLink RX8 395 yX0_set), (738, Cond.methodLink "LeakyLineLaw" 62 yX8_volts), (739, Cond.instanceMethod yX8_volts), (740, Cond.selects RX8 yX8_volts yX8_volts), (741, Cond.code yX8_volts cX8_volts 4 (some .long)), (742, Cond.methodLink "LeakyLineLaw" 67 yX8_whole), (743, Cond.instanceMethod yX8_whole), (744, Cond.selects RX8 yX8_whole yX8_whole), (745, Cond.code yX8_whole cX8_whole 3 (some .int)), (746, Cond.methodLink RX8 192 yX8_wholeVolts), (748, Cond.instanceMethod yX8_wholeVolts), (749, Cond.code yX8_wholeVolts cX8_wholeVolts 4 (some .int)), (750, Cond.methodLink "LeakyLineLaw" 71 yX8_falls), (751, Cond.instanceMethod yX8_falls), (752, Cond.selects RX8 yX8_falls yX8_falls), (753, Cond.code yX8_falls cX8_falls 4 (some .long)), (754, Cond.methodLink RX8 196 yX1_fallOver), (755, Cond.instanceMethod yX1_fallOver), (756, Cond.selects RX1 yX1_fallOver yX1_fallOver), (757, Cond.code yX1_fallOver cX1_fallOver 2 (some .long)), (758, Cond.methodLink "LeakyLineLaw" 75 yX8_earth), (759, Cond.instanceMethod yX8_earth), (760, Cond.selects RX8 yX8_earth yX8_earth), (761, Cond.code yX8_earth cX8_earth 4 (some .long)), (762, Cond.methodLink "LeakyLineLaw" 79 yX8_sore), (763, Cond.instanceMethod yX8_sore), (764, Cond.selects RX8 yX8_sore yX8_sore), (765, Cond.code yX8_sore cX8_sore 4 (some .int)), (766, Cond.methodLink RX8 203 yX1_leaksMore), (767, Cond.instanceMethod yX1_leaksMore), (768, Cond.selects RX1 yX1_leaksMore yX1_leaksMore), (769, Cond.code yX1_leaksMore cX1_leaksMore 3 (some .boolean)), (770, Cond.methodLink "LeakyLineLaw" 83 yX8_hears), (771, Cond.instanceMethod yX8_hears)]
set_option maxRecDepth 100000 in
theorem wl_5_ok : ∀ x ∈ wl_5, lw_tbl[x.1]? = some x.2 := by decide +kernel
set_option maxRecDepth 100000 in
theorem w_669 : Cond.methodLink RX4 73 yJ6_bitCount_0f7a4 ∈ lw_ok := List.mem_filter.mpr ⟨List.mem_of_getElem? (wl_5_ok (669, Cond.methodLink RX4 73 yJ6_bitCount_0f7a4) (List.mem_of_getElem? (i := 0) rfl)), rfl⟩
set_option maxRecDepth 100000 in
theorem w_670 : Cond.static yJ6_bitCount_0f7a4 ∈ lw_ok := List.mem_filter.mpr ⟨List.mem_of_getElem? (wl_5_ok (670, Cond.static yJ6_bitCount_0f7a4) (List.mem_of_getElem? (i := 1) rfl)), rfl⟩
set_option maxRecDepth 100000 in
theorem w_671 : Cond.code yJ6_bitCount_0f7a4 cJ6_bitCount_0f7a4 1 (some .int) ∈ lw_ok := List.mem_filter.mpr ⟨List.mem_of_getElem? (wl_5_ok (671, Cond.code yJ6_bitCount_0f7a4 cJ6_bitCount_0f7a4 1 (some .int)) (List.mem_of_getElem? (i := 2) rfl)), rfl⟩
set_option maxRecDepth 100000 in
theorem w_672 : Cond.constant RJ6 265 1431655765 ∈ lw_ok := List.mem_filter.mpr ⟨List.mem_of_getElem? (wl_5_ok (672, Cond.constant RJ6 265 1431655765) (List.mem_of_getElem? (i := 3) rfl)), rfl⟩
set_option maxRecDepth 100000 in
theorem w_673 : Cond.constant RJ6 266 858993459 ∈ lw_ok := List.mem_filter.mpr ⟨List.mem_of_getElem? (wl_5_ok (673, Cond.constant RJ6 266 858993459) (List.mem_of_getElem? (i := 4) rfl)), rfl⟩
set_option maxRecDepth 100000 in
theorem w_674 : Cond.constant RJ6 267 252645135 ∈ lw_ok := List.mem_filter.mpr ⟨List.mem_of_getElem? (wl_5_ok (674, Cond.constant RJ6 267 252645135) (List.mem_of_getElem? (i := 5) rfl)), rfl⟩
set_option maxRecDepth 100000 in
theorem w_675 : Cond.methodLink "LeakyLineLaw" 49 yX8_joined ∈ lw_ok := List.mem_filter.mpr ⟨List.mem_of_getElem? (wl_5_ok (675, Cond.methodLink "LeakyLineLaw" 49 yX8_joined) (List.mem_of_getElem? (i := 6) rfl)), rfl⟩
set_option maxRecDepth 100000 in
theorem w_676 : Cond.instanceMethod yX8_joined ∈ lw_ok := List.mem_filter.mpr ⟨List.mem_of_getElem? (wl_5_ok (676, Cond.instanceMethod yX8_joined) (List.mem_of_getElem? (i := 7) rfl)), rfl⟩
set_option maxRecDepth 100000 in
theorem w_677 : Cond.selects RX8 yX8_joined yX8_joined ∈ lw_ok := List.mem_filter.mpr ⟨List.mem_of_getElem? (wl_5_ok (677, Cond.selects RX8 yX8_joined yX8_joined) (List.mem_of_getElem? (i := 8) rfl)), rfl⟩
set_option maxRecDepth 100000 in
theorem w_678 : Cond.code yX8_joined cX8_joined 2 (some .int) ∈ lw_ok := List.mem_filter.mpr ⟨List.mem_of_getElem? (wl_5_ok (678, Cond.code yX8_joined cX8_joined 2 (some .int)) (List.mem_of_getElem? (i := 9) rfl)), rfl⟩
set_option maxRecDepth 100000 in
theorem w_679 : Cond.methodLink RX8 155 yX4_leadingOn ∈ lw_ok := List.mem_filter.mpr ⟨List.mem_of_getElem? (wl_5_ok (679, Cond.methodLink RX8 155 yX4_leadingOn) (List.mem_of_getElem? (i := 10) rfl)), rfl⟩
set_option maxRecDepth 100000 in
theorem w_680 : Cond.instanceMethod yX4_leadingOn ∈ lw_ok := List.mem_filter.mpr ⟨List.mem_of_getElem? (wl_5_ok (680, Cond.instanceMethod yX4_leadingOn) (List.mem_of_getElem? (i := 11) rfl)), rfl⟩
set_option maxRecDepth 100000 in
theorem w_681 : Cond.selects RX4 yX4_leadingOn yX4_leadingOn ∈ lw_ok := List.mem_filter.mpr ⟨List.mem_of_getElem? (wl_5_ok (681, Cond.selects RX4 yX4_leadingOn yX4_leadingOn) (List.mem_of_getElem? (i := 12) rfl)), rfl⟩
set_option maxRecDepth 100000 in
theorem w_682 : Cond.code yX4_leadingOn cX4_leadingOn 4 (some .int) ∈ lw_ok := List.mem_filter.mpr ⟨List.mem_of_getElem? (wl_5_ok (682, Cond.code yX4_leadingOn cX4_leadingOn 4 (some .int)) (List.mem_of_getElem? (i := 13) rfl)), rfl⟩
set_option maxRecDepth 100000 in
theorem w_683 : Cond.methodLink RX4 70 yX2_isBroken ∈ lw_ok := List.mem_filter.mpr ⟨List.mem_of_getElem? (wl_5_ok (683, Cond.methodLink RX4 70 yX2_isBroken) (List.mem_of_getElem? (i := 14) rfl)), rfl⟩
set_option maxRecDepth 100000 in
theorem w_684 : Cond.instanceMethod yX2_isBroken ∈ lw_ok := List.mem_filter.mpr ⟨List.mem_of_getElem? (wl_5_ok (684, Cond.instanceMethod yX2_isBroken) (List.mem_of_getElem? (i := 15) rfl)), rfl⟩
set_option maxRecDepth 100000 in
theorem w_685 : Cond.selects RX2 yX2_isBroken yX2_isBroken ∈ lw_ok := List.mem_filter.mpr ⟨List.mem_of_getElem? (wl_5_ok (685, Cond.selects RX2 yX2_isBroken yX2_isBroken) (List.mem_of_getElem? (i := 16) rfl)), rfl⟩
set_option maxRecDepth 100000 in
theorem w_686 : Cond.code yX2_isBroken cX2_isBroken 3 (some .boolean) ∈ lw_ok := List.mem_filter.mpr ⟨List.mem_of_getElem? (wl_5_ok (686, Cond.code yX2_isBroken cX2_isBroken 3 (some .boolean)) (List.mem_of_getElem? (i := 17) rfl)), rfl⟩
set_option maxRecDepth 100000 in
theorem w_687 : Cond.methodLink "LeakyLineLaw" 53 yX8_ohms ∈ lw_ok := List.mem_filter.mpr ⟨List.mem_of_getElem? (wl_5_ok (687, Cond.methodLink "LeakyLineLaw" 53 yX8_ohms) (List.mem_of_getElem? (i := 18) rfl)), rfl⟩
set_option maxRecDepth 100000 in
theorem w_688 : Cond.instanceMethod yX8_ohms ∈ lw_ok := List.mem_filter.mpr ⟨List.mem_of_getElem? (wl_5_ok (688, Cond.instanceMethod yX8_ohms) (List.mem_of_getElem? (i := 19) rfl)), rfl⟩
set_option maxRecDepth 100000 in
theorem w_689 : Cond.selects RX8 yX8_ohms yX8_ohms ∈ lw_ok := List.mem_filter.mpr ⟨List.mem_of_getElem? (wl_5_ok (689, Cond.selects RX8 yX8_ohms yX8_ohms) (List.mem_of_getElem? (i := 20) rfl)), rfl⟩
set_option maxRecDepth 100000 in
theorem w_690 : Cond.code yX8_ohms cX8_ohms 3 (some .long) ∈ lw_ok := List.mem_filter.mpr ⟨List.mem_of_getElem? (wl_5_ok (690, Cond.code yX8_ohms cX8_ohms 3 (some .long)) (List.mem_of_getElem? (i := 21) rfl)), rfl⟩
set_option maxRecDepth 100000 in
theorem w_691 : Cond.methodLink RX8 159 yX8_isPart ∈ lw_ok := List.mem_filter.mpr ⟨List.mem_of_getElem? (wl_5_ok (691, Cond.methodLink RX8 159 yX8_isPart) (List.mem_of_getElem? (i := 22) rfl)), rfl⟩
set_option maxRecDepth 100000 in
theorem w_692 : Cond.static yX8_isPart ∈ lw_ok := List.mem_filter.mpr ⟨List.mem_of_getElem? (wl_5_ok (692, Cond.static yX8_isPart) (List.mem_of_getElem? (i := 23) rfl)), rfl⟩
set_option maxRecDepth 100000 in
theorem w_693 : Cond.code yX8_isPart cX8_isPart 1 (some .boolean) ∈ lw_ok := List.mem_filter.mpr ⟨List.mem_of_getElem? (wl_5_ok (693, Cond.code yX8_isPart cX8_isPart 1 (some .boolean)) (List.mem_of_getElem? (i := 24) rfl)), rfl⟩
set_option maxRecDepth 100000 in
theorem w_694 : Cond.constantLong RX8 162 (-2) ∈ lw_ok := List.mem_filter.mpr ⟨List.mem_of_getElem? (wl_5_ok (694, Cond.constantLong RX8 162 (-2)) (List.mem_of_getElem? (i := 25) rfl)), rfl⟩
set_option maxRecDepth 100000 in
theorem w_695 : Cond.methodLink RX8 164 yX8_settleAsTold ∈ lw_ok := List.mem_filter.mpr ⟨List.mem_of_getElem? (wl_5_ok (695, Cond.methodLink RX8 164 yX8_settleAsTold) (List.mem_of_getElem? (i := 26) rfl)), rfl⟩
set_option maxRecDepth 100000 in
theorem w_697 : Cond.instanceMethod yX8_settleAsTold ∈ lw_ok := List.mem_filter.mpr ⟨List.mem_of_getElem? (wl_5_ok (697, Cond.instanceMethod yX8_settleAsTold) (List.mem_of_getElem? (i := 27) rfl)), rfl⟩
set_option maxRecDepth 100000 in
theorem w_698 : Cond.code yX8_settleAsTold cX8_settleAsTold 2 none ∈ lw_ok := List.mem_filter.mpr ⟨List.mem_of_getElem? (wl_5_ok (698, Cond.code yX8_settleAsTold cX8_settleAsTold 2 none) (List.mem_of_getElem? (i := 28) rfl)), rfl⟩
set_option maxRecDepth 100000 in
theorem w_699 : Cond.methodLink RX8 281 yX1_settle ∈ lw_ok := List.mem_filter.mpr ⟨List.mem_of_getElem? (wl_5_ok (699, Cond.methodLink RX8 281 yX1_settle) (List.mem_of_getElem? (i := 29) rfl)), rfl⟩
set_option maxRecDepth 100000 in
theorem w_700 : Cond.instanceMethod yX1_settle ∈ lw_ok := List.mem_filter.mpr ⟨List.mem_of_getElem? (wl_5_ok (700, Cond.instanceMethod yX1_settle) (List.mem_of_getElem? (i := 30) rfl)), rfl⟩
set_option maxRecDepth 100000 in
theorem w_701 : Cond.selects RX1 yX1_settle yX1_settle ∈ lw_ok := List.mem_filter.mpr ⟨List.mem_of_getElem? (wl_5_ok (701, Cond.selects RX1 yX1_settle yX1_settle) (List.mem_of_getElem? (i := 31) rfl)), rfl⟩
set_option maxRecDepth 100000 in
theorem w_702 : Cond.code yX1_settle cX1_settle 11 none ∈ lw_ok := List.mem_filter.mpr ⟨List.mem_of_getElem? (wl_5_ok (702, Cond.code yX1_settle cX1_settle 11 none) (List.mem_of_getElem? (i := 32) rfl)), rfl⟩
set_option maxRecDepth 100000 in
theorem w_703 : Cond.methodLink RX1 30 yX4_leadingOn ∈ lw_ok := List.mem_filter.mpr ⟨List.mem_of_getElem? (wl_5_ok (703, Cond.methodLink RX1 30 yX4_leadingOn) (List.mem_of_getElem? (i := 33) rfl)), rfl⟩
set_option maxRecDepth 100000 in
theorem w_704 : Cond.methodLink RX1 41 yX4_leakOn ∈ lw_ok := List.mem_filter.mpr ⟨List.mem_of_getElem? (wl_5_ok (704, Cond.methodLink RX1 41 yX4_leakOn) (List.mem_of_getElem? (i := 34) rfl)), rfl⟩
set_option maxRecDepth 100000 in
theorem w_705 : Cond.methodLink RX1 45 yJ9_max_7cf53 ∈ lw_ok := List.mem_filter.mpr ⟨List.mem_of_getElem? (wl_5_ok (705, Cond.methodLink RX1 45 yJ9_max_7cf53) (List.mem_of_getElem? (i := 35) rfl)), rfl⟩
set_option maxRecDepth 100000 in
theorem w_706 : Cond.methodLink RX8 167 yX1_readsInto ∈ lw_ok := List.mem_filter.mpr ⟨List.mem_of_getElem? (wl_5_ok (706, Cond.methodLink RX8 167 yX1_readsInto) (List.mem_of_getElem? (i := 36) rfl)), rfl⟩
set_option maxRecDepth 100000 in
theorem w_707 : Cond.instanceMethod yX1_readsInto ∈ lw_ok := List.mem_filter.mpr ⟨List.mem_of_getElem? (wl_5_ok (707, Cond.instanceMethod yX1_readsInto) (List.mem_of_getElem? (i := 37) rfl)), rfl⟩
set_option maxRecDepth 100000 in
theorem w_708 : Cond.selects RX1 yX1_readsInto yX1_readsInto ∈ lw_ok := List.mem_filter.mpr ⟨List.mem_of_getElem? (wl_5_ok (708, Cond.selects RX1 yX1_readsInto yX1_readsInto) (List.mem_of_getElem? (i := 38) rfl)), rfl⟩
set_option maxRecDepth 100000 in
theorem w_709 : Cond.code yX1_readsInto cX1_readsInto 2 none ∈ lw_ok := List.mem_filter.mpr ⟨List.mem_of_getElem? (wl_5_ok (709, Cond.code yX1_readsInto cX1_readsInto 2 none) (List.mem_of_getElem? (i := 39) rfl)), rfl⟩
set_option maxRecDepth 100000 in
theorem w_710 : Cond.methodLink RX1 54 yX1_firstAmps ∈ lw_ok := List.mem_filter.mpr ⟨List.mem_of_getElem? (wl_5_ok (710, Cond.methodLink RX1 54 yX1_firstAmps) (List.mem_of_getElem? (i := 40) rfl)), rfl⟩
set_option maxRecDepth 100000 in
theorem w_711 : Cond.instanceMethod yX1_firstAmps ∈ lw_ok := List.mem_filter.mpr ⟨List.mem_of_getElem? (wl_5_ok (711, Cond.instanceMethod yX1_firstAmps) (List.mem_of_getElem? (i := 41) rfl)), rfl⟩
set_option maxRecDepth 100000 in
theorem w_712 : Cond.selects RX1 yX1_firstAmps yX1_firstAmps ∈ lw_ok := List.mem_filter.mpr ⟨List.mem_of_getElem? (wl_5_ok (712, Cond.selects RX1 yX1_firstAmps yX1_firstAmps) (List.mem_of_getElem? (i := 42) rfl)), rfl⟩
set_option maxRecDepth 100000 in
theorem w_713 : Cond.code yX1_firstAmps cX1_firstAmps 1 (some .long) ∈ lw_ok := List.mem_filter.mpr ⟨List.mem_of_getElem? (wl_5_ok (713, Cond.code yX1_firstAmps cX1_firstAmps 1 (some .long)) (List.mem_of_getElem? (i := 43) rfl)), rfl⟩
set_option maxRecDepth 100000 in
theorem w_714 : Cond.methodLink RX1 58 yX0_set ∈ lw_ok := List.mem_filter.mpr ⟨List.mem_of_getElem? (wl_5_ok (714, Cond.methodLink RX1 58 yX0_set) (List.mem_of_getElem? (i := 44) rfl)), rfl⟩
set_option maxRecDepth 100000 in
theorem w_715 : Cond.instanceMethod yX0_set ∈ lw_ok := List.mem_filter.mpr ⟨List.mem_of_getElem? (wl_5_ok (715, Cond.instanceMethod yX0_set) (List.mem_of_getElem? (i := 45) rfl)), rfl⟩
set_option maxRecDepth 100000 in
theorem w_716 : Cond.selects RX0 yX0_set yX0_set ∈ lw_ok := List.mem_filter.mpr ⟨List.mem_of_getElem? (wl_5_ok (716, Cond.selects RX0 yX0_set yX0_set) (List.mem_of_getElem? (i := 46) rfl)), rfl⟩
set_option maxRecDepth 100000 in
theorem w_717 : Cond.code yX0_set cX0_set 7 none ∈ lw_ok := List.mem_filter.mpr ⟨List.mem_of_getElem? (wl_5_ok (717, Cond.code yX0_set cX0_set 7 none) (List.mem_of_getElem? (i := 47) rfl)), rfl⟩
set_option maxRecDepth 100000 in
theorem w_718 : Cond.methodLink RX0 18 yJ9_abs_067f4 ∈ lw_ok := List.mem_filter.mpr ⟨List.mem_of_getElem? (wl_5_ok (718, Cond.methodLink RX0 18 yJ9_abs_067f4) (List.mem_of_getElem? (i := 48) rfl)), rfl⟩
set_option maxRecDepth 100000 in
theorem w_719 : Cond.static yJ9_abs_067f4 ∈ lw_ok := List.mem_filter.mpr ⟨List.mem_of_getElem? (wl_5_ok (719, Cond.static yJ9_abs_067f4) (List.mem_of_getElem? (i := 49) rfl)), rfl⟩
set_option maxRecDepth 100000 in
theorem w_720 : Cond.code yJ9_abs_067f4 cJ9_abs_067f4 2 (some .long) ∈ lw_ok := List.mem_filter.mpr ⟨List.mem_of_getElem? (wl_5_ok (720, Cond.code yJ9_abs_067f4 cJ9_abs_067f4 2 (some .long)) (List.mem_of_getElem? (i := 50) rfl)), rfl⟩
set_option maxRecDepth 100000 in
theorem w_721 : Cond.methodLink RX0 24 yX0_commonDivisor ∈ lw_ok := List.mem_filter.mpr ⟨List.mem_of_getElem? (wl_5_ok (721, Cond.methodLink RX0 24 yX0_commonDivisor) (List.mem_of_getElem? (i := 51) rfl)), rfl⟩
set_option maxRecDepth 100000 in
theorem w_722 : Cond.static yX0_commonDivisor ∈ lw_ok := List.mem_filter.mpr ⟨List.mem_of_getElem? (wl_5_ok (722, Cond.static yX0_commonDivisor) (List.mem_of_getElem? (i := 52) rfl)), rfl⟩
set_option maxRecDepth 100000 in
theorem w_723 : Cond.code yX0_commonDivisor cX0_commonDivisor 11 (some .long) ∈ lw_ok := List.mem_filter.mpr ⟨List.mem_of_getElem? (wl_5_ok (723, Cond.code yX0_commonDivisor cX0_commonDivisor 11 (some .long)) (List.mem_of_getElem? (i := 53) rfl)), rfl⟩
set_option maxRecDepth 100000 in
theorem w_724 : Cond.methodLink RX8 171 yX0_part ∈ lw_ok := List.mem_filter.mpr ⟨List.mem_of_getElem? (wl_5_ok (724, Cond.methodLink RX8 171 yX0_part) (List.mem_of_getElem? (i := 54) rfl)), rfl⟩
set_option maxRecDepth 100000 in
theorem w_725 : Cond.instanceMethod yX0_part ∈ lw_ok := List.mem_filter.mpr ⟨List.mem_of_getElem? (wl_5_ok (725, Cond.instanceMethod yX0_part) (List.mem_of_getElem? (i := 55) rfl)), rfl⟩
set_option maxRecDepth 100000 in
theorem w_726 : Cond.selects RX0 yX0_part yX0_part ∈ lw_ok := List.mem_filter.mpr ⟨List.mem_of_getElem? (wl_5_ok (726, Cond.selects RX0 yX0_part yX0_part) (List.mem_of_getElem? (i := 56) rfl)), rfl⟩
set_option maxRecDepth 100000 in
theorem w_727 : Cond.code yX0_part cX0_part 2 (some .long) ∈ lw_ok := List.mem_filter.mpr ⟨List.mem_of_getElem? (wl_5_ok (727, Cond.code yX0_part cX0_part 2 (some .long)) (List.mem_of_getElem? (i := 57) rfl)), rfl⟩
set_option maxRecDepth 100000 in
theorem w_728 : Cond.methodLink "LeakyLineLaw" 58 yX8_amps ∈ lw_ok := List.mem_filter.mpr ⟨List.mem_of_getElem? (wl_5_ok (728, Cond.methodLink "LeakyLineLaw" 58 yX8_amps) (List.mem_of_getElem? (i := 58) rfl)), rfl⟩
set_option maxRecDepth 100000 in
theorem w_729 : Cond.instanceMethod yX8_amps ∈ lw_ok := List.mem_filter.mpr ⟨List.mem_of_getElem? (wl_5_ok (729, Cond.instanceMethod yX8_amps) (List.mem_of_getElem? (i := 59) rfl)), rfl⟩
set_option maxRecDepth 100000 in
theorem w_730 : Cond.selects RX8 yX8_amps yX8_amps ∈ lw_ok := List.mem_filter.mpr ⟨List.mem_of_getElem? (wl_5_ok (730, Cond.selects RX8 yX8_amps yX8_amps) (List.mem_of_getElem? (i := 60) rfl)), rfl⟩
set_option maxRecDepth 100000 in
theorem w_731 : Cond.code yX8_amps cX8_amps 3 (some .long) ∈ lw_ok := List.mem_filter.mpr ⟨List.mem_of_getElem? (wl_5_ok (731, Cond.code yX8_amps cX8_amps 3 (some .long)) (List.mem_of_getElem? (i := 61) rfl)), rfl⟩
set_option maxRecDepth 100000 in
theorem w_732 : Cond.methodLink RX8 178 yX1_firstAmps ∈ lw_ok := List.mem_filter.mpr ⟨List.mem_of_getElem? (wl_5_ok (732, Cond.methodLink RX8 178 yX1_firstAmps) (List.mem_of_getElem? (i := 62) rfl)), rfl⟩
set_option maxRecDepth 100000 in
theorem w_733 : Cond.methodLink RX8 186 yX8_partOf ∈ lw_ok := List.mem_filter.mpr ⟨List.mem_of_getElem? (wl_5_ok (733, Cond.methodLink RX8 186 yX8_partOf) (List.mem_of_getElem? (i := 63) rfl)), rfl⟩
set_option maxRecDepth 100000 in
theorem w_735 : Cond.instanceMethod yX8_partOf ∈ lw_ok := List.mem_filter.mpr ⟨List.mem_of_getElem? (wl_5_ok (735, Cond.instanceMethod yX8_partOf) (List.mem_of_getElem? (i := 64) rfl)), rfl⟩
set_option maxRecDepth 100000 in
theorem w_736 : Cond.code yX8_partOf cX8_partOf 6 (some .long) ∈ lw_ok := List.mem_filter.mpr ⟨List.mem_of_getElem? (wl_5_ok (736, Cond.code yX8_partOf cX8_partOf 6 (some .long)) (List.mem_of_getElem? (i := 65) rfl)), rfl⟩
set_option maxRecDepth 100000 in
theorem w_737 : Cond.methodLink RX8 395 yX0_set ∈ lw_ok := List.mem_filter.mpr ⟨List.mem_of_getElem? (wl_5_ok (737, Cond.methodLink RX8 395 yX0_set) (List.mem_of_getElem? (i := 66) rfl)), rfl⟩
set_option maxRecDepth 100000 in
theorem w_738 : Cond.methodLink "LeakyLineLaw" 62 yX8_volts ∈ lw_ok := List.mem_filter.mpr ⟨List.mem_of_getElem? (wl_5_ok (738, Cond.methodLink "LeakyLineLaw" 62 yX8_volts) (List.mem_of_getElem? (i := 67) rfl)), rfl⟩
set_option maxRecDepth 100000 in
theorem w_739 : Cond.instanceMethod yX8_volts ∈ lw_ok := List.mem_filter.mpr ⟨List.mem_of_getElem? (wl_5_ok (739, Cond.instanceMethod yX8_volts) (List.mem_of_getElem? (i := 68) rfl)), rfl⟩
set_option maxRecDepth 100000 in
theorem w_740 : Cond.selects RX8 yX8_volts yX8_volts ∈ lw_ok := List.mem_filter.mpr ⟨List.mem_of_getElem? (wl_5_ok (740, Cond.selects RX8 yX8_volts yX8_volts) (List.mem_of_getElem? (i := 69) rfl)), rfl⟩
set_option maxRecDepth 100000 in
theorem w_741 : Cond.code yX8_volts cX8_volts 4 (some .long) ∈ lw_ok := List.mem_filter.mpr ⟨List.mem_of_getElem? (wl_5_ok (741, Cond.code yX8_volts cX8_volts 4 (some .long)) (List.mem_of_getElem? (i := 70) rfl)), rfl⟩
set_option maxRecDepth 100000 in
theorem w_742 : Cond.methodLink "LeakyLineLaw" 67 yX8_whole ∈ lw_ok := List.mem_filter.mpr ⟨List.mem_of_getElem? (wl_5_ok (742, Cond.methodLink "LeakyLineLaw" 67 yX8_whole) (List.mem_of_getElem? (i := 71) rfl)), rfl⟩
set_option maxRecDepth 100000 in
theorem w_743 : Cond.instanceMethod yX8_whole ∈ lw_ok := List.mem_filter.mpr ⟨List.mem_of_getElem? (wl_5_ok (743, Cond.instanceMethod yX8_whole) (List.mem_of_getElem? (i := 72) rfl)), rfl⟩
set_option maxRecDepth 100000 in
theorem w_744 : Cond.selects RX8 yX8_whole yX8_whole ∈ lw_ok := List.mem_filter.mpr ⟨List.mem_of_getElem? (wl_5_ok (744, Cond.selects RX8 yX8_whole yX8_whole) (List.mem_of_getElem? (i := 73) rfl)), rfl⟩
set_option maxRecDepth 100000 in
theorem w_745 : Cond.code yX8_whole cX8_whole 3 (some .int) ∈ lw_ok := List.mem_filter.mpr ⟨List.mem_of_getElem? (wl_5_ok (745, Cond.code yX8_whole cX8_whole 3 (some .int)) (List.mem_of_getElem? (i := 74) rfl)), rfl⟩
set_option maxRecDepth 100000 in
theorem w_746 : Cond.methodLink RX8 192 yX8_wholeVolts ∈ lw_ok := List.mem_filter.mpr ⟨List.mem_of_getElem? (wl_5_ok (746, Cond.methodLink RX8 192 yX8_wholeVolts) (List.mem_of_getElem? (i := 75) rfl)), rfl⟩
set_option maxRecDepth 100000 in
theorem w_748 : Cond.instanceMethod yX8_wholeVolts ∈ lw_ok := List.mem_filter.mpr ⟨List.mem_of_getElem? (wl_5_ok (748, Cond.instanceMethod yX8_wholeVolts) (List.mem_of_getElem? (i := 76) rfl)), rfl⟩
set_option maxRecDepth 100000 in
theorem w_749 : Cond.code yX8_wholeVolts cX8_wholeVolts 4 (some .int) ∈ lw_ok := List.mem_filter.mpr ⟨List.mem_of_getElem? (wl_5_ok (749, Cond.code yX8_wholeVolts cX8_wholeVolts 4 (some .int)) (List.mem_of_getElem? (i := 77) rfl)), rfl⟩
set_option maxRecDepth 100000 in
theorem w_750 : Cond.methodLink "LeakyLineLaw" 71 yX8_falls ∈ lw_ok := List.mem_filter.mpr ⟨List.mem_of_getElem? (wl_5_ok (750, Cond.methodLink "LeakyLineLaw" 71 yX8_falls) (List.mem_of_getElem? (i := 78) rfl)), rfl⟩
set_option maxRecDepth 100000 in
theorem w_751 : Cond.instanceMethod yX8_falls ∈ lw_ok := List.mem_filter.mpr ⟨List.mem_of_getElem? (wl_5_ok (751, Cond.instanceMethod yX8_falls) (List.mem_of_getElem? (i := 79) rfl)), rfl⟩
set_option maxRecDepth 100000 in
theorem w_752 : Cond.selects RX8 yX8_falls yX8_falls ∈ lw_ok := List.mem_filter.mpr ⟨List.mem_of_getElem? (wl_5_ok (752, Cond.selects RX8 yX8_falls yX8_falls) (List.mem_of_getElem? (i := 80) rfl)), rfl⟩
set_option maxRecDepth 100000 in
theorem w_753 : Cond.code yX8_falls cX8_falls 4 (some .long) ∈ lw_ok := List.mem_filter.mpr ⟨List.mem_of_getElem? (wl_5_ok (753, Cond.code yX8_falls cX8_falls 4 (some .long)) (List.mem_of_getElem? (i := 81) rfl)), rfl⟩
set_option maxRecDepth 100000 in
theorem w_754 : Cond.methodLink RX8 196 yX1_fallOver ∈ lw_ok := List.mem_filter.mpr ⟨List.mem_of_getElem? (wl_5_ok (754, Cond.methodLink RX8 196 yX1_fallOver) (List.mem_of_getElem? (i := 82) rfl)), rfl⟩
set_option maxRecDepth 100000 in
theorem w_755 : Cond.instanceMethod yX1_fallOver ∈ lw_ok := List.mem_filter.mpr ⟨List.mem_of_getElem? (wl_5_ok (755, Cond.instanceMethod yX1_fallOver) (List.mem_of_getElem? (i := 83) rfl)), rfl⟩
set_option maxRecDepth 100000 in
theorem w_756 : Cond.selects RX1 yX1_fallOver yX1_fallOver ∈ lw_ok := List.mem_filter.mpr ⟨List.mem_of_getElem? (wl_5_ok (756, Cond.selects RX1 yX1_fallOver yX1_fallOver) (List.mem_of_getElem? (i := 84) rfl)), rfl⟩
set_option maxRecDepth 100000 in
theorem w_757 : Cond.code yX1_fallOver cX1_fallOver 2 (some .long) ∈ lw_ok := List.mem_filter.mpr ⟨List.mem_of_getElem? (wl_5_ok (757, Cond.code yX1_fallOver cX1_fallOver 2 (some .long)) (List.mem_of_getElem? (i := 85) rfl)), rfl⟩
set_option maxRecDepth 100000 in
theorem w_758 : Cond.methodLink "LeakyLineLaw" 75 yX8_earth ∈ lw_ok := List.mem_filter.mpr ⟨List.mem_of_getElem? (wl_5_ok (758, Cond.methodLink "LeakyLineLaw" 75 yX8_earth) (List.mem_of_getElem? (i := 86) rfl)), rfl⟩
set_option maxRecDepth 100000 in
theorem w_759 : Cond.instanceMethod yX8_earth ∈ lw_ok := List.mem_filter.mpr ⟨List.mem_of_getElem? (wl_5_ok (759, Cond.instanceMethod yX8_earth) (List.mem_of_getElem? (i := 87) rfl)), rfl⟩
set_option maxRecDepth 100000 in
theorem w_760 : Cond.selects RX8 yX8_earth yX8_earth ∈ lw_ok := List.mem_filter.mpr ⟨List.mem_of_getElem? (wl_5_ok (760, Cond.selects RX8 yX8_earth yX8_earth) (List.mem_of_getElem? (i := 88) rfl)), rfl⟩
set_option maxRecDepth 100000 in
theorem w_761 : Cond.code yX8_earth cX8_earth 4 (some .long) ∈ lw_ok := List.mem_filter.mpr ⟨List.mem_of_getElem? (wl_5_ok (761, Cond.code yX8_earth cX8_earth 4 (some .long)) (List.mem_of_getElem? (i := 89) rfl)), rfl⟩
set_option maxRecDepth 100000 in
theorem w_762 : Cond.methodLink "LeakyLineLaw" 79 yX8_sore ∈ lw_ok := List.mem_filter.mpr ⟨List.mem_of_getElem? (wl_5_ok (762, Cond.methodLink "LeakyLineLaw" 79 yX8_sore) (List.mem_of_getElem? (i := 90) rfl)), rfl⟩
set_option maxRecDepth 100000 in
theorem w_763 : Cond.instanceMethod yX8_sore ∈ lw_ok := List.mem_filter.mpr ⟨List.mem_of_getElem? (wl_5_ok (763, Cond.instanceMethod yX8_sore) (List.mem_of_getElem? (i := 91) rfl)), rfl⟩
set_option maxRecDepth 100000 in
theorem w_764 : Cond.selects RX8 yX8_sore yX8_sore ∈ lw_ok := List.mem_filter.mpr ⟨List.mem_of_getElem? (wl_5_ok (764, Cond.selects RX8 yX8_sore yX8_sore) (List.mem_of_getElem? (i := 92) rfl)), rfl⟩
set_option maxRecDepth 100000 in
theorem w_765 : Cond.code yX8_sore cX8_sore 4 (some .int) ∈ lw_ok := List.mem_filter.mpr ⟨List.mem_of_getElem? (wl_5_ok (765, Cond.code yX8_sore cX8_sore 4 (some .int)) (List.mem_of_getElem? (i := 93) rfl)), rfl⟩
set_option maxRecDepth 100000 in
theorem w_766 : Cond.methodLink RX8 203 yX1_leaksMore ∈ lw_ok := List.mem_filter.mpr ⟨List.mem_of_getElem? (wl_5_ok (766, Cond.methodLink RX8 203 yX1_leaksMore) (List.mem_of_getElem? (i := 94) rfl)), rfl⟩
set_option maxRecDepth 100000 in
theorem w_767 : Cond.instanceMethod yX1_leaksMore ∈ lw_ok := List.mem_filter.mpr ⟨List.mem_of_getElem? (wl_5_ok (767, Cond.instanceMethod yX1_leaksMore) (List.mem_of_getElem? (i := 95) rfl)), rfl⟩
set_option maxRecDepth 100000 in
theorem w_768 : Cond.selects RX1 yX1_leaksMore yX1_leaksMore ∈ lw_ok := List.mem_filter.mpr ⟨List.mem_of_getElem? (wl_5_ok (768, Cond.selects RX1 yX1_leaksMore yX1_leaksMore) (List.mem_of_getElem? (i := 96) rfl)), rfl⟩
set_option maxRecDepth 100000 in
theorem w_769 : Cond.code yX1_leaksMore cX1_leaksMore 3 (some .boolean) ∈ lw_ok := List.mem_filter.mpr ⟨List.mem_of_getElem? (wl_5_ok (769, Cond.code yX1_leaksMore cX1_leaksMore 3 (some .boolean)) (List.mem_of_getElem? (i := 97) rfl)), rfl⟩
set_option maxRecDepth 100000 in
theorem w_770 : Cond.methodLink "LeakyLineLaw" 83 yX8_hears ∈ lw_ok := List.mem_filter.mpr ⟨List.mem_of_getElem? (wl_5_ok (770, Cond.methodLink "LeakyLineLaw" 83 yX8_hears) (List.mem_of_getElem? (i := 98) rfl)), rfl⟩
set_option maxRecDepth 100000 in
theorem w_771 : Cond.instanceMethod yX8_hears ∈ lw_ok := List.mem_filter.mpr ⟨List.mem_of_getElem? (wl_5_ok (771, Cond.instanceMethod yX8_hears) (List.mem_of_getElem? (i := 99) rfl)), rfl⟩
def wl_6 : List (Nat × Cond) := [(772, Cond.selects RX8 yX8_hears yX8_hears), (773, Cond.code yX8_hears cX8_hears 2 (some .int)), (774, Cond.methodLink RX8 207 yX8_heardBits), (776, Cond.instanceMethod yX8_heardBits), (777, Cond.code yX8_heardBits cX8_heardBits 4 (some .int)), (778, Cond.methodLink RX8 213 yX8_isStation), (780, Cond.instanceMethod yX8_isStation), (781, Cond.code yX8_isStation cX8_isStation 2 (some .boolean)), (782, Cond.methodLink RX8 399 yX1_isEnough), (783, Cond.instanceMethod yX1_isEnough), (784, Cond.selects RX1 yX1_isEnough yX1_isEnough), (785, Cond.code yX1_isEnough cX1_isEnough 6 (some .boolean)), (786, Cond.methodLink "LeakyLineLaw" 87 yX8_silent), (787, Cond.instanceMethod yX8_silent), (788, Cond.selects RX8 yX8_silent yX8_silent), (789, Cond.code yX8_silent cX8_silent 2 (some .int)), (790, Cond.methodLink "LeakyLineLaw" 91 yX8_faint), (791, Cond.instanceMethod yX8_faint), (792, Cond.selects RX8 yX8_faint yX8_faint), (793, Cond.code yX8_faint cX8_faint 4 (some .int)), (794, Cond.methodLink "LeakyLineLaw" 95 yX8_when), (795, Cond.instanceMethod yX8_when), (796, Cond.selects RX8 yX8_when yX8_when), (797, Cond.code yX8_when cX8_when 3 (some .int)), (798, Cond.methodLink RX8 216 yX8_allDays), (800, Cond.instanceMethod yX8_allDays), (801, Cond.code yX8_allDays cX8_allDays 1 (some .int)), (802, Cond.methodLink RX8 219 yX8_hearingDays), (804, Cond.instanceMethod yX8_hearingDays), (805, Cond.code yX8_hearingDays cX8_hearingDays 2 (some .int)), (806, Cond.methodLink RX8 403 yX8_daysHeard), (808, Cond.instanceMethod yX8_daysHeard), (809, Cond.code yX8_daysHeard cX8_daysHeard 4 (some .int)), (810, Cond.methodLink RX8 272 yX8_hasBit), (811, Cond.methodLink RX8 222 yJ6_numberOfTrailingZeros_0f7a4), (812, Cond.static yJ6_numberOfTrailingZeros_0f7a4), (813, Cond.code yJ6_numberOfTrailingZeros_0f7a4 cJ6_numberOfTrailingZeros_0f7a4 2 (some .int)), (814, Cond.methodLink "LeakyLineLaw" 99 yX8_deaf), (815, Cond.instanceMethod yX8_deaf), (816, Cond.selects RX8 yX8_deaf yX8_deaf), (817, Cond.code yX8_deaf cX8_deaf 2 (some .int)), (818, Cond.methodLink RX8 227 yJ6_bitCount_0f7a4), (819, Cond.methodLink "LeakyLineLaw" 103 yX8_longest), (820, Cond.instanceMethod yX8_longest), (821, Cond.selects RX8 yX8_longest yX8_longest), (822, Cond.code yX8_longest cX8_longest 2 (some .int)), (823, Cond.methodLink RX8 230 yX8_longestRun), (824, Cond.static yX8_longestRun), (825, Cond.code yX8_longestRun cX8_longestRun 4 (some .int)), (826, Cond.methodLink RX8 249 yJ9_max_7cf53), (827, Cond.methodLink "LeakyLineLaw" 107 yX8_flips), (828, Cond.instanceMethod yX8_flips), (829, Cond.selects RX8 yX8_flips yX8_flips), (830, Cond.code yX8_flips cX8_flips 3 (some .int)), (831, Cond.methodLink "LeakyLineLaw" 111 yX8_clear), (832, Cond.instanceMethod yX8_clear), (833, Cond.selects RX8 yX8_clear yX8_clear), (834, Cond.code yX8_clear cX8_clear 1 (some .int)), (835, Cond.methodLink RX8 233 yX8_clearDays), (837, Cond.instanceMethod yX8_clearDays), (838, Cond.code yX8_clearDays cX8_clearDays 3 (some .int)), (839, Cond.methodLink RX8 239 yX8_listenAsTold), (841, Cond.instanceMethod yX8_listenAsTold), (842, Cond.code yX8_listenAsTold cX8_listenAsTold 2 none), (843, Cond.methodLink "LeakyLineLaw" 115 yX8_last), (844, Cond.instanceMethod yX8_last), (845, Cond.selects RX8 yX8_last yX8_last), (846, Cond.code yX8_last cX8_last 1 (some .int)), (847, Cond.methodLink RX8 236 yX8_highestBit), (848, Cond.static yX8_highestBit), (849, Cond.code yX8_highestBit cX8_highestBit 1 (some .int)), (850, Cond.methodLink RX8 392 yJ6_numberOfLeadingZeros_0f7a4), (851, Cond.methodLink "LeakyLineLaw" 119 yX8_dim), (852, Cond.instanceMethod yX8_dim), (853, Cond.selects RX8 yX8_dim yX8_dim), (854, Cond.code yX8_dim cX8_dim 3 (some .int)), (855, Cond.methodLink "LeakyLineLaw" 123 yX8_sum), (856, Cond.instanceMethod yX8_sum), (857, Cond.selects RX8 yX8_sum yX8_sum), (858, Cond.code yX8_sum cX8_sum 1 (some .int)), (859, Cond.methodLink RX8 245 yX8_heardInAll), (861, Cond.instanceMethod yX8_heardInAll), (862, Cond.code yX8_heardInAll cX8_heardInAll 3 (some .int)), (863, Cond.methodLink "LeakyLineLaw" 127 yX8_worst), (864, Cond.instanceMethod yX8_worst), (865, Cond.selects RX8 yX8_worst yX8_worst), (866, Cond.code yX8_worst cX8_worst 4 (some .int)), (867, Cond.methodLink "LeakyLineLaw" 131 yX8_damp), (868, Cond.instanceMethod yX8_damp), (869, Cond.selects RX8 yX8_damp yX8_damp), (870, Cond.code yX8_damp cX8_damp 4 (some .int)), (871, Cond.methodLink "LeakyLineLaw" 135 yX8_spell), (872, Cond.instanceMethod yX8_spell), (873, Cond.selects RX8 yX8_spell yX8_spell), (874, Cond.code yX8_spell cX8_spell 1 (some .int)), (875, Cond.methodLink "LeakyLineLaw" 139 yX8_margin), (876, Cond.instanceMethod yX8_margin), (877, Cond.selects RX8 yX8_margin yX8_margin), (878, Cond.code yX8_margin cX8_margin 3 (some .int)), (879, Cond.methodLink "LeakyLineLaw" 143 yX8_bright)]
set_option maxRecDepth 100000 in
theorem wl_6_ok : ∀ x ∈ wl_6, lw_tbl[x.1]? = some x.2 := by decide +kernel
set_option maxRecDepth 100000 in
theorem w_772 : Cond.selects RX8 yX8_hears yX8_hears ∈ lw_ok := List.mem_filter.mpr ⟨List.mem_of_getElem? (wl_6_ok (772, Cond.selects RX8 yX8_hears yX8_hears) (List.mem_of_getElem? (i := 0) rfl)), rfl⟩
set_option maxRecDepth 100000 in
theorem w_773 : Cond.code yX8_hears cX8_hears 2 (some .int) ∈ lw_ok := List.mem_filter.mpr ⟨List.mem_of_getElem? (wl_6_ok (773, Cond.code yX8_hears cX8_hears 2 (some .int)) (List.mem_of_getElem? (i := 1) rfl)), rfl⟩
set_option maxRecDepth 100000 in
theorem w_774 : Cond.methodLink RX8 207 yX8_heardBits ∈ lw_ok := List.mem_filter.mpr ⟨List.mem_of_getElem? (wl_6_ok (774, Cond.methodLink RX8 207 yX8_heardBits) (List.mem_of_getElem? (i := 2) rfl)), rfl⟩
set_option maxRecDepth 100000 in
theorem w_776 : Cond.instanceMethod yX8_heardBits ∈ lw_ok := List.mem_filter.mpr ⟨List.mem_of_getElem? (wl_6_ok (776, Cond.instanceMethod yX8_heardBits) (List.mem_of_getElem? (i := 3) rfl)), rfl⟩
set_option maxRecDepth 100000 in
theorem w_777 : Cond.code yX8_heardBits cX8_heardBits 4 (some .int) ∈ lw_ok := List.mem_filter.mpr ⟨List.mem_of_getElem? (wl_6_ok (777, Cond.code yX8_heardBits cX8_heardBits 4 (some .int)) (List.mem_of_getElem? (i := 4) rfl)), rfl⟩
set_option maxRecDepth 100000 in
theorem w_778 : Cond.methodLink RX8 213 yX8_isStation ∈ lw_ok := List.mem_filter.mpr ⟨List.mem_of_getElem? (wl_6_ok (778, Cond.methodLink RX8 213 yX8_isStation) (List.mem_of_getElem? (i := 5) rfl)), rfl⟩
set_option maxRecDepth 100000 in
theorem w_780 : Cond.instanceMethod yX8_isStation ∈ lw_ok := List.mem_filter.mpr ⟨List.mem_of_getElem? (wl_6_ok (780, Cond.instanceMethod yX8_isStation) (List.mem_of_getElem? (i := 6) rfl)), rfl⟩
set_option maxRecDepth 100000 in
theorem w_781 : Cond.code yX8_isStation cX8_isStation 2 (some .boolean) ∈ lw_ok := List.mem_filter.mpr ⟨List.mem_of_getElem? (wl_6_ok (781, Cond.code yX8_isStation cX8_isStation 2 (some .boolean)) (List.mem_of_getElem? (i := 7) rfl)), rfl⟩
set_option maxRecDepth 100000 in
theorem w_782 : Cond.methodLink RX8 399 yX1_isEnough ∈ lw_ok := List.mem_filter.mpr ⟨List.mem_of_getElem? (wl_6_ok (782, Cond.methodLink RX8 399 yX1_isEnough) (List.mem_of_getElem? (i := 8) rfl)), rfl⟩
set_option maxRecDepth 100000 in
theorem w_783 : Cond.instanceMethod yX1_isEnough ∈ lw_ok := List.mem_filter.mpr ⟨List.mem_of_getElem? (wl_6_ok (783, Cond.instanceMethod yX1_isEnough) (List.mem_of_getElem? (i := 9) rfl)), rfl⟩
set_option maxRecDepth 100000 in
theorem w_784 : Cond.selects RX1 yX1_isEnough yX1_isEnough ∈ lw_ok := List.mem_filter.mpr ⟨List.mem_of_getElem? (wl_6_ok (784, Cond.selects RX1 yX1_isEnough yX1_isEnough) (List.mem_of_getElem? (i := 10) rfl)), rfl⟩
set_option maxRecDepth 100000 in
theorem w_785 : Cond.code yX1_isEnough cX1_isEnough 6 (some .boolean) ∈ lw_ok := List.mem_filter.mpr ⟨List.mem_of_getElem? (wl_6_ok (785, Cond.code yX1_isEnough cX1_isEnough 6 (some .boolean)) (List.mem_of_getElem? (i := 11) rfl)), rfl⟩
set_option maxRecDepth 100000 in
theorem w_786 : Cond.methodLink "LeakyLineLaw" 87 yX8_silent ∈ lw_ok := List.mem_filter.mpr ⟨List.mem_of_getElem? (wl_6_ok (786, Cond.methodLink "LeakyLineLaw" 87 yX8_silent) (List.mem_of_getElem? (i := 12) rfl)), rfl⟩
set_option maxRecDepth 100000 in
theorem w_787 : Cond.instanceMethod yX8_silent ∈ lw_ok := List.mem_filter.mpr ⟨List.mem_of_getElem? (wl_6_ok (787, Cond.instanceMethod yX8_silent) (List.mem_of_getElem? (i := 13) rfl)), rfl⟩
set_option maxRecDepth 100000 in
theorem w_788 : Cond.selects RX8 yX8_silent yX8_silent ∈ lw_ok := List.mem_filter.mpr ⟨List.mem_of_getElem? (wl_6_ok (788, Cond.selects RX8 yX8_silent yX8_silent) (List.mem_of_getElem? (i := 14) rfl)), rfl⟩
set_option maxRecDepth 100000 in
theorem w_789 : Cond.code yX8_silent cX8_silent 2 (some .int) ∈ lw_ok := List.mem_filter.mpr ⟨List.mem_of_getElem? (wl_6_ok (789, Cond.code yX8_silent cX8_silent 2 (some .int)) (List.mem_of_getElem? (i := 15) rfl)), rfl⟩
set_option maxRecDepth 100000 in
theorem w_790 : Cond.methodLink "LeakyLineLaw" 91 yX8_faint ∈ lw_ok := List.mem_filter.mpr ⟨List.mem_of_getElem? (wl_6_ok (790, Cond.methodLink "LeakyLineLaw" 91 yX8_faint) (List.mem_of_getElem? (i := 16) rfl)), rfl⟩
set_option maxRecDepth 100000 in
theorem w_791 : Cond.instanceMethod yX8_faint ∈ lw_ok := List.mem_filter.mpr ⟨List.mem_of_getElem? (wl_6_ok (791, Cond.instanceMethod yX8_faint) (List.mem_of_getElem? (i := 17) rfl)), rfl⟩
set_option maxRecDepth 100000 in
theorem w_792 : Cond.selects RX8 yX8_faint yX8_faint ∈ lw_ok := List.mem_filter.mpr ⟨List.mem_of_getElem? (wl_6_ok (792, Cond.selects RX8 yX8_faint yX8_faint) (List.mem_of_getElem? (i := 18) rfl)), rfl⟩
set_option maxRecDepth 100000 in
theorem w_793 : Cond.code yX8_faint cX8_faint 4 (some .int) ∈ lw_ok := List.mem_filter.mpr ⟨List.mem_of_getElem? (wl_6_ok (793, Cond.code yX8_faint cX8_faint 4 (some .int)) (List.mem_of_getElem? (i := 19) rfl)), rfl⟩
set_option maxRecDepth 100000 in
theorem w_794 : Cond.methodLink "LeakyLineLaw" 95 yX8_when ∈ lw_ok := List.mem_filter.mpr ⟨List.mem_of_getElem? (wl_6_ok (794, Cond.methodLink "LeakyLineLaw" 95 yX8_when) (List.mem_of_getElem? (i := 20) rfl)), rfl⟩
set_option maxRecDepth 100000 in
theorem w_795 : Cond.instanceMethod yX8_when ∈ lw_ok := List.mem_filter.mpr ⟨List.mem_of_getElem? (wl_6_ok (795, Cond.instanceMethod yX8_when) (List.mem_of_getElem? (i := 21) rfl)), rfl⟩
set_option maxRecDepth 100000 in
theorem w_796 : Cond.selects RX8 yX8_when yX8_when ∈ lw_ok := List.mem_filter.mpr ⟨List.mem_of_getElem? (wl_6_ok (796, Cond.selects RX8 yX8_when yX8_when) (List.mem_of_getElem? (i := 22) rfl)), rfl⟩
set_option maxRecDepth 100000 in
theorem w_797 : Cond.code yX8_when cX8_when 3 (some .int) ∈ lw_ok := List.mem_filter.mpr ⟨List.mem_of_getElem? (wl_6_ok (797, Cond.code yX8_when cX8_when 3 (some .int)) (List.mem_of_getElem? (i := 23) rfl)), rfl⟩
set_option maxRecDepth 100000 in
theorem w_798 : Cond.methodLink RX8 216 yX8_allDays ∈ lw_ok := List.mem_filter.mpr ⟨List.mem_of_getElem? (wl_6_ok (798, Cond.methodLink RX8 216 yX8_allDays) (List.mem_of_getElem? (i := 24) rfl)), rfl⟩
set_option maxRecDepth 100000 in
theorem w_800 : Cond.instanceMethod yX8_allDays ∈ lw_ok := List.mem_filter.mpr ⟨List.mem_of_getElem? (wl_6_ok (800, Cond.instanceMethod yX8_allDays) (List.mem_of_getElem? (i := 25) rfl)), rfl⟩
set_option maxRecDepth 100000 in
theorem w_801 : Cond.code yX8_allDays cX8_allDays 1 (some .int) ∈ lw_ok := List.mem_filter.mpr ⟨List.mem_of_getElem? (wl_6_ok (801, Cond.code yX8_allDays cX8_allDays 1 (some .int)) (List.mem_of_getElem? (i := 26) rfl)), rfl⟩
set_option maxRecDepth 100000 in
theorem w_802 : Cond.methodLink RX8 219 yX8_hearingDays ∈ lw_ok := List.mem_filter.mpr ⟨List.mem_of_getElem? (wl_6_ok (802, Cond.methodLink RX8 219 yX8_hearingDays) (List.mem_of_getElem? (i := 27) rfl)), rfl⟩
set_option maxRecDepth 100000 in
theorem w_804 : Cond.instanceMethod yX8_hearingDays ∈ lw_ok := List.mem_filter.mpr ⟨List.mem_of_getElem? (wl_6_ok (804, Cond.instanceMethod yX8_hearingDays) (List.mem_of_getElem? (i := 28) rfl)), rfl⟩
set_option maxRecDepth 100000 in
theorem w_805 : Cond.code yX8_hearingDays cX8_hearingDays 2 (some .int) ∈ lw_ok := List.mem_filter.mpr ⟨List.mem_of_getElem? (wl_6_ok (805, Cond.code yX8_hearingDays cX8_hearingDays 2 (some .int)) (List.mem_of_getElem? (i := 29) rfl)), rfl⟩
set_option maxRecDepth 100000 in
theorem w_806 : Cond.methodLink RX8 403 yX8_daysHeard ∈ lw_ok := List.mem_filter.mpr ⟨List.mem_of_getElem? (wl_6_ok (806, Cond.methodLink RX8 403 yX8_daysHeard) (List.mem_of_getElem? (i := 30) rfl)), rfl⟩
set_option maxRecDepth 100000 in
theorem w_808 : Cond.instanceMethod yX8_daysHeard ∈ lw_ok := List.mem_filter.mpr ⟨List.mem_of_getElem? (wl_6_ok (808, Cond.instanceMethod yX8_daysHeard) (List.mem_of_getElem? (i := 31) rfl)), rfl⟩
set_option maxRecDepth 100000 in
theorem w_809 : Cond.code yX8_daysHeard cX8_daysHeard 4 (some .int) ∈ lw_ok := List.mem_filter.mpr ⟨List.mem_of_getElem? (wl_6_ok (809, Cond.code yX8_daysHeard cX8_daysHeard 4 (some .int)) (List.mem_of_getElem? (i := 32) rfl)), rfl⟩
set_option maxRecDepth 100000 in
theorem w_810 : Cond.methodLink RX8 272 yX8_hasBit ∈ lw_ok := List.mem_filter.mpr ⟨List.mem_of_getElem? (wl_6_ok (810, Cond.methodLink RX8 272 yX8_hasBit) (List.mem_of_getElem? (i := 33) rfl)), rfl⟩
set_option maxRecDepth 100000 in
theorem w_811 : Cond.methodLink RX8 222 yJ6_numberOfTrailingZeros_0f7a4 ∈ lw_ok := List.mem_filter.mpr ⟨List.mem_of_getElem? (wl_6_ok (811, Cond.methodLink RX8 222 yJ6_numberOfTrailingZeros_0f7a4) (List.mem_of_getElem? (i := 34) rfl)), rfl⟩
set_option maxRecDepth 100000 in
theorem w_812 : Cond.static yJ6_numberOfTrailingZeros_0f7a4 ∈ lw_ok := List.mem_filter.mpr ⟨List.mem_of_getElem? (wl_6_ok (812, Cond.static yJ6_numberOfTrailingZeros_0f7a4) (List.mem_of_getElem? (i := 35) rfl)), rfl⟩
set_option maxRecDepth 100000 in
theorem w_813 : Cond.code yJ6_numberOfTrailingZeros_0f7a4 cJ6_numberOfTrailingZeros_0f7a4 2 (some .int) ∈ lw_ok := List.mem_filter.mpr ⟨List.mem_of_getElem? (wl_6_ok (813, Cond.code yJ6_numberOfTrailingZeros_0f7a4 cJ6_numberOfTrailingZeros_0f7a4 2 (some .int)) (List.mem_of_getElem? (i := 36) rfl)), rfl⟩
set_option maxRecDepth 100000 in
theorem w_814 : Cond.methodLink "LeakyLineLaw" 99 yX8_deaf ∈ lw_ok := List.mem_filter.mpr ⟨List.mem_of_getElem? (wl_6_ok (814, Cond.methodLink "LeakyLineLaw" 99 yX8_deaf) (List.mem_of_getElem? (i := 37) rfl)), rfl⟩
set_option maxRecDepth 100000 in
theorem w_815 : Cond.instanceMethod yX8_deaf ∈ lw_ok := List.mem_filter.mpr ⟨List.mem_of_getElem? (wl_6_ok (815, Cond.instanceMethod yX8_deaf) (List.mem_of_getElem? (i := 38) rfl)), rfl⟩
set_option maxRecDepth 100000 in
theorem w_816 : Cond.selects RX8 yX8_deaf yX8_deaf ∈ lw_ok := List.mem_filter.mpr ⟨List.mem_of_getElem? (wl_6_ok (816, Cond.selects RX8 yX8_deaf yX8_deaf) (List.mem_of_getElem? (i := 39) rfl)), rfl⟩
set_option maxRecDepth 100000 in
theorem w_817 : Cond.code yX8_deaf cX8_deaf 2 (some .int) ∈ lw_ok := List.mem_filter.mpr ⟨List.mem_of_getElem? (wl_6_ok (817, Cond.code yX8_deaf cX8_deaf 2 (some .int)) (List.mem_of_getElem? (i := 40) rfl)), rfl⟩
set_option maxRecDepth 100000 in
theorem w_818 : Cond.methodLink RX8 227 yJ6_bitCount_0f7a4 ∈ lw_ok := List.mem_filter.mpr ⟨List.mem_of_getElem? (wl_6_ok (818, Cond.methodLink RX8 227 yJ6_bitCount_0f7a4) (List.mem_of_getElem? (i := 41) rfl)), rfl⟩
set_option maxRecDepth 100000 in
theorem w_819 : Cond.methodLink "LeakyLineLaw" 103 yX8_longest ∈ lw_ok := List.mem_filter.mpr ⟨List.mem_of_getElem? (wl_6_ok (819, Cond.methodLink "LeakyLineLaw" 103 yX8_longest) (List.mem_of_getElem? (i := 42) rfl)), rfl⟩
set_option maxRecDepth 100000 in
theorem w_820 : Cond.instanceMethod yX8_longest ∈ lw_ok := List.mem_filter.mpr ⟨List.mem_of_getElem? (wl_6_ok (820, Cond.instanceMethod yX8_longest) (List.mem_of_getElem? (i := 43) rfl)), rfl⟩
set_option maxRecDepth 100000 in
theorem w_821 : Cond.selects RX8 yX8_longest yX8_longest ∈ lw_ok := List.mem_filter.mpr ⟨List.mem_of_getElem? (wl_6_ok (821, Cond.selects RX8 yX8_longest yX8_longest) (List.mem_of_getElem? (i := 44) rfl)), rfl⟩
set_option maxRecDepth 100000 in
theorem w_822 : Cond.code yX8_longest cX8_longest 2 (some .int) ∈ lw_ok := List.mem_filter.mpr ⟨List.mem_of_getElem? (wl_6_ok (822, Cond.code yX8_longest cX8_longest 2 (some .int)) (List.mem_of_getElem? (i := 45) rfl)), rfl⟩
set_option maxRecDepth 100000 in
theorem w_823 : Cond.methodLink RX8 230 yX8_longestRun ∈ lw_ok := List.mem_filter.mpr ⟨List.mem_of_getElem? (wl_6_ok (823, Cond.methodLink RX8 230 yX8_longestRun) (List.mem_of_getElem? (i := 46) rfl)), rfl⟩
set_option maxRecDepth 100000 in
theorem w_824 : Cond.static yX8_longestRun ∈ lw_ok := List.mem_filter.mpr ⟨List.mem_of_getElem? (wl_6_ok (824, Cond.static yX8_longestRun) (List.mem_of_getElem? (i := 47) rfl)), rfl⟩
set_option maxRecDepth 100000 in
theorem w_825 : Cond.code yX8_longestRun cX8_longestRun 4 (some .int) ∈ lw_ok := List.mem_filter.mpr ⟨List.mem_of_getElem? (wl_6_ok (825, Cond.code yX8_longestRun cX8_longestRun 4 (some .int)) (List.mem_of_getElem? (i := 48) rfl)), rfl⟩
set_option maxRecDepth 100000 in
theorem w_826 : Cond.methodLink RX8 249 yJ9_max_7cf53 ∈ lw_ok := List.mem_filter.mpr ⟨List.mem_of_getElem? (wl_6_ok (826, Cond.methodLink RX8 249 yJ9_max_7cf53) (List.mem_of_getElem? (i := 49) rfl)), rfl⟩
set_option maxRecDepth 100000 in
theorem w_827 : Cond.methodLink "LeakyLineLaw" 107 yX8_flips ∈ lw_ok := List.mem_filter.mpr ⟨List.mem_of_getElem? (wl_6_ok (827, Cond.methodLink "LeakyLineLaw" 107 yX8_flips) (List.mem_of_getElem? (i := 50) rfl)), rfl⟩
set_option maxRecDepth 100000 in
theorem w_828 : Cond.instanceMethod yX8_flips ∈ lw_ok := List.mem_filter.mpr ⟨List.mem_of_getElem? (wl_6_ok (828, Cond.instanceMethod yX8_flips) (List.mem_of_getElem? (i := 51) rfl)), rfl⟩
set_option maxRecDepth 100000 in
theorem w_829 : Cond.selects RX8 yX8_flips yX8_flips ∈ lw_ok := List.mem_filter.mpr ⟨List.mem_of_getElem? (wl_6_ok (829, Cond.selects RX8 yX8_flips yX8_flips) (List.mem_of_getElem? (i := 52) rfl)), rfl⟩
set_option maxRecDepth 100000 in
theorem w_830 : Cond.code yX8_flips cX8_flips 3 (some .int) ∈ lw_ok := List.mem_filter.mpr ⟨List.mem_of_getElem? (wl_6_ok (830, Cond.code yX8_flips cX8_flips 3 (some .int)) (List.mem_of_getElem? (i := 53) rfl)), rfl⟩
set_option maxRecDepth 100000 in
theorem w_831 : Cond.methodLink "LeakyLineLaw" 111 yX8_clear ∈ lw_ok := List.mem_filter.mpr ⟨List.mem_of_getElem? (wl_6_ok (831, Cond.methodLink "LeakyLineLaw" 111 yX8_clear) (List.mem_of_getElem? (i := 54) rfl)), rfl⟩
set_option maxRecDepth 100000 in
theorem w_832 : Cond.instanceMethod yX8_clear ∈ lw_ok := List.mem_filter.mpr ⟨List.mem_of_getElem? (wl_6_ok (832, Cond.instanceMethod yX8_clear) (List.mem_of_getElem? (i := 55) rfl)), rfl⟩
set_option maxRecDepth 100000 in
theorem w_833 : Cond.selects RX8 yX8_clear yX8_clear ∈ lw_ok := List.mem_filter.mpr ⟨List.mem_of_getElem? (wl_6_ok (833, Cond.selects RX8 yX8_clear yX8_clear) (List.mem_of_getElem? (i := 56) rfl)), rfl⟩
set_option maxRecDepth 100000 in
theorem w_834 : Cond.code yX8_clear cX8_clear 1 (some .int) ∈ lw_ok := List.mem_filter.mpr ⟨List.mem_of_getElem? (wl_6_ok (834, Cond.code yX8_clear cX8_clear 1 (some .int)) (List.mem_of_getElem? (i := 57) rfl)), rfl⟩
set_option maxRecDepth 100000 in
theorem w_835 : Cond.methodLink RX8 233 yX8_clearDays ∈ lw_ok := List.mem_filter.mpr ⟨List.mem_of_getElem? (wl_6_ok (835, Cond.methodLink RX8 233 yX8_clearDays) (List.mem_of_getElem? (i := 58) rfl)), rfl⟩
set_option maxRecDepth 100000 in
theorem w_837 : Cond.instanceMethod yX8_clearDays ∈ lw_ok := List.mem_filter.mpr ⟨List.mem_of_getElem? (wl_6_ok (837, Cond.instanceMethod yX8_clearDays) (List.mem_of_getElem? (i := 59) rfl)), rfl⟩
set_option maxRecDepth 100000 in
theorem w_838 : Cond.code yX8_clearDays cX8_clearDays 3 (some .int) ∈ lw_ok := List.mem_filter.mpr ⟨List.mem_of_getElem? (wl_6_ok (838, Cond.code yX8_clearDays cX8_clearDays 3 (some .int)) (List.mem_of_getElem? (i := 60) rfl)), rfl⟩
set_option maxRecDepth 100000 in
theorem w_839 : Cond.methodLink RX8 239 yX8_listenAsTold ∈ lw_ok := List.mem_filter.mpr ⟨List.mem_of_getElem? (wl_6_ok (839, Cond.methodLink RX8 239 yX8_listenAsTold) (List.mem_of_getElem? (i := 61) rfl)), rfl⟩
set_option maxRecDepth 100000 in
theorem w_841 : Cond.instanceMethod yX8_listenAsTold ∈ lw_ok := List.mem_filter.mpr ⟨List.mem_of_getElem? (wl_6_ok (841, Cond.instanceMethod yX8_listenAsTold) (List.mem_of_getElem? (i := 62) rfl)), rfl⟩
set_option maxRecDepth 100000 in
theorem w_842 : Cond.code yX8_listenAsTold cX8_listenAsTold 2 none ∈ lw_ok := List.mem_filter.mpr ⟨List.mem_of_getElem? (wl_6_ok (842, Cond.code yX8_listenAsTold cX8_listenAsTold 2 none) (List.mem_of_getElem? (i := 63) rfl)), rfl⟩
set_option maxRecDepth 100000 in
theorem w_843 : Cond.methodLink "LeakyLineLaw" 115 yX8_last ∈ lw_ok := List.mem_filter.mpr ⟨List.mem_of_getElem? (wl_6_ok (843, Cond.methodLink "LeakyLineLaw" 115 yX8_last) (List.mem_of_getElem? (i := 64) rfl)), rfl⟩
set_option maxRecDepth 100000 in
theorem w_844 : Cond.instanceMethod yX8_last ∈ lw_ok := List.mem_filter.mpr ⟨List.mem_of_getElem? (wl_6_ok (844, Cond.instanceMethod yX8_last) (List.mem_of_getElem? (i := 65) rfl)), rfl⟩
set_option maxRecDepth 100000 in
theorem w_845 : Cond.selects RX8 yX8_last yX8_last ∈ lw_ok := List.mem_filter.mpr ⟨List.mem_of_getElem? (wl_6_ok (845, Cond.selects RX8 yX8_last yX8_last) (List.mem_of_getElem? (i := 66) rfl)), rfl⟩
set_option maxRecDepth 100000 in
theorem w_846 : Cond.code yX8_last cX8_last 1 (some .int) ∈ lw_ok := List.mem_filter.mpr ⟨List.mem_of_getElem? (wl_6_ok (846, Cond.code yX8_last cX8_last 1 (some .int)) (List.mem_of_getElem? (i := 67) rfl)), rfl⟩
set_option maxRecDepth 100000 in
theorem w_847 : Cond.methodLink RX8 236 yX8_highestBit ∈ lw_ok := List.mem_filter.mpr ⟨List.mem_of_getElem? (wl_6_ok (847, Cond.methodLink RX8 236 yX8_highestBit) (List.mem_of_getElem? (i := 68) rfl)), rfl⟩
set_option maxRecDepth 100000 in
theorem w_848 : Cond.static yX8_highestBit ∈ lw_ok := List.mem_filter.mpr ⟨List.mem_of_getElem? (wl_6_ok (848, Cond.static yX8_highestBit) (List.mem_of_getElem? (i := 69) rfl)), rfl⟩
set_option maxRecDepth 100000 in
theorem w_849 : Cond.code yX8_highestBit cX8_highestBit 1 (some .int) ∈ lw_ok := List.mem_filter.mpr ⟨List.mem_of_getElem? (wl_6_ok (849, Cond.code yX8_highestBit cX8_highestBit 1 (some .int)) (List.mem_of_getElem? (i := 70) rfl)), rfl⟩
set_option maxRecDepth 100000 in
theorem w_850 : Cond.methodLink RX8 392 yJ6_numberOfLeadingZeros_0f7a4 ∈ lw_ok := List.mem_filter.mpr ⟨List.mem_of_getElem? (wl_6_ok (850, Cond.methodLink RX8 392 yJ6_numberOfLeadingZeros_0f7a4) (List.mem_of_getElem? (i := 71) rfl)), rfl⟩
set_option maxRecDepth 100000 in
theorem w_851 : Cond.methodLink "LeakyLineLaw" 119 yX8_dim ∈ lw_ok := List.mem_filter.mpr ⟨List.mem_of_getElem? (wl_6_ok (851, Cond.methodLink "LeakyLineLaw" 119 yX8_dim) (List.mem_of_getElem? (i := 72) rfl)), rfl⟩
set_option maxRecDepth 100000 in
theorem w_852 : Cond.instanceMethod yX8_dim ∈ lw_ok := List.mem_filter.mpr ⟨List.mem_of_getElem? (wl_6_ok (852, Cond.instanceMethod yX8_dim) (List.mem_of_getElem? (i := 73) rfl)), rfl⟩
set_option maxRecDepth 100000 in
theorem w_853 : Cond.selects RX8 yX8_dim yX8_dim ∈ lw_ok := List.mem_filter.mpr ⟨List.mem_of_getElem? (wl_6_ok (853, Cond.selects RX8 yX8_dim yX8_dim) (List.mem_of_getElem? (i := 74) rfl)), rfl⟩
set_option maxRecDepth 100000 in
theorem w_854 : Cond.code yX8_dim cX8_dim 3 (some .int) ∈ lw_ok := List.mem_filter.mpr ⟨List.mem_of_getElem? (wl_6_ok (854, Cond.code yX8_dim cX8_dim 3 (some .int)) (List.mem_of_getElem? (i := 75) rfl)), rfl⟩
set_option maxRecDepth 100000 in
theorem w_855 : Cond.methodLink "LeakyLineLaw" 123 yX8_sum ∈ lw_ok := List.mem_filter.mpr ⟨List.mem_of_getElem? (wl_6_ok (855, Cond.methodLink "LeakyLineLaw" 123 yX8_sum) (List.mem_of_getElem? (i := 76) rfl)), rfl⟩
set_option maxRecDepth 100000 in
theorem w_856 : Cond.instanceMethod yX8_sum ∈ lw_ok := List.mem_filter.mpr ⟨List.mem_of_getElem? (wl_6_ok (856, Cond.instanceMethod yX8_sum) (List.mem_of_getElem? (i := 77) rfl)), rfl⟩
set_option maxRecDepth 100000 in
theorem w_857 : Cond.selects RX8 yX8_sum yX8_sum ∈ lw_ok := List.mem_filter.mpr ⟨List.mem_of_getElem? (wl_6_ok (857, Cond.selects RX8 yX8_sum yX8_sum) (List.mem_of_getElem? (i := 78) rfl)), rfl⟩
set_option maxRecDepth 100000 in
theorem w_858 : Cond.code yX8_sum cX8_sum 1 (some .int) ∈ lw_ok := List.mem_filter.mpr ⟨List.mem_of_getElem? (wl_6_ok (858, Cond.code yX8_sum cX8_sum 1 (some .int)) (List.mem_of_getElem? (i := 79) rfl)), rfl⟩
set_option maxRecDepth 100000 in
theorem w_859 : Cond.methodLink RX8 245 yX8_heardInAll ∈ lw_ok := List.mem_filter.mpr ⟨List.mem_of_getElem? (wl_6_ok (859, Cond.methodLink RX8 245 yX8_heardInAll) (List.mem_of_getElem? (i := 80) rfl)), rfl⟩
set_option maxRecDepth 100000 in
theorem w_861 : Cond.instanceMethod yX8_heardInAll ∈ lw_ok := List.mem_filter.mpr ⟨List.mem_of_getElem? (wl_6_ok (861, Cond.instanceMethod yX8_heardInAll) (List.mem_of_getElem? (i := 81) rfl)), rfl⟩
set_option maxRecDepth 100000 in
theorem w_862 : Cond.code yX8_heardInAll cX8_heardInAll 3 (some .int) ∈ lw_ok := List.mem_filter.mpr ⟨List.mem_of_getElem? (wl_6_ok (862, Cond.code yX8_heardInAll cX8_heardInAll 3 (some .int)) (List.mem_of_getElem? (i := 82) rfl)), rfl⟩
set_option maxRecDepth 100000 in
theorem w_863 : Cond.methodLink "LeakyLineLaw" 127 yX8_worst ∈ lw_ok := List.mem_filter.mpr ⟨List.mem_of_getElem? (wl_6_ok (863, Cond.methodLink "LeakyLineLaw" 127 yX8_worst) (List.mem_of_getElem? (i := 83) rfl)), rfl⟩
set_option maxRecDepth 100000 in
theorem w_864 : Cond.instanceMethod yX8_worst ∈ lw_ok := List.mem_filter.mpr ⟨List.mem_of_getElem? (wl_6_ok (864, Cond.instanceMethod yX8_worst) (List.mem_of_getElem? (i := 84) rfl)), rfl⟩
set_option maxRecDepth 100000 in
theorem w_865 : Cond.selects RX8 yX8_worst yX8_worst ∈ lw_ok := List.mem_filter.mpr ⟨List.mem_of_getElem? (wl_6_ok (865, Cond.selects RX8 yX8_worst yX8_worst) (List.mem_of_getElem? (i := 85) rfl)), rfl⟩
set_option maxRecDepth 100000 in
theorem w_866 : Cond.code yX8_worst cX8_worst 4 (some .int) ∈ lw_ok := List.mem_filter.mpr ⟨List.mem_of_getElem? (wl_6_ok (866, Cond.code yX8_worst cX8_worst 4 (some .int)) (List.mem_of_getElem? (i := 86) rfl)), rfl⟩
set_option maxRecDepth 100000 in
theorem w_867 : Cond.methodLink "LeakyLineLaw" 131 yX8_damp ∈ lw_ok := List.mem_filter.mpr ⟨List.mem_of_getElem? (wl_6_ok (867, Cond.methodLink "LeakyLineLaw" 131 yX8_damp) (List.mem_of_getElem? (i := 87) rfl)), rfl⟩
set_option maxRecDepth 100000 in
theorem w_868 : Cond.instanceMethod yX8_damp ∈ lw_ok := List.mem_filter.mpr ⟨List.mem_of_getElem? (wl_6_ok (868, Cond.instanceMethod yX8_damp) (List.mem_of_getElem? (i := 88) rfl)), rfl⟩
set_option maxRecDepth 100000 in
theorem w_869 : Cond.selects RX8 yX8_damp yX8_damp ∈ lw_ok := List.mem_filter.mpr ⟨List.mem_of_getElem? (wl_6_ok (869, Cond.selects RX8 yX8_damp yX8_damp) (List.mem_of_getElem? (i := 89) rfl)), rfl⟩
set_option maxRecDepth 100000 in
theorem w_870 : Cond.code yX8_damp cX8_damp 4 (some .int) ∈ lw_ok := List.mem_filter.mpr ⟨List.mem_of_getElem? (wl_6_ok (870, Cond.code yX8_damp cX8_damp 4 (some .int)) (List.mem_of_getElem? (i := 90) rfl)), rfl⟩
set_option maxRecDepth 100000 in
theorem w_871 : Cond.methodLink "LeakyLineLaw" 135 yX8_spell ∈ lw_ok := List.mem_filter.mpr ⟨List.mem_of_getElem? (wl_6_ok (871, Cond.methodLink "LeakyLineLaw" 135 yX8_spell) (List.mem_of_getElem? (i := 91) rfl)), rfl⟩
set_option maxRecDepth 100000 in
theorem w_872 : Cond.instanceMethod yX8_spell ∈ lw_ok := List.mem_filter.mpr ⟨List.mem_of_getElem? (wl_6_ok (872, Cond.instanceMethod yX8_spell) (List.mem_of_getElem? (i := 92) rfl)), rfl⟩
set_option maxRecDepth 100000 in
theorem w_873 : Cond.selects RX8 yX8_spell yX8_spell ∈ lw_ok := List.mem_filter.mpr ⟨List.mem_of_getElem? (wl_6_ok (873, Cond.selects RX8 yX8_spell yX8_spell) (List.mem_of_getElem? (i := 93) rfl)), rfl⟩
set_option maxRecDepth 100000 in
theorem w_874 : Cond.code yX8_spell cX8_spell 1 (some .int) ∈ lw_ok := List.mem_filter.mpr ⟨List.mem_of_getElem? (wl_6_ok (874, Cond.code yX8_spell cX8_spell 1 (some .int)) (List.mem_of_getElem? (i := 94) rfl)), rfl⟩
set_option maxRecDepth 100000 in
theorem w_875 : Cond.methodLink "LeakyLineLaw" 139 yX8_margin ∈ lw_ok := List.mem_filter.mpr ⟨List.mem_of_getElem? (wl_6_ok (875, Cond.methodLink "LeakyLineLaw" 139 yX8_margin) (List.mem_of_getElem? (i := 95) rfl)), rfl⟩
set_option maxRecDepth 100000 in
theorem w_876 : Cond.instanceMethod yX8_margin ∈ lw_ok := List.mem_filter.mpr ⟨List.mem_of_getElem? (wl_6_ok (876, Cond.instanceMethod yX8_margin) (List.mem_of_getElem? (i := 96) rfl)), rfl⟩
set_option maxRecDepth 100000 in
theorem w_877 : Cond.selects RX8 yX8_margin yX8_margin ∈ lw_ok := List.mem_filter.mpr ⟨List.mem_of_getElem? (wl_6_ok (877, Cond.selects RX8 yX8_margin yX8_margin) (List.mem_of_getElem? (i := 97) rfl)), rfl⟩
set_option maxRecDepth 100000 in
theorem w_878 : Cond.code yX8_margin cX8_margin 3 (some .int) ∈ lw_ok := List.mem_filter.mpr ⟨List.mem_of_getElem? (wl_6_ok (878, Cond.code yX8_margin cX8_margin 3 (some .int)) (List.mem_of_getElem? (i := 98) rfl)), rfl⟩
set_option maxRecDepth 100000 in
theorem w_879 : Cond.methodLink "LeakyLineLaw" 143 yX8_bright ∈ lw_ok := List.mem_filter.mpr ⟨List.mem_of_getElem? (wl_6_ok (879, Cond.methodLink "LeakyLineLaw" 143 yX8_bright) (List.mem_of_getElem? (i := 99) rfl)), rfl⟩
def wl_7 : List (Nat × Cond) := [(880, Cond.instanceMethod yX8_bright), (881, Cond.selects RX8 yX8_bright yX8_bright), (882, Cond.code yX8_bright cX8_bright 3 (some .int)), (883, Cond.methodLink "LeakyLineLaw" 147 yX8_rises), (884, Cond.instanceMethod yX8_rises), (885, Cond.selects RX8 yX8_rises yX8_rises), (886, Cond.code yX8_rises cX8_rises 4 (some .int)), (887, Cond.methodLink "LeakyLineLaw" 151 yX8_dry), (888, Cond.instanceMethod yX8_dry), (889, Cond.selects RX8 yX8_dry yX8_dry), (890, Cond.code yX8_dry cX8_dry 1 (some .int)), (891, Cond.methodLink "LeakyLineLaw" 155 yX8_ends), (892, Cond.instanceMethod yX8_ends), (893, Cond.selects RX8 yX8_ends yX8_ends), (894, Cond.code yX8_ends cX8_ends 3 (some .int)), (895, Cond.methodLink "LeakyLineLaw" 159 yX8_reach), (896, Cond.instanceMethod yX8_reach), (897, Cond.selects RX8 yX8_reach yX8_reach), (898, Cond.code yX8_reach cX8_reach 2 (some .int)), (899, Cond.methodLink "LeakyLineLaw" 163 yX8_both), (900, Cond.instanceMethod yX8_both), (901, Cond.selects RX8 yX8_both yX8_both), (902, Cond.code yX8_both cX8_both 3 (some .int)), (903, Cond.methodLink "LeakyLineLaw" 167 yX8_apart), (904, Cond.instanceMethod yX8_apart), (905, Cond.selects RX8 yX8_apart yX8_apart), (906, Cond.code yX8_apart cX8_apart 3 (some .int)), (907, Cond.methodLink "LeakyLineLaw" 171 yX8_half), (908, Cond.instanceMethod yX8_half), (909, Cond.selects RX8 yX8_half yX8_half), (910, Cond.code yX8_half cX8_half 3 (some .int)), (911, Cond.constantLong RX8 255 2), (912, Cond.methodLink "LeakyLineLaw" 175 yX8_grounds), (913, Cond.instanceMethod yX8_grounds), (914, Cond.selects RX8 yX8_grounds yX8_grounds), (915, Cond.code yX8_grounds cX8_grounds 4 (some .int)), (916, Cond.methodLink "LeakyLineLaw" 179 yX8_steep), (917, Cond.instanceMethod yX8_steep), (918, Cond.selects RX8 yX8_steep yX8_steep), (919, Cond.code yX8_steep cX8_steep 4 (some .int)), (920, Cond.methodLink "LeakyLineLaw" 183 yX8_mute), (921, Cond.instanceMethod yX8_mute), (922, Cond.selects RX8 yX8_mute yX8_mute), (923, Cond.code yX8_mute cX8_mute 3 (some .int)), (924, Cond.methodLink "LeakyLineLaw" 187 yX8_changes), (925, Cond.instanceMethod yX8_changes), (926, Cond.selects RX8 yX8_changes yX8_changes), (927, Cond.code yX8_changes cX8_changes 3 (some .int)), (928, Cond.methodLink "LeakyLineLaw" 191 yX8_all), (929, Cond.instanceMethod yX8_all), (930, Cond.selects RX8 yX8_all yX8_all), (931, Cond.code yX8_all cX8_all 1 (some .int)), (932, Cond.methodLink RX8 257 yX8_allPoles), (934, Cond.instanceMethod yX8_allPoles), (935, Cond.code yX8_allPoles cX8_allPoles 1 (some .int)), (936, Cond.methodLink RX8 260 yX8_worthOf), (938, Cond.instanceMethod yX8_worthOf), (939, Cond.code yX8_worthOf cX8_worthOf 2 (some .int)), (940, Cond.methodLink "LeakyLineLaw" 195 yX8_without), (941, Cond.instanceMethod yX8_without), (942, Cond.selects RX8 yX8_without yX8_without), (943, Cond.code yX8_without cX8_without 2 (some .int)), (944, Cond.methodLink "LeakyLineLaw" 199 yX8_cupped), (945, Cond.instanceMethod yX8_cupped), (946, Cond.selects RX8 yX8_cupped yX8_cupped), (947, Cond.code yX8_cupped cX8_cupped 3 (some .int)), (948, Cond.methodLink RX8 266 yX2_latestCup), (949, Cond.methodLink "LeakyLineLaw" 203 yX8_snapped), (950, Cond.instanceMethod yX8_snapped), (951, Cond.selects RX8 yX8_snapped yX8_snapped), (952, Cond.code yX8_snapped cX8_snapped 2 (some .int)), (953, Cond.methodLink RX8 269 yX2_firstSnap), (954, Cond.instanceMethod yX2_firstSnap), (955, Cond.selects RX2 yX2_firstSnap yX2_firstSnap), (956, Cond.code yX2_firstSnap cX2_firstSnap 2 (some .int)), (957, Cond.methodLink RX2 92 yJ6_numberOfTrailingZeros_0f7a4), (958, Cond.methodLink "LeakyLineLaw" 207 yX8_lack), (959, Cond.instanceMethod yX8_lack), (960, Cond.selects RX8 yX8_lack yX8_lack), (961, Cond.code yX8_lack cX8_lack 5 (some .int)), (962, Cond.methodLink "LeakyLineLaw" 211 yX8_loud), (963, Cond.instanceMethod yX8_loud), (964, Cond.selects RX8 yX8_loud yX8_loud), (965, Cond.code yX8_loud cX8_loud 4 (some .int)), (966, Cond.methodLink "LeakyLineLaw" 215 yX8_weakest), (967, Cond.instanceMethod yX8_weakest), (968, Cond.selects RX8 yX8_weakest yX8_weakest), (969, Cond.code yX8_weakest cX8_weakest 1 (some .int)), (970, Cond.methodLink RX8 275 yX8_firstByDays), (972, Cond.instanceMethod yX8_firstByDays), (973, Cond.code yX8_firstByDays cX8_firstByDays 6 (some .int)), (974, Cond.methodLink RX8 406 yX8_heardDaysOf), (976, Cond.instanceMethod yX8_heardDaysOf), (977, Cond.code yX8_heardDaysOf cX8_heardDaysOf 4 (some .int)), (978, Cond.methodLink "LeakyLineLaw" 219 yX8_strong), (979, Cond.instanceMethod yX8_strong), (980, Cond.selects RX8 yX8_strong yX8_strong), (981, Cond.code yX8_strong cX8_strong 1 (some .int)), (982, Cond.methodLink "LeakyLineLaw" 223 yX8_battery), (983, Cond.instanceMethod yX8_battery)]
set_option maxRecDepth 100000 in
theorem wl_7_ok : ∀ x ∈ wl_7, lw_tbl[x.1]? = some x.2 := by decide +kernel
set_option maxRecDepth 100000 in
theorem w_880 : Cond.instanceMethod yX8_bright ∈ lw_ok := List.mem_filter.mpr ⟨List.mem_of_getElem? (wl_7_ok (880, Cond.instanceMethod yX8_bright) (List.mem_of_getElem? (i := 0) rfl)), rfl⟩
set_option maxRecDepth 100000 in
theorem w_881 : Cond.selects RX8 yX8_bright yX8_bright ∈ lw_ok := List.mem_filter.mpr ⟨List.mem_of_getElem? (wl_7_ok (881, Cond.selects RX8 yX8_bright yX8_bright) (List.mem_of_getElem? (i := 1) rfl)), rfl⟩
set_option maxRecDepth 100000 in
theorem w_882 : Cond.code yX8_bright cX8_bright 3 (some .int) ∈ lw_ok := List.mem_filter.mpr ⟨List.mem_of_getElem? (wl_7_ok (882, Cond.code yX8_bright cX8_bright 3 (some .int)) (List.mem_of_getElem? (i := 2) rfl)), rfl⟩
set_option maxRecDepth 100000 in
theorem w_883 : Cond.methodLink "LeakyLineLaw" 147 yX8_rises ∈ lw_ok := List.mem_filter.mpr ⟨List.mem_of_getElem? (wl_7_ok (883, Cond.methodLink "LeakyLineLaw" 147 yX8_rises) (List.mem_of_getElem? (i := 3) rfl)), rfl⟩
set_option maxRecDepth 100000 in
theorem w_884 : Cond.instanceMethod yX8_rises ∈ lw_ok := List.mem_filter.mpr ⟨List.mem_of_getElem? (wl_7_ok (884, Cond.instanceMethod yX8_rises) (List.mem_of_getElem? (i := 4) rfl)), rfl⟩
set_option maxRecDepth 100000 in
theorem w_885 : Cond.selects RX8 yX8_rises yX8_rises ∈ lw_ok := List.mem_filter.mpr ⟨List.mem_of_getElem? (wl_7_ok (885, Cond.selects RX8 yX8_rises yX8_rises) (List.mem_of_getElem? (i := 5) rfl)), rfl⟩
set_option maxRecDepth 100000 in
theorem w_886 : Cond.code yX8_rises cX8_rises 4 (some .int) ∈ lw_ok := List.mem_filter.mpr ⟨List.mem_of_getElem? (wl_7_ok (886, Cond.code yX8_rises cX8_rises 4 (some .int)) (List.mem_of_getElem? (i := 6) rfl)), rfl⟩
set_option maxRecDepth 100000 in
theorem w_887 : Cond.methodLink "LeakyLineLaw" 151 yX8_dry ∈ lw_ok := List.mem_filter.mpr ⟨List.mem_of_getElem? (wl_7_ok (887, Cond.methodLink "LeakyLineLaw" 151 yX8_dry) (List.mem_of_getElem? (i := 7) rfl)), rfl⟩
set_option maxRecDepth 100000 in
theorem w_888 : Cond.instanceMethod yX8_dry ∈ lw_ok := List.mem_filter.mpr ⟨List.mem_of_getElem? (wl_7_ok (888, Cond.instanceMethod yX8_dry) (List.mem_of_getElem? (i := 8) rfl)), rfl⟩
set_option maxRecDepth 100000 in
theorem w_889 : Cond.selects RX8 yX8_dry yX8_dry ∈ lw_ok := List.mem_filter.mpr ⟨List.mem_of_getElem? (wl_7_ok (889, Cond.selects RX8 yX8_dry yX8_dry) (List.mem_of_getElem? (i := 9) rfl)), rfl⟩
set_option maxRecDepth 100000 in
theorem w_890 : Cond.code yX8_dry cX8_dry 1 (some .int) ∈ lw_ok := List.mem_filter.mpr ⟨List.mem_of_getElem? (wl_7_ok (890, Cond.code yX8_dry cX8_dry 1 (some .int)) (List.mem_of_getElem? (i := 10) rfl)), rfl⟩
set_option maxRecDepth 100000 in
theorem w_891 : Cond.methodLink "LeakyLineLaw" 155 yX8_ends ∈ lw_ok := List.mem_filter.mpr ⟨List.mem_of_getElem? (wl_7_ok (891, Cond.methodLink "LeakyLineLaw" 155 yX8_ends) (List.mem_of_getElem? (i := 11) rfl)), rfl⟩
set_option maxRecDepth 100000 in
theorem w_892 : Cond.instanceMethod yX8_ends ∈ lw_ok := List.mem_filter.mpr ⟨List.mem_of_getElem? (wl_7_ok (892, Cond.instanceMethod yX8_ends) (List.mem_of_getElem? (i := 12) rfl)), rfl⟩
set_option maxRecDepth 100000 in
theorem w_893 : Cond.selects RX8 yX8_ends yX8_ends ∈ lw_ok := List.mem_filter.mpr ⟨List.mem_of_getElem? (wl_7_ok (893, Cond.selects RX8 yX8_ends yX8_ends) (List.mem_of_getElem? (i := 13) rfl)), rfl⟩
set_option maxRecDepth 100000 in
theorem w_894 : Cond.code yX8_ends cX8_ends 3 (some .int) ∈ lw_ok := List.mem_filter.mpr ⟨List.mem_of_getElem? (wl_7_ok (894, Cond.code yX8_ends cX8_ends 3 (some .int)) (List.mem_of_getElem? (i := 14) rfl)), rfl⟩
set_option maxRecDepth 100000 in
theorem w_895 : Cond.methodLink "LeakyLineLaw" 159 yX8_reach ∈ lw_ok := List.mem_filter.mpr ⟨List.mem_of_getElem? (wl_7_ok (895, Cond.methodLink "LeakyLineLaw" 159 yX8_reach) (List.mem_of_getElem? (i := 15) rfl)), rfl⟩
set_option maxRecDepth 100000 in
theorem w_896 : Cond.instanceMethod yX8_reach ∈ lw_ok := List.mem_filter.mpr ⟨List.mem_of_getElem? (wl_7_ok (896, Cond.instanceMethod yX8_reach) (List.mem_of_getElem? (i := 16) rfl)), rfl⟩
set_option maxRecDepth 100000 in
theorem w_897 : Cond.selects RX8 yX8_reach yX8_reach ∈ lw_ok := List.mem_filter.mpr ⟨List.mem_of_getElem? (wl_7_ok (897, Cond.selects RX8 yX8_reach yX8_reach) (List.mem_of_getElem? (i := 17) rfl)), rfl⟩
set_option maxRecDepth 100000 in
theorem w_898 : Cond.code yX8_reach cX8_reach 2 (some .int) ∈ lw_ok := List.mem_filter.mpr ⟨List.mem_of_getElem? (wl_7_ok (898, Cond.code yX8_reach cX8_reach 2 (some .int)) (List.mem_of_getElem? (i := 18) rfl)), rfl⟩
set_option maxRecDepth 100000 in
theorem w_899 : Cond.methodLink "LeakyLineLaw" 163 yX8_both ∈ lw_ok := List.mem_filter.mpr ⟨List.mem_of_getElem? (wl_7_ok (899, Cond.methodLink "LeakyLineLaw" 163 yX8_both) (List.mem_of_getElem? (i := 19) rfl)), rfl⟩
set_option maxRecDepth 100000 in
theorem w_900 : Cond.instanceMethod yX8_both ∈ lw_ok := List.mem_filter.mpr ⟨List.mem_of_getElem? (wl_7_ok (900, Cond.instanceMethod yX8_both) (List.mem_of_getElem? (i := 20) rfl)), rfl⟩
set_option maxRecDepth 100000 in
theorem w_901 : Cond.selects RX8 yX8_both yX8_both ∈ lw_ok := List.mem_filter.mpr ⟨List.mem_of_getElem? (wl_7_ok (901, Cond.selects RX8 yX8_both yX8_both) (List.mem_of_getElem? (i := 21) rfl)), rfl⟩
set_option maxRecDepth 100000 in
theorem w_902 : Cond.code yX8_both cX8_both 3 (some .int) ∈ lw_ok := List.mem_filter.mpr ⟨List.mem_of_getElem? (wl_7_ok (902, Cond.code yX8_both cX8_both 3 (some .int)) (List.mem_of_getElem? (i := 22) rfl)), rfl⟩
set_option maxRecDepth 100000 in
theorem w_903 : Cond.methodLink "LeakyLineLaw" 167 yX8_apart ∈ lw_ok := List.mem_filter.mpr ⟨List.mem_of_getElem? (wl_7_ok (903, Cond.methodLink "LeakyLineLaw" 167 yX8_apart) (List.mem_of_getElem? (i := 23) rfl)), rfl⟩
set_option maxRecDepth 100000 in
theorem w_904 : Cond.instanceMethod yX8_apart ∈ lw_ok := List.mem_filter.mpr ⟨List.mem_of_getElem? (wl_7_ok (904, Cond.instanceMethod yX8_apart) (List.mem_of_getElem? (i := 24) rfl)), rfl⟩
set_option maxRecDepth 100000 in
theorem w_905 : Cond.selects RX8 yX8_apart yX8_apart ∈ lw_ok := List.mem_filter.mpr ⟨List.mem_of_getElem? (wl_7_ok (905, Cond.selects RX8 yX8_apart yX8_apart) (List.mem_of_getElem? (i := 25) rfl)), rfl⟩
set_option maxRecDepth 100000 in
theorem w_906 : Cond.code yX8_apart cX8_apart 3 (some .int) ∈ lw_ok := List.mem_filter.mpr ⟨List.mem_of_getElem? (wl_7_ok (906, Cond.code yX8_apart cX8_apart 3 (some .int)) (List.mem_of_getElem? (i := 26) rfl)), rfl⟩
set_option maxRecDepth 100000 in
theorem w_907 : Cond.methodLink "LeakyLineLaw" 171 yX8_half ∈ lw_ok := List.mem_filter.mpr ⟨List.mem_of_getElem? (wl_7_ok (907, Cond.methodLink "LeakyLineLaw" 171 yX8_half) (List.mem_of_getElem? (i := 27) rfl)), rfl⟩
set_option maxRecDepth 100000 in
theorem w_908 : Cond.instanceMethod yX8_half ∈ lw_ok := List.mem_filter.mpr ⟨List.mem_of_getElem? (wl_7_ok (908, Cond.instanceMethod yX8_half) (List.mem_of_getElem? (i := 28) rfl)), rfl⟩
set_option maxRecDepth 100000 in
theorem w_909 : Cond.selects RX8 yX8_half yX8_half ∈ lw_ok := List.mem_filter.mpr ⟨List.mem_of_getElem? (wl_7_ok (909, Cond.selects RX8 yX8_half yX8_half) (List.mem_of_getElem? (i := 29) rfl)), rfl⟩
set_option maxRecDepth 100000 in
theorem w_910 : Cond.code yX8_half cX8_half 3 (some .int) ∈ lw_ok := List.mem_filter.mpr ⟨List.mem_of_getElem? (wl_7_ok (910, Cond.code yX8_half cX8_half 3 (some .int)) (List.mem_of_getElem? (i := 30) rfl)), rfl⟩
set_option maxRecDepth 100000 in
theorem w_911 : Cond.constantLong RX8 255 2 ∈ lw_ok := List.mem_filter.mpr ⟨List.mem_of_getElem? (wl_7_ok (911, Cond.constantLong RX8 255 2) (List.mem_of_getElem? (i := 31) rfl)), rfl⟩
set_option maxRecDepth 100000 in
theorem w_912 : Cond.methodLink "LeakyLineLaw" 175 yX8_grounds ∈ lw_ok := List.mem_filter.mpr ⟨List.mem_of_getElem? (wl_7_ok (912, Cond.methodLink "LeakyLineLaw" 175 yX8_grounds) (List.mem_of_getElem? (i := 32) rfl)), rfl⟩
set_option maxRecDepth 100000 in
theorem w_913 : Cond.instanceMethod yX8_grounds ∈ lw_ok := List.mem_filter.mpr ⟨List.mem_of_getElem? (wl_7_ok (913, Cond.instanceMethod yX8_grounds) (List.mem_of_getElem? (i := 33) rfl)), rfl⟩
set_option maxRecDepth 100000 in
theorem w_914 : Cond.selects RX8 yX8_grounds yX8_grounds ∈ lw_ok := List.mem_filter.mpr ⟨List.mem_of_getElem? (wl_7_ok (914, Cond.selects RX8 yX8_grounds yX8_grounds) (List.mem_of_getElem? (i := 34) rfl)), rfl⟩
set_option maxRecDepth 100000 in
theorem w_915 : Cond.code yX8_grounds cX8_grounds 4 (some .int) ∈ lw_ok := List.mem_filter.mpr ⟨List.mem_of_getElem? (wl_7_ok (915, Cond.code yX8_grounds cX8_grounds 4 (some .int)) (List.mem_of_getElem? (i := 35) rfl)), rfl⟩
set_option maxRecDepth 100000 in
theorem w_916 : Cond.methodLink "LeakyLineLaw" 179 yX8_steep ∈ lw_ok := List.mem_filter.mpr ⟨List.mem_of_getElem? (wl_7_ok (916, Cond.methodLink "LeakyLineLaw" 179 yX8_steep) (List.mem_of_getElem? (i := 36) rfl)), rfl⟩
set_option maxRecDepth 100000 in
theorem w_917 : Cond.instanceMethod yX8_steep ∈ lw_ok := List.mem_filter.mpr ⟨List.mem_of_getElem? (wl_7_ok (917, Cond.instanceMethod yX8_steep) (List.mem_of_getElem? (i := 37) rfl)), rfl⟩
set_option maxRecDepth 100000 in
theorem w_918 : Cond.selects RX8 yX8_steep yX8_steep ∈ lw_ok := List.mem_filter.mpr ⟨List.mem_of_getElem? (wl_7_ok (918, Cond.selects RX8 yX8_steep yX8_steep) (List.mem_of_getElem? (i := 38) rfl)), rfl⟩
set_option maxRecDepth 100000 in
theorem w_919 : Cond.code yX8_steep cX8_steep 4 (some .int) ∈ lw_ok := List.mem_filter.mpr ⟨List.mem_of_getElem? (wl_7_ok (919, Cond.code yX8_steep cX8_steep 4 (some .int)) (List.mem_of_getElem? (i := 39) rfl)), rfl⟩
set_option maxRecDepth 100000 in
theorem w_920 : Cond.methodLink "LeakyLineLaw" 183 yX8_mute ∈ lw_ok := List.mem_filter.mpr ⟨List.mem_of_getElem? (wl_7_ok (920, Cond.methodLink "LeakyLineLaw" 183 yX8_mute) (List.mem_of_getElem? (i := 40) rfl)), rfl⟩
set_option maxRecDepth 100000 in
theorem w_921 : Cond.instanceMethod yX8_mute ∈ lw_ok := List.mem_filter.mpr ⟨List.mem_of_getElem? (wl_7_ok (921, Cond.instanceMethod yX8_mute) (List.mem_of_getElem? (i := 41) rfl)), rfl⟩
set_option maxRecDepth 100000 in
theorem w_922 : Cond.selects RX8 yX8_mute yX8_mute ∈ lw_ok := List.mem_filter.mpr ⟨List.mem_of_getElem? (wl_7_ok (922, Cond.selects RX8 yX8_mute yX8_mute) (List.mem_of_getElem? (i := 42) rfl)), rfl⟩
set_option maxRecDepth 100000 in
theorem w_923 : Cond.code yX8_mute cX8_mute 3 (some .int) ∈ lw_ok := List.mem_filter.mpr ⟨List.mem_of_getElem? (wl_7_ok (923, Cond.code yX8_mute cX8_mute 3 (some .int)) (List.mem_of_getElem? (i := 43) rfl)), rfl⟩
set_option maxRecDepth 100000 in
theorem w_924 : Cond.methodLink "LeakyLineLaw" 187 yX8_changes ∈ lw_ok := List.mem_filter.mpr ⟨List.mem_of_getElem? (wl_7_ok (924, Cond.methodLink "LeakyLineLaw" 187 yX8_changes) (List.mem_of_getElem? (i := 44) rfl)), rfl⟩
set_option maxRecDepth 100000 in
theorem w_925 : Cond.instanceMethod yX8_changes ∈ lw_ok := List.mem_filter.mpr ⟨List.mem_of_getElem? (wl_7_ok (925, Cond.instanceMethod yX8_changes) (List.mem_of_getElem? (i := 45) rfl)), rfl⟩
set_option maxRecDepth 100000 in
theorem w_926 : Cond.selects RX8 yX8_changes yX8_changes ∈ lw_ok := List.mem_filter.mpr ⟨List.mem_of_getElem? (wl_7_ok (926, Cond.selects RX8 yX8_changes yX8_changes) (List.mem_of_getElem? (i := 46) rfl)), rfl⟩
set_option maxRecDepth 100000 in
theorem w_927 : Cond.code yX8_changes cX8_changes 3 (some .int) ∈ lw_ok := List.mem_filter.mpr ⟨List.mem_of_getElem? (wl_7_ok (927, Cond.code yX8_changes cX8_changes 3 (some .int)) (List.mem_of_getElem? (i := 47) rfl)), rfl⟩
set_option maxRecDepth 100000 in
theorem w_928 : Cond.methodLink "LeakyLineLaw" 191 yX8_all ∈ lw_ok := List.mem_filter.mpr ⟨List.mem_of_getElem? (wl_7_ok (928, Cond.methodLink "LeakyLineLaw" 191 yX8_all) (List.mem_of_getElem? (i := 48) rfl)), rfl⟩
set_option maxRecDepth 100000 in
theorem w_929 : Cond.instanceMethod yX8_all ∈ lw_ok := List.mem_filter.mpr ⟨List.mem_of_getElem? (wl_7_ok (929, Cond.instanceMethod yX8_all) (List.mem_of_getElem? (i := 49) rfl)), rfl⟩
set_option maxRecDepth 100000 in
theorem w_930 : Cond.selects RX8 yX8_all yX8_all ∈ lw_ok := List.mem_filter.mpr ⟨List.mem_of_getElem? (wl_7_ok (930, Cond.selects RX8 yX8_all yX8_all) (List.mem_of_getElem? (i := 50) rfl)), rfl⟩
set_option maxRecDepth 100000 in
theorem w_931 : Cond.code yX8_all cX8_all 1 (some .int) ∈ lw_ok := List.mem_filter.mpr ⟨List.mem_of_getElem? (wl_7_ok (931, Cond.code yX8_all cX8_all 1 (some .int)) (List.mem_of_getElem? (i := 51) rfl)), rfl⟩
set_option maxRecDepth 100000 in
theorem w_932 : Cond.methodLink RX8 257 yX8_allPoles ∈ lw_ok := List.mem_filter.mpr ⟨List.mem_of_getElem? (wl_7_ok (932, Cond.methodLink RX8 257 yX8_allPoles) (List.mem_of_getElem? (i := 52) rfl)), rfl⟩
set_option maxRecDepth 100000 in
theorem w_934 : Cond.instanceMethod yX8_allPoles ∈ lw_ok := List.mem_filter.mpr ⟨List.mem_of_getElem? (wl_7_ok (934, Cond.instanceMethod yX8_allPoles) (List.mem_of_getElem? (i := 53) rfl)), rfl⟩
set_option maxRecDepth 100000 in
theorem w_935 : Cond.code yX8_allPoles cX8_allPoles 1 (some .int) ∈ lw_ok := List.mem_filter.mpr ⟨List.mem_of_getElem? (wl_7_ok (935, Cond.code yX8_allPoles cX8_allPoles 1 (some .int)) (List.mem_of_getElem? (i := 54) rfl)), rfl⟩
set_option maxRecDepth 100000 in
theorem w_936 : Cond.methodLink RX8 260 yX8_worthOf ∈ lw_ok := List.mem_filter.mpr ⟨List.mem_of_getElem? (wl_7_ok (936, Cond.methodLink RX8 260 yX8_worthOf) (List.mem_of_getElem? (i := 55) rfl)), rfl⟩
set_option maxRecDepth 100000 in
theorem w_938 : Cond.instanceMethod yX8_worthOf ∈ lw_ok := List.mem_filter.mpr ⟨List.mem_of_getElem? (wl_7_ok (938, Cond.instanceMethod yX8_worthOf) (List.mem_of_getElem? (i := 56) rfl)), rfl⟩
set_option maxRecDepth 100000 in
theorem w_939 : Cond.code yX8_worthOf cX8_worthOf 2 (some .int) ∈ lw_ok := List.mem_filter.mpr ⟨List.mem_of_getElem? (wl_7_ok (939, Cond.code yX8_worthOf cX8_worthOf 2 (some .int)) (List.mem_of_getElem? (i := 57) rfl)), rfl⟩
set_option maxRecDepth 100000 in
theorem w_940 : Cond.methodLink "LeakyLineLaw" 195 yX8_without ∈ lw_ok := List.mem_filter.mpr ⟨List.mem_of_getElem? (wl_7_ok (940, Cond.methodLink "LeakyLineLaw" 195 yX8_without) (List.mem_of_getElem? (i := 58) rfl)), rfl⟩
set_option maxRecDepth 100000 in
theorem w_941 : Cond.instanceMethod yX8_without ∈ lw_ok := List.mem_filter.mpr ⟨List.mem_of_getElem? (wl_7_ok (941, Cond.instanceMethod yX8_without) (List.mem_of_getElem? (i := 59) rfl)), rfl⟩
set_option maxRecDepth 100000 in
theorem w_942 : Cond.selects RX8 yX8_without yX8_without ∈ lw_ok := List.mem_filter.mpr ⟨List.mem_of_getElem? (wl_7_ok (942, Cond.selects RX8 yX8_without yX8_without) (List.mem_of_getElem? (i := 60) rfl)), rfl⟩
set_option maxRecDepth 100000 in
theorem w_943 : Cond.code yX8_without cX8_without 2 (some .int) ∈ lw_ok := List.mem_filter.mpr ⟨List.mem_of_getElem? (wl_7_ok (943, Cond.code yX8_without cX8_without 2 (some .int)) (List.mem_of_getElem? (i := 61) rfl)), rfl⟩
set_option maxRecDepth 100000 in
theorem w_944 : Cond.methodLink "LeakyLineLaw" 199 yX8_cupped ∈ lw_ok := List.mem_filter.mpr ⟨List.mem_of_getElem? (wl_7_ok (944, Cond.methodLink "LeakyLineLaw" 199 yX8_cupped) (List.mem_of_getElem? (i := 62) rfl)), rfl⟩
set_option maxRecDepth 100000 in
theorem w_945 : Cond.instanceMethod yX8_cupped ∈ lw_ok := List.mem_filter.mpr ⟨List.mem_of_getElem? (wl_7_ok (945, Cond.instanceMethod yX8_cupped) (List.mem_of_getElem? (i := 63) rfl)), rfl⟩
set_option maxRecDepth 100000 in
theorem w_946 : Cond.selects RX8 yX8_cupped yX8_cupped ∈ lw_ok := List.mem_filter.mpr ⟨List.mem_of_getElem? (wl_7_ok (946, Cond.selects RX8 yX8_cupped yX8_cupped) (List.mem_of_getElem? (i := 64) rfl)), rfl⟩
set_option maxRecDepth 100000 in
theorem w_947 : Cond.code yX8_cupped cX8_cupped 3 (some .int) ∈ lw_ok := List.mem_filter.mpr ⟨List.mem_of_getElem? (wl_7_ok (947, Cond.code yX8_cupped cX8_cupped 3 (some .int)) (List.mem_of_getElem? (i := 65) rfl)), rfl⟩
set_option maxRecDepth 100000 in
theorem w_948 : Cond.methodLink RX8 266 yX2_latestCup ∈ lw_ok := List.mem_filter.mpr ⟨List.mem_of_getElem? (wl_7_ok (948, Cond.methodLink RX8 266 yX2_latestCup) (List.mem_of_getElem? (i := 66) rfl)), rfl⟩
set_option maxRecDepth 100000 in
theorem w_949 : Cond.methodLink "LeakyLineLaw" 203 yX8_snapped ∈ lw_ok := List.mem_filter.mpr ⟨List.mem_of_getElem? (wl_7_ok (949, Cond.methodLink "LeakyLineLaw" 203 yX8_snapped) (List.mem_of_getElem? (i := 67) rfl)), rfl⟩
set_option maxRecDepth 100000 in
theorem w_950 : Cond.instanceMethod yX8_snapped ∈ lw_ok := List.mem_filter.mpr ⟨List.mem_of_getElem? (wl_7_ok (950, Cond.instanceMethod yX8_snapped) (List.mem_of_getElem? (i := 68) rfl)), rfl⟩
set_option maxRecDepth 100000 in
theorem w_951 : Cond.selects RX8 yX8_snapped yX8_snapped ∈ lw_ok := List.mem_filter.mpr ⟨List.mem_of_getElem? (wl_7_ok (951, Cond.selects RX8 yX8_snapped yX8_snapped) (List.mem_of_getElem? (i := 69) rfl)), rfl⟩
set_option maxRecDepth 100000 in
theorem w_952 : Cond.code yX8_snapped cX8_snapped 2 (some .int) ∈ lw_ok := List.mem_filter.mpr ⟨List.mem_of_getElem? (wl_7_ok (952, Cond.code yX8_snapped cX8_snapped 2 (some .int)) (List.mem_of_getElem? (i := 70) rfl)), rfl⟩
set_option maxRecDepth 100000 in
theorem w_953 : Cond.methodLink RX8 269 yX2_firstSnap ∈ lw_ok := List.mem_filter.mpr ⟨List.mem_of_getElem? (wl_7_ok (953, Cond.methodLink RX8 269 yX2_firstSnap) (List.mem_of_getElem? (i := 71) rfl)), rfl⟩
set_option maxRecDepth 100000 in
theorem w_954 : Cond.instanceMethod yX2_firstSnap ∈ lw_ok := List.mem_filter.mpr ⟨List.mem_of_getElem? (wl_7_ok (954, Cond.instanceMethod yX2_firstSnap) (List.mem_of_getElem? (i := 72) rfl)), rfl⟩
set_option maxRecDepth 100000 in
theorem w_955 : Cond.selects RX2 yX2_firstSnap yX2_firstSnap ∈ lw_ok := List.mem_filter.mpr ⟨List.mem_of_getElem? (wl_7_ok (955, Cond.selects RX2 yX2_firstSnap yX2_firstSnap) (List.mem_of_getElem? (i := 73) rfl)), rfl⟩
set_option maxRecDepth 100000 in
theorem w_956 : Cond.code yX2_firstSnap cX2_firstSnap 2 (some .int) ∈ lw_ok := List.mem_filter.mpr ⟨List.mem_of_getElem? (wl_7_ok (956, Cond.code yX2_firstSnap cX2_firstSnap 2 (some .int)) (List.mem_of_getElem? (i := 74) rfl)), rfl⟩
set_option maxRecDepth 100000 in
theorem w_957 : Cond.methodLink RX2 92 yJ6_numberOfTrailingZeros_0f7a4 ∈ lw_ok := List.mem_filter.mpr ⟨List.mem_of_getElem? (wl_7_ok (957, Cond.methodLink RX2 92 yJ6_numberOfTrailingZeros_0f7a4) (List.mem_of_getElem? (i := 75) rfl)), rfl⟩
set_option maxRecDepth 100000 in
theorem w_958 : Cond.methodLink "LeakyLineLaw" 207 yX8_lack ∈ lw_ok := List.mem_filter.mpr ⟨List.mem_of_getElem? (wl_7_ok (958, Cond.methodLink "LeakyLineLaw" 207 yX8_lack) (List.mem_of_getElem? (i := 76) rfl)), rfl⟩
set_option maxRecDepth 100000 in
theorem w_959 : Cond.instanceMethod yX8_lack ∈ lw_ok := List.mem_filter.mpr ⟨List.mem_of_getElem? (wl_7_ok (959, Cond.instanceMethod yX8_lack) (List.mem_of_getElem? (i := 77) rfl)), rfl⟩
set_option maxRecDepth 100000 in
theorem w_960 : Cond.selects RX8 yX8_lack yX8_lack ∈ lw_ok := List.mem_filter.mpr ⟨List.mem_of_getElem? (wl_7_ok (960, Cond.selects RX8 yX8_lack yX8_lack) (List.mem_of_getElem? (i := 78) rfl)), rfl⟩
set_option maxRecDepth 100000 in
theorem w_961 : Cond.code yX8_lack cX8_lack 5 (some .int) ∈ lw_ok := List.mem_filter.mpr ⟨List.mem_of_getElem? (wl_7_ok (961, Cond.code yX8_lack cX8_lack 5 (some .int)) (List.mem_of_getElem? (i := 79) rfl)), rfl⟩
set_option maxRecDepth 100000 in
theorem w_962 : Cond.methodLink "LeakyLineLaw" 211 yX8_loud ∈ lw_ok := List.mem_filter.mpr ⟨List.mem_of_getElem? (wl_7_ok (962, Cond.methodLink "LeakyLineLaw" 211 yX8_loud) (List.mem_of_getElem? (i := 80) rfl)), rfl⟩
set_option maxRecDepth 100000 in
theorem w_963 : Cond.instanceMethod yX8_loud ∈ lw_ok := List.mem_filter.mpr ⟨List.mem_of_getElem? (wl_7_ok (963, Cond.instanceMethod yX8_loud) (List.mem_of_getElem? (i := 81) rfl)), rfl⟩
set_option maxRecDepth 100000 in
theorem w_964 : Cond.selects RX8 yX8_loud yX8_loud ∈ lw_ok := List.mem_filter.mpr ⟨List.mem_of_getElem? (wl_7_ok (964, Cond.selects RX8 yX8_loud yX8_loud) (List.mem_of_getElem? (i := 82) rfl)), rfl⟩
set_option maxRecDepth 100000 in
theorem w_965 : Cond.code yX8_loud cX8_loud 4 (some .int) ∈ lw_ok := List.mem_filter.mpr ⟨List.mem_of_getElem? (wl_7_ok (965, Cond.code yX8_loud cX8_loud 4 (some .int)) (List.mem_of_getElem? (i := 83) rfl)), rfl⟩
set_option maxRecDepth 100000 in
theorem w_966 : Cond.methodLink "LeakyLineLaw" 215 yX8_weakest ∈ lw_ok := List.mem_filter.mpr ⟨List.mem_of_getElem? (wl_7_ok (966, Cond.methodLink "LeakyLineLaw" 215 yX8_weakest) (List.mem_of_getElem? (i := 84) rfl)), rfl⟩
set_option maxRecDepth 100000 in
theorem w_967 : Cond.instanceMethod yX8_weakest ∈ lw_ok := List.mem_filter.mpr ⟨List.mem_of_getElem? (wl_7_ok (967, Cond.instanceMethod yX8_weakest) (List.mem_of_getElem? (i := 85) rfl)), rfl⟩
set_option maxRecDepth 100000 in
theorem w_968 : Cond.selects RX8 yX8_weakest yX8_weakest ∈ lw_ok := List.mem_filter.mpr ⟨List.mem_of_getElem? (wl_7_ok (968, Cond.selects RX8 yX8_weakest yX8_weakest) (List.mem_of_getElem? (i := 86) rfl)), rfl⟩
set_option maxRecDepth 100000 in
theorem w_969 : Cond.code yX8_weakest cX8_weakest 1 (some .int) ∈ lw_ok := List.mem_filter.mpr ⟨List.mem_of_getElem? (wl_7_ok (969, Cond.code yX8_weakest cX8_weakest 1 (some .int)) (List.mem_of_getElem? (i := 87) rfl)), rfl⟩
set_option maxRecDepth 100000 in
theorem w_970 : Cond.methodLink RX8 275 yX8_firstByDays ∈ lw_ok := List.mem_filter.mpr ⟨List.mem_of_getElem? (wl_7_ok (970, Cond.methodLink RX8 275 yX8_firstByDays) (List.mem_of_getElem? (i := 88) rfl)), rfl⟩
set_option maxRecDepth 100000 in
theorem w_972 : Cond.instanceMethod yX8_firstByDays ∈ lw_ok := List.mem_filter.mpr ⟨List.mem_of_getElem? (wl_7_ok (972, Cond.instanceMethod yX8_firstByDays) (List.mem_of_getElem? (i := 89) rfl)), rfl⟩
set_option maxRecDepth 100000 in
theorem w_973 : Cond.code yX8_firstByDays cX8_firstByDays 6 (some .int) ∈ lw_ok := List.mem_filter.mpr ⟨List.mem_of_getElem? (wl_7_ok (973, Cond.code yX8_firstByDays cX8_firstByDays 6 (some .int)) (List.mem_of_getElem? (i := 90) rfl)), rfl⟩
set_option maxRecDepth 100000 in
theorem w_974 : Cond.methodLink RX8 406 yX8_heardDaysOf ∈ lw_ok := List.mem_filter.mpr ⟨List.mem_of_getElem? (wl_7_ok (974, Cond.methodLink RX8 406 yX8_heardDaysOf) (List.mem_of_getElem? (i := 91) rfl)), rfl⟩
set_option maxRecDepth 100000 in
theorem w_976 : Cond.instanceMethod yX8_heardDaysOf ∈ lw_ok := List.mem_filter.mpr ⟨List.mem_of_getElem? (wl_7_ok (976, Cond.instanceMethod yX8_heardDaysOf) (List.mem_of_getElem? (i := 92) rfl)), rfl⟩
set_option maxRecDepth 100000 in
theorem w_977 : Cond.code yX8_heardDaysOf cX8_heardDaysOf 4 (some .int) ∈ lw_ok := List.mem_filter.mpr ⟨List.mem_of_getElem? (wl_7_ok (977, Cond.code yX8_heardDaysOf cX8_heardDaysOf 4 (some .int)) (List.mem_of_getElem? (i := 93) rfl)), rfl⟩
set_option maxRecDepth 100000 in
theorem w_978 : Cond.methodLink "LeakyLineLaw" 219 yX8_strong ∈ lw_ok := List.mem_filter.mpr ⟨List.mem_of_getElem? (wl_7_ok (978, Cond.methodLink "LeakyLineLaw" 219 yX8_strong) (List.mem_of_getElem? (i := 94) rfl)), rfl⟩
set_option maxRecDepth 100000 in
theorem w_979 : Cond.instanceMethod yX8_strong ∈ lw_ok := List.mem_filter.mpr ⟨List.mem_of_getElem? (wl_7_ok (979, Cond.instanceMethod yX8_strong) (List.mem_of_getElem? (i := 95) rfl)), rfl⟩
set_option maxRecDepth 100000 in
theorem w_980 : Cond.selects RX8 yX8_strong yX8_strong ∈ lw_ok := List.mem_filter.mpr ⟨List.mem_of_getElem? (wl_7_ok (980, Cond.selects RX8 yX8_strong yX8_strong) (List.mem_of_getElem? (i := 96) rfl)), rfl⟩
set_option maxRecDepth 100000 in
theorem w_981 : Cond.code yX8_strong cX8_strong 1 (some .int) ∈ lw_ok := List.mem_filter.mpr ⟨List.mem_of_getElem? (wl_7_ok (981, Cond.code yX8_strong cX8_strong 1 (some .int)) (List.mem_of_getElem? (i := 97) rfl)), rfl⟩
set_option maxRecDepth 100000 in
theorem w_982 : Cond.methodLink "LeakyLineLaw" 223 yX8_battery ∈ lw_ok := List.mem_filter.mpr ⟨List.mem_of_getElem? (wl_7_ok (982, Cond.methodLink "LeakyLineLaw" 223 yX8_battery) (List.mem_of_getElem? (i := 98) rfl)), rfl⟩
set_option maxRecDepth 100000 in
theorem w_983 : Cond.instanceMethod yX8_battery ∈ lw_ok := List.mem_filter.mpr ⟨List.mem_of_getElem? (wl_7_ok (983, Cond.instanceMethod yX8_battery) (List.mem_of_getElem? (i := 99) rfl)), rfl⟩
def wl_8 : List (Nat × Cond) := [(984, Cond.selects RX8 yX8_battery yX8_battery), (985, Cond.code yX8_battery cX8_battery 2 (some .int)), (986, Cond.methodLink RX8 278 yX8_leastBattery), (988, Cond.instanceMethod yX8_leastBattery), (989, Cond.code yX8_leastBattery cX8_leastBattery 6 (some .int)), (990, Cond.methodLink RX8 412 yJ9_max_f86c9), (991, Cond.static yJ9_max_f86c9), (992, Cond.code yJ9_max_f86c9 cJ9_max_f86c9 4 (some .long)), (993, Cond.constantLong RX8 415 200), (994, Cond.methodLink "LeakyLineLaw" 227 yX8_batteries), (995, Cond.instanceMethod yX8_batteries), (996, Cond.selects RX8 yX8_batteries yX8_batteries), (997, Cond.code yX8_batteries cX8_batteries 4 (some .int)), (998, Cond.methodLink "LeakyLineLaw" 231 yX8_cure), (999, Cond.instanceMethod yX8_cure), (1000, Cond.selects RX8 yX8_cure yX8_cure), (1001, Cond.code yX8_cure cX8_cure 3 (some .int)), (1002, Cond.methodLink RX8 285 yX8_leastCure), (1004, Cond.instanceMethod yX8_leastCure), (1005, Cond.code yX8_leastCure cX8_leastCure 4 (some .int)), (1006, Cond.methodLink "LeakyLineLaw" 235 yX8_cures), (1007, Cond.instanceMethod yX8_cures), (1008, Cond.selects RX8 yX8_cures yX8_cures), (1009, Cond.code yX8_cures cX8_cures 2 (some .int)), (1010, Cond.methodLink "LeakyLineLaw" 239 yX8_best), (1011, Cond.instanceMethod yX8_best), (1012, Cond.selects RX8 yX8_best yX8_best), (1013, Cond.code yX8_best cX8_best 5 (some .int)), (1014, Cond.methodLink "LeakyLineLaw" 243 yX8_thick), (1015, Cond.instanceMethod yX8_thick), (1016, Cond.selects RX8 yX8_thick yX8_thick), (1017, Cond.code yX8_thick cX8_thick 5 (some .int)), (1018, Cond.methodLink "LeakyLineLaw" 247 yX8_fits), (1019, Cond.instanceMethod yX8_fits), (1020, Cond.selects RX8 yX8_fits yX8_fits), (1021, Cond.code yX8_fits cX8_fits 4 (some .int)), (1022, Cond.methodLink RX8 289 yX8_refusalOfSeen), (1024, Cond.instanceMethod yX8_refusalOfSeen), (1025, Cond.code yX8_refusalOfSeen cX8_refusalOfSeen 3 (some .int)), (1026, Cond.methodLink RX8 302 yX8_refusalOfRow), (1028, Cond.instanceMethod yX8_refusalOfRow), (1029, Cond.code yX8_refusalOfRow cX8_refusalOfRow 6 (some .int)), (1030, Cond.methodLink RX8 364 yX8_isSlot), (1031, Cond.static yX8_isSlot), (1032, Cond.code yX8_isSlot cX8_isSlot 1 (some .boolean)), (1033, Cond.methodLink RX8 370 yX3_has), (1034, Cond.instanceMethod yX3_has), (1035, Cond.selects RX3 yX3_has yX3_has), (1036, Cond.code yX3_has cX3_has 2 (some .boolean)), (1037, Cond.methodLink RX8 417 yX3_at), (1038, Cond.instanceMethod yX3_at), (1039, Cond.selects RX3 yX3_at yX3_at), (1040, Cond.code yX3_at cX3_at 3 (some .long)), (1041, Cond.methodLink RX8 292 yX8_fittingLeaks), (1043, Cond.instanceMethod yX8_fittingLeaks), (1044, Cond.code yX8_fittingLeaks cX8_fittingLeaks 5 (some .int)), (1045, Cond.methodLink RX8 305 yX8_isAsSeen), (1047, Cond.instanceMethod yX8_isAsSeen), (1048, Cond.code yX8_isAsSeen cX8_isAsSeen 4 (some .boolean)), (1049, Cond.methodLink "LeakyLineLaw" 251 yX8_low), (1050, Cond.instanceMethod yX8_low), (1051, Cond.selects RX8 yX8_low yX8_low), (1052, Cond.code yX8_low cX8_low 5 (some .int)), (1053, Cond.methodLink "LeakyLineLaw" 255 yX8_high), (1054, Cond.instanceMethod yX8_high), (1055, Cond.selects RX8 yX8_high yX8_high), (1056, Cond.code yX8_high cX8_high 4 (some .int)), (1057, Cond.methodLink "LeakyLineLaw" 259 yX8_ask), (1058, Cond.instanceMethod yX8_ask), (1059, Cond.selects RX8 yX8_ask yX8_ask), (1060, Cond.code yX8_ask cX8_ask 4 (some .int)), (1061, Cond.methodLink RX8 295 yX8_dayToAsk), (1063, Cond.instanceMethod yX8_dayToAsk), (1064, Cond.code yX8_dayToAsk cX8_dayToAsk 7 (some .int)), (1065, Cond.methodLink RX8 298 yX8_leftAtWorst), (1067, Cond.instanceMethod yX8_leftAtWorst), (1068, Cond.code yX8_leftAtWorst cX8_leftAtWorst 6 (some .int)), (1069, Cond.methodLink RX8 427 yX8_readByLeaks), (1071, Cond.instanceMethod yX8_readByLeaks), (1072, Cond.code yX8_readByLeaks cX8_readByLeaks 5 none), (1073, Cond.methodLink RX8 430 yX8_alikeFrom), (1075, Cond.instanceMethod yX8_alikeFrom), (1076, Cond.code yX8_alikeFrom cX8_alikeFrom 5 (some .int)), (1077, Cond.methodLink "LeakyLineLaw" 263 yX8_leaves), (1078, Cond.instanceMethod yX8_leaves), (1079, Cond.selects RX8 yX8_leaves yX8_leaves), (1080, Cond.code yX8_leaves cX8_leaves 6 (some .int)), (1081, Cond.methodLink "LeakyLineLaw" 267 yX8_spots), (1082, Cond.instanceMethod yX8_spots), (1083, Cond.selects RX8 yX8_spots yX8_spots), (1084, Cond.code yX8_spots cX8_spots 6 (some .int)), (1085, Cond.methodLink "LeakyLineLaw" 271 yX8_breaks), (1086, Cond.instanceMethod yX8_breaks), (1087, Cond.selects RX8 yX8_breaks yX8_breaks), (1088, Cond.code yX8_breaks cX8_breaks 5 (some .int)), (1089, Cond.methodLink "LeakyLineLaw" 275 yX8_laws), (1090, Cond.instanceMethod yX8_laws), (1091, Cond.selects RX8 yX8_laws yX8_laws), (1092, Cond.code yX8_laws cX8_laws 5 (some .int)), (1093, Cond.methodLink "LeakyLineLaw" 279 yX8_by)]
set_option maxRecDepth 100000 in
theorem wl_8_ok : ∀ x ∈ wl_8, lw_tbl[x.1]? = some x.2 := by decide +kernel
set_option maxRecDepth 100000 in
theorem w_984 : Cond.selects RX8 yX8_battery yX8_battery ∈ lw_ok := List.mem_filter.mpr ⟨List.mem_of_getElem? (wl_8_ok (984, Cond.selects RX8 yX8_battery yX8_battery) (List.mem_of_getElem? (i := 0) rfl)), rfl⟩
set_option maxRecDepth 100000 in
theorem w_985 : Cond.code yX8_battery cX8_battery 2 (some .int) ∈ lw_ok := List.mem_filter.mpr ⟨List.mem_of_getElem? (wl_8_ok (985, Cond.code yX8_battery cX8_battery 2 (some .int)) (List.mem_of_getElem? (i := 1) rfl)), rfl⟩
set_option maxRecDepth 100000 in
theorem w_986 : Cond.methodLink RX8 278 yX8_leastBattery ∈ lw_ok := List.mem_filter.mpr ⟨List.mem_of_getElem? (wl_8_ok (986, Cond.methodLink RX8 278 yX8_leastBattery) (List.mem_of_getElem? (i := 2) rfl)), rfl⟩
set_option maxRecDepth 100000 in
theorem w_988 : Cond.instanceMethod yX8_leastBattery ∈ lw_ok := List.mem_filter.mpr ⟨List.mem_of_getElem? (wl_8_ok (988, Cond.instanceMethod yX8_leastBattery) (List.mem_of_getElem? (i := 3) rfl)), rfl⟩
set_option maxRecDepth 100000 in
theorem w_989 : Cond.code yX8_leastBattery cX8_leastBattery 6 (some .int) ∈ lw_ok := List.mem_filter.mpr ⟨List.mem_of_getElem? (wl_8_ok (989, Cond.code yX8_leastBattery cX8_leastBattery 6 (some .int)) (List.mem_of_getElem? (i := 4) rfl)), rfl⟩
set_option maxRecDepth 100000 in
theorem w_990 : Cond.methodLink RX8 412 yJ9_max_f86c9 ∈ lw_ok := List.mem_filter.mpr ⟨List.mem_of_getElem? (wl_8_ok (990, Cond.methodLink RX8 412 yJ9_max_f86c9) (List.mem_of_getElem? (i := 5) rfl)), rfl⟩
set_option maxRecDepth 100000 in
theorem w_991 : Cond.static yJ9_max_f86c9 ∈ lw_ok := List.mem_filter.mpr ⟨List.mem_of_getElem? (wl_8_ok (991, Cond.static yJ9_max_f86c9) (List.mem_of_getElem? (i := 6) rfl)), rfl⟩
set_option maxRecDepth 100000 in
theorem w_992 : Cond.code yJ9_max_f86c9 cJ9_max_f86c9 4 (some .long) ∈ lw_ok := List.mem_filter.mpr ⟨List.mem_of_getElem? (wl_8_ok (992, Cond.code yJ9_max_f86c9 cJ9_max_f86c9 4 (some .long)) (List.mem_of_getElem? (i := 7) rfl)), rfl⟩
set_option maxRecDepth 100000 in
theorem w_993 : Cond.constantLong RX8 415 200 ∈ lw_ok := List.mem_filter.mpr ⟨List.mem_of_getElem? (wl_8_ok (993, Cond.constantLong RX8 415 200) (List.mem_of_getElem? (i := 8) rfl)), rfl⟩
set_option maxRecDepth 100000 in
theorem w_994 : Cond.methodLink "LeakyLineLaw" 227 yX8_batteries ∈ lw_ok := List.mem_filter.mpr ⟨List.mem_of_getElem? (wl_8_ok (994, Cond.methodLink "LeakyLineLaw" 227 yX8_batteries) (List.mem_of_getElem? (i := 9) rfl)), rfl⟩
set_option maxRecDepth 100000 in
theorem w_995 : Cond.instanceMethod yX8_batteries ∈ lw_ok := List.mem_filter.mpr ⟨List.mem_of_getElem? (wl_8_ok (995, Cond.instanceMethod yX8_batteries) (List.mem_of_getElem? (i := 10) rfl)), rfl⟩
set_option maxRecDepth 100000 in
theorem w_996 : Cond.selects RX8 yX8_batteries yX8_batteries ∈ lw_ok := List.mem_filter.mpr ⟨List.mem_of_getElem? (wl_8_ok (996, Cond.selects RX8 yX8_batteries yX8_batteries) (List.mem_of_getElem? (i := 11) rfl)), rfl⟩
set_option maxRecDepth 100000 in
theorem w_997 : Cond.code yX8_batteries cX8_batteries 4 (some .int) ∈ lw_ok := List.mem_filter.mpr ⟨List.mem_of_getElem? (wl_8_ok (997, Cond.code yX8_batteries cX8_batteries 4 (some .int)) (List.mem_of_getElem? (i := 12) rfl)), rfl⟩
set_option maxRecDepth 100000 in
theorem w_998 : Cond.methodLink "LeakyLineLaw" 231 yX8_cure ∈ lw_ok := List.mem_filter.mpr ⟨List.mem_of_getElem? (wl_8_ok (998, Cond.methodLink "LeakyLineLaw" 231 yX8_cure) (List.mem_of_getElem? (i := 13) rfl)), rfl⟩
set_option maxRecDepth 100000 in
theorem w_999 : Cond.instanceMethod yX8_cure ∈ lw_ok := List.mem_filter.mpr ⟨List.mem_of_getElem? (wl_8_ok (999, Cond.instanceMethod yX8_cure) (List.mem_of_getElem? (i := 14) rfl)), rfl⟩
set_option maxRecDepth 100000 in
theorem w_1000 : Cond.selects RX8 yX8_cure yX8_cure ∈ lw_ok := List.mem_filter.mpr ⟨List.mem_of_getElem? (wl_8_ok (1000, Cond.selects RX8 yX8_cure yX8_cure) (List.mem_of_getElem? (i := 15) rfl)), rfl⟩
set_option maxRecDepth 100000 in
theorem w_1001 : Cond.code yX8_cure cX8_cure 3 (some .int) ∈ lw_ok := List.mem_filter.mpr ⟨List.mem_of_getElem? (wl_8_ok (1001, Cond.code yX8_cure cX8_cure 3 (some .int)) (List.mem_of_getElem? (i := 16) rfl)), rfl⟩
set_option maxRecDepth 100000 in
theorem w_1002 : Cond.methodLink RX8 285 yX8_leastCure ∈ lw_ok := List.mem_filter.mpr ⟨List.mem_of_getElem? (wl_8_ok (1002, Cond.methodLink RX8 285 yX8_leastCure) (List.mem_of_getElem? (i := 17) rfl)), rfl⟩
set_option maxRecDepth 100000 in
theorem w_1004 : Cond.instanceMethod yX8_leastCure ∈ lw_ok := List.mem_filter.mpr ⟨List.mem_of_getElem? (wl_8_ok (1004, Cond.instanceMethod yX8_leastCure) (List.mem_of_getElem? (i := 18) rfl)), rfl⟩
set_option maxRecDepth 100000 in
theorem w_1005 : Cond.code yX8_leastCure cX8_leastCure 4 (some .int) ∈ lw_ok := List.mem_filter.mpr ⟨List.mem_of_getElem? (wl_8_ok (1005, Cond.code yX8_leastCure cX8_leastCure 4 (some .int)) (List.mem_of_getElem? (i := 19) rfl)), rfl⟩
set_option maxRecDepth 100000 in
theorem w_1006 : Cond.methodLink "LeakyLineLaw" 235 yX8_cures ∈ lw_ok := List.mem_filter.mpr ⟨List.mem_of_getElem? (wl_8_ok (1006, Cond.methodLink "LeakyLineLaw" 235 yX8_cures) (List.mem_of_getElem? (i := 20) rfl)), rfl⟩
set_option maxRecDepth 100000 in
theorem w_1007 : Cond.instanceMethod yX8_cures ∈ lw_ok := List.mem_filter.mpr ⟨List.mem_of_getElem? (wl_8_ok (1007, Cond.instanceMethod yX8_cures) (List.mem_of_getElem? (i := 21) rfl)), rfl⟩
set_option maxRecDepth 100000 in
theorem w_1008 : Cond.selects RX8 yX8_cures yX8_cures ∈ lw_ok := List.mem_filter.mpr ⟨List.mem_of_getElem? (wl_8_ok (1008, Cond.selects RX8 yX8_cures yX8_cures) (List.mem_of_getElem? (i := 22) rfl)), rfl⟩
set_option maxRecDepth 100000 in
theorem w_1009 : Cond.code yX8_cures cX8_cures 2 (some .int) ∈ lw_ok := List.mem_filter.mpr ⟨List.mem_of_getElem? (wl_8_ok (1009, Cond.code yX8_cures cX8_cures 2 (some .int)) (List.mem_of_getElem? (i := 23) rfl)), rfl⟩
set_option maxRecDepth 100000 in
theorem w_1010 : Cond.methodLink "LeakyLineLaw" 239 yX8_best ∈ lw_ok := List.mem_filter.mpr ⟨List.mem_of_getElem? (wl_8_ok (1010, Cond.methodLink "LeakyLineLaw" 239 yX8_best) (List.mem_of_getElem? (i := 24) rfl)), rfl⟩
set_option maxRecDepth 100000 in
theorem w_1011 : Cond.instanceMethod yX8_best ∈ lw_ok := List.mem_filter.mpr ⟨List.mem_of_getElem? (wl_8_ok (1011, Cond.instanceMethod yX8_best) (List.mem_of_getElem? (i := 25) rfl)), rfl⟩
set_option maxRecDepth 100000 in
theorem w_1012 : Cond.selects RX8 yX8_best yX8_best ∈ lw_ok := List.mem_filter.mpr ⟨List.mem_of_getElem? (wl_8_ok (1012, Cond.selects RX8 yX8_best yX8_best) (List.mem_of_getElem? (i := 26) rfl)), rfl⟩
set_option maxRecDepth 100000 in
theorem w_1013 : Cond.code yX8_best cX8_best 5 (some .int) ∈ lw_ok := List.mem_filter.mpr ⟨List.mem_of_getElem? (wl_8_ok (1013, Cond.code yX8_best cX8_best 5 (some .int)) (List.mem_of_getElem? (i := 27) rfl)), rfl⟩
set_option maxRecDepth 100000 in
theorem w_1014 : Cond.methodLink "LeakyLineLaw" 243 yX8_thick ∈ lw_ok := List.mem_filter.mpr ⟨List.mem_of_getElem? (wl_8_ok (1014, Cond.methodLink "LeakyLineLaw" 243 yX8_thick) (List.mem_of_getElem? (i := 28) rfl)), rfl⟩
set_option maxRecDepth 100000 in
theorem w_1015 : Cond.instanceMethod yX8_thick ∈ lw_ok := List.mem_filter.mpr ⟨List.mem_of_getElem? (wl_8_ok (1015, Cond.instanceMethod yX8_thick) (List.mem_of_getElem? (i := 29) rfl)), rfl⟩
set_option maxRecDepth 100000 in
theorem w_1016 : Cond.selects RX8 yX8_thick yX8_thick ∈ lw_ok := List.mem_filter.mpr ⟨List.mem_of_getElem? (wl_8_ok (1016, Cond.selects RX8 yX8_thick yX8_thick) (List.mem_of_getElem? (i := 30) rfl)), rfl⟩
set_option maxRecDepth 100000 in
theorem w_1017 : Cond.code yX8_thick cX8_thick 5 (some .int) ∈ lw_ok := List.mem_filter.mpr ⟨List.mem_of_getElem? (wl_8_ok (1017, Cond.code yX8_thick cX8_thick 5 (some .int)) (List.mem_of_getElem? (i := 31) rfl)), rfl⟩
set_option maxRecDepth 100000 in
theorem w_1018 : Cond.methodLink "LeakyLineLaw" 247 yX8_fits ∈ lw_ok := List.mem_filter.mpr ⟨List.mem_of_getElem? (wl_8_ok (1018, Cond.methodLink "LeakyLineLaw" 247 yX8_fits) (List.mem_of_getElem? (i := 32) rfl)), rfl⟩
set_option maxRecDepth 100000 in
theorem w_1019 : Cond.instanceMethod yX8_fits ∈ lw_ok := List.mem_filter.mpr ⟨List.mem_of_getElem? (wl_8_ok (1019, Cond.instanceMethod yX8_fits) (List.mem_of_getElem? (i := 33) rfl)), rfl⟩
set_option maxRecDepth 100000 in
theorem w_1020 : Cond.selects RX8 yX8_fits yX8_fits ∈ lw_ok := List.mem_filter.mpr ⟨List.mem_of_getElem? (wl_8_ok (1020, Cond.selects RX8 yX8_fits yX8_fits) (List.mem_of_getElem? (i := 34) rfl)), rfl⟩
set_option maxRecDepth 100000 in
theorem w_1021 : Cond.code yX8_fits cX8_fits 4 (some .int) ∈ lw_ok := List.mem_filter.mpr ⟨List.mem_of_getElem? (wl_8_ok (1021, Cond.code yX8_fits cX8_fits 4 (some .int)) (List.mem_of_getElem? (i := 35) rfl)), rfl⟩
set_option maxRecDepth 100000 in
theorem w_1022 : Cond.methodLink RX8 289 yX8_refusalOfSeen ∈ lw_ok := List.mem_filter.mpr ⟨List.mem_of_getElem? (wl_8_ok (1022, Cond.methodLink RX8 289 yX8_refusalOfSeen) (List.mem_of_getElem? (i := 36) rfl)), rfl⟩
set_option maxRecDepth 100000 in
theorem w_1024 : Cond.instanceMethod yX8_refusalOfSeen ∈ lw_ok := List.mem_filter.mpr ⟨List.mem_of_getElem? (wl_8_ok (1024, Cond.instanceMethod yX8_refusalOfSeen) (List.mem_of_getElem? (i := 37) rfl)), rfl⟩
set_option maxRecDepth 100000 in
theorem w_1025 : Cond.code yX8_refusalOfSeen cX8_refusalOfSeen 3 (some .int) ∈ lw_ok := List.mem_filter.mpr ⟨List.mem_of_getElem? (wl_8_ok (1025, Cond.code yX8_refusalOfSeen cX8_refusalOfSeen 3 (some .int)) (List.mem_of_getElem? (i := 38) rfl)), rfl⟩
set_option maxRecDepth 100000 in
theorem w_1026 : Cond.methodLink RX8 302 yX8_refusalOfRow ∈ lw_ok := List.mem_filter.mpr ⟨List.mem_of_getElem? (wl_8_ok (1026, Cond.methodLink RX8 302 yX8_refusalOfRow) (List.mem_of_getElem? (i := 39) rfl)), rfl⟩
set_option maxRecDepth 100000 in
theorem w_1028 : Cond.instanceMethod yX8_refusalOfRow ∈ lw_ok := List.mem_filter.mpr ⟨List.mem_of_getElem? (wl_8_ok (1028, Cond.instanceMethod yX8_refusalOfRow) (List.mem_of_getElem? (i := 40) rfl)), rfl⟩
set_option maxRecDepth 100000 in
theorem w_1029 : Cond.code yX8_refusalOfRow cX8_refusalOfRow 6 (some .int) ∈ lw_ok := List.mem_filter.mpr ⟨List.mem_of_getElem? (wl_8_ok (1029, Cond.code yX8_refusalOfRow cX8_refusalOfRow 6 (some .int)) (List.mem_of_getElem? (i := 41) rfl)), rfl⟩
set_option maxRecDepth 100000 in
theorem w_1030 : Cond.methodLink RX8 364 yX8_isSlot ∈ lw_ok := List.mem_filter.mpr ⟨List.mem_of_getElem? (wl_8_ok (1030, Cond.methodLink RX8 364 yX8_isSlot) (List.mem_of_getElem? (i := 42) rfl)), rfl⟩
set_option maxRecDepth 100000 in
theorem w_1031 : Cond.static yX8_isSlot ∈ lw_ok := List.mem_filter.mpr ⟨List.mem_of_getElem? (wl_8_ok (1031, Cond.static yX8_isSlot) (List.mem_of_getElem? (i := 43) rfl)), rfl⟩
set_option maxRecDepth 100000 in
theorem w_1032 : Cond.code yX8_isSlot cX8_isSlot 1 (some .boolean) ∈ lw_ok := List.mem_filter.mpr ⟨List.mem_of_getElem? (wl_8_ok (1032, Cond.code yX8_isSlot cX8_isSlot 1 (some .boolean)) (List.mem_of_getElem? (i := 44) rfl)), rfl⟩
set_option maxRecDepth 100000 in
theorem w_1033 : Cond.methodLink RX8 370 yX3_has ∈ lw_ok := List.mem_filter.mpr ⟨List.mem_of_getElem? (wl_8_ok (1033, Cond.methodLink RX8 370 yX3_has) (List.mem_of_getElem? (i := 45) rfl)), rfl⟩
set_option maxRecDepth 100000 in
theorem w_1034 : Cond.instanceMethod yX3_has ∈ lw_ok := List.mem_filter.mpr ⟨List.mem_of_getElem? (wl_8_ok (1034, Cond.instanceMethod yX3_has) (List.mem_of_getElem? (i := 46) rfl)), rfl⟩
set_option maxRecDepth 100000 in
theorem w_1035 : Cond.selects RX3 yX3_has yX3_has ∈ lw_ok := List.mem_filter.mpr ⟨List.mem_of_getElem? (wl_8_ok (1035, Cond.selects RX3 yX3_has yX3_has) (List.mem_of_getElem? (i := 47) rfl)), rfl⟩
set_option maxRecDepth 100000 in
theorem w_1036 : Cond.code yX3_has cX3_has 2 (some .boolean) ∈ lw_ok := List.mem_filter.mpr ⟨List.mem_of_getElem? (wl_8_ok (1036, Cond.code yX3_has cX3_has 2 (some .boolean)) (List.mem_of_getElem? (i := 48) rfl)), rfl⟩
set_option maxRecDepth 100000 in
theorem w_1037 : Cond.methodLink RX8 417 yX3_at ∈ lw_ok := List.mem_filter.mpr ⟨List.mem_of_getElem? (wl_8_ok (1037, Cond.methodLink RX8 417 yX3_at) (List.mem_of_getElem? (i := 49) rfl)), rfl⟩
set_option maxRecDepth 100000 in
theorem w_1038 : Cond.instanceMethod yX3_at ∈ lw_ok := List.mem_filter.mpr ⟨List.mem_of_getElem? (wl_8_ok (1038, Cond.instanceMethod yX3_at) (List.mem_of_getElem? (i := 50) rfl)), rfl⟩
set_option maxRecDepth 100000 in
theorem w_1039 : Cond.selects RX3 yX3_at yX3_at ∈ lw_ok := List.mem_filter.mpr ⟨List.mem_of_getElem? (wl_8_ok (1039, Cond.selects RX3 yX3_at yX3_at) (List.mem_of_getElem? (i := 51) rfl)), rfl⟩
set_option maxRecDepth 100000 in
theorem w_1040 : Cond.code yX3_at cX3_at 3 (some .long) ∈ lw_ok := List.mem_filter.mpr ⟨List.mem_of_getElem? (wl_8_ok (1040, Cond.code yX3_at cX3_at 3 (some .long)) (List.mem_of_getElem? (i := 52) rfl)), rfl⟩
set_option maxRecDepth 100000 in
theorem w_1041 : Cond.methodLink RX8 292 yX8_fittingLeaks ∈ lw_ok := List.mem_filter.mpr ⟨List.mem_of_getElem? (wl_8_ok (1041, Cond.methodLink RX8 292 yX8_fittingLeaks) (List.mem_of_getElem? (i := 53) rfl)), rfl⟩
set_option maxRecDepth 100000 in
theorem w_1043 : Cond.instanceMethod yX8_fittingLeaks ∈ lw_ok := List.mem_filter.mpr ⟨List.mem_of_getElem? (wl_8_ok (1043, Cond.instanceMethod yX8_fittingLeaks) (List.mem_of_getElem? (i := 54) rfl)), rfl⟩
set_option maxRecDepth 100000 in
theorem w_1044 : Cond.code yX8_fittingLeaks cX8_fittingLeaks 5 (some .int) ∈ lw_ok := List.mem_filter.mpr ⟨List.mem_of_getElem? (wl_8_ok (1044, Cond.code yX8_fittingLeaks cX8_fittingLeaks 5 (some .int)) (List.mem_of_getElem? (i := 55) rfl)), rfl⟩
set_option maxRecDepth 100000 in
theorem w_1045 : Cond.methodLink RX8 305 yX8_isAsSeen ∈ lw_ok := List.mem_filter.mpr ⟨List.mem_of_getElem? (wl_8_ok (1045, Cond.methodLink RX8 305 yX8_isAsSeen) (List.mem_of_getElem? (i := 56) rfl)), rfl⟩
set_option maxRecDepth 100000 in
theorem w_1047 : Cond.instanceMethod yX8_isAsSeen ∈ lw_ok := List.mem_filter.mpr ⟨List.mem_of_getElem? (wl_8_ok (1047, Cond.instanceMethod yX8_isAsSeen) (List.mem_of_getElem? (i := 57) rfl)), rfl⟩
set_option maxRecDepth 100000 in
theorem w_1048 : Cond.code yX8_isAsSeen cX8_isAsSeen 4 (some .boolean) ∈ lw_ok := List.mem_filter.mpr ⟨List.mem_of_getElem? (wl_8_ok (1048, Cond.code yX8_isAsSeen cX8_isAsSeen 4 (some .boolean)) (List.mem_of_getElem? (i := 58) rfl)), rfl⟩
set_option maxRecDepth 100000 in
theorem w_1049 : Cond.methodLink "LeakyLineLaw" 251 yX8_low ∈ lw_ok := List.mem_filter.mpr ⟨List.mem_of_getElem? (wl_8_ok (1049, Cond.methodLink "LeakyLineLaw" 251 yX8_low) (List.mem_of_getElem? (i := 59) rfl)), rfl⟩
set_option maxRecDepth 100000 in
theorem w_1050 : Cond.instanceMethod yX8_low ∈ lw_ok := List.mem_filter.mpr ⟨List.mem_of_getElem? (wl_8_ok (1050, Cond.instanceMethod yX8_low) (List.mem_of_getElem? (i := 60) rfl)), rfl⟩
set_option maxRecDepth 100000 in
theorem w_1051 : Cond.selects RX8 yX8_low yX8_low ∈ lw_ok := List.mem_filter.mpr ⟨List.mem_of_getElem? (wl_8_ok (1051, Cond.selects RX8 yX8_low yX8_low) (List.mem_of_getElem? (i := 61) rfl)), rfl⟩
set_option maxRecDepth 100000 in
theorem w_1052 : Cond.code yX8_low cX8_low 5 (some .int) ∈ lw_ok := List.mem_filter.mpr ⟨List.mem_of_getElem? (wl_8_ok (1052, Cond.code yX8_low cX8_low 5 (some .int)) (List.mem_of_getElem? (i := 62) rfl)), rfl⟩
set_option maxRecDepth 100000 in
theorem w_1053 : Cond.methodLink "LeakyLineLaw" 255 yX8_high ∈ lw_ok := List.mem_filter.mpr ⟨List.mem_of_getElem? (wl_8_ok (1053, Cond.methodLink "LeakyLineLaw" 255 yX8_high) (List.mem_of_getElem? (i := 63) rfl)), rfl⟩
set_option maxRecDepth 100000 in
theorem w_1054 : Cond.instanceMethod yX8_high ∈ lw_ok := List.mem_filter.mpr ⟨List.mem_of_getElem? (wl_8_ok (1054, Cond.instanceMethod yX8_high) (List.mem_of_getElem? (i := 64) rfl)), rfl⟩
set_option maxRecDepth 100000 in
theorem w_1055 : Cond.selects RX8 yX8_high yX8_high ∈ lw_ok := List.mem_filter.mpr ⟨List.mem_of_getElem? (wl_8_ok (1055, Cond.selects RX8 yX8_high yX8_high) (List.mem_of_getElem? (i := 65) rfl)), rfl⟩
set_option maxRecDepth 100000 in
theorem w_1056 : Cond.code yX8_high cX8_high 4 (some .int) ∈ lw_ok := List.mem_filter.mpr ⟨List.mem_of_getElem? (wl_8_ok (1056, Cond.code yX8_high cX8_high 4 (some .int)) (List.mem_of_getElem? (i := 66) rfl)), rfl⟩
set_option maxRecDepth 100000 in
theorem w_1057 : Cond.methodLink "LeakyLineLaw" 259 yX8_ask ∈ lw_ok := List.mem_filter.mpr ⟨List.mem_of_getElem? (wl_8_ok (1057, Cond.methodLink "LeakyLineLaw" 259 yX8_ask) (List.mem_of_getElem? (i := 67) rfl)), rfl⟩
set_option maxRecDepth 100000 in
theorem w_1058 : Cond.instanceMethod yX8_ask ∈ lw_ok := List.mem_filter.mpr ⟨List.mem_of_getElem? (wl_8_ok (1058, Cond.instanceMethod yX8_ask) (List.mem_of_getElem? (i := 68) rfl)), rfl⟩
set_option maxRecDepth 100000 in
theorem w_1059 : Cond.selects RX8 yX8_ask yX8_ask ∈ lw_ok := List.mem_filter.mpr ⟨List.mem_of_getElem? (wl_8_ok (1059, Cond.selects RX8 yX8_ask yX8_ask) (List.mem_of_getElem? (i := 69) rfl)), rfl⟩
set_option maxRecDepth 100000 in
theorem w_1060 : Cond.code yX8_ask cX8_ask 4 (some .int) ∈ lw_ok := List.mem_filter.mpr ⟨List.mem_of_getElem? (wl_8_ok (1060, Cond.code yX8_ask cX8_ask 4 (some .int)) (List.mem_of_getElem? (i := 70) rfl)), rfl⟩
set_option maxRecDepth 100000 in
theorem w_1061 : Cond.methodLink RX8 295 yX8_dayToAsk ∈ lw_ok := List.mem_filter.mpr ⟨List.mem_of_getElem? (wl_8_ok (1061, Cond.methodLink RX8 295 yX8_dayToAsk) (List.mem_of_getElem? (i := 71) rfl)), rfl⟩
set_option maxRecDepth 100000 in
theorem w_1063 : Cond.instanceMethod yX8_dayToAsk ∈ lw_ok := List.mem_filter.mpr ⟨List.mem_of_getElem? (wl_8_ok (1063, Cond.instanceMethod yX8_dayToAsk) (List.mem_of_getElem? (i := 72) rfl)), rfl⟩
set_option maxRecDepth 100000 in
theorem w_1064 : Cond.code yX8_dayToAsk cX8_dayToAsk 7 (some .int) ∈ lw_ok := List.mem_filter.mpr ⟨List.mem_of_getElem? (wl_8_ok (1064, Cond.code yX8_dayToAsk cX8_dayToAsk 7 (some .int)) (List.mem_of_getElem? (i := 73) rfl)), rfl⟩
set_option maxRecDepth 100000 in
theorem w_1065 : Cond.methodLink RX8 298 yX8_leftAtWorst ∈ lw_ok := List.mem_filter.mpr ⟨List.mem_of_getElem? (wl_8_ok (1065, Cond.methodLink RX8 298 yX8_leftAtWorst) (List.mem_of_getElem? (i := 74) rfl)), rfl⟩
set_option maxRecDepth 100000 in
theorem w_1067 : Cond.instanceMethod yX8_leftAtWorst ∈ lw_ok := List.mem_filter.mpr ⟨List.mem_of_getElem? (wl_8_ok (1067, Cond.instanceMethod yX8_leftAtWorst) (List.mem_of_getElem? (i := 75) rfl)), rfl⟩
set_option maxRecDepth 100000 in
theorem w_1068 : Cond.code yX8_leftAtWorst cX8_leftAtWorst 6 (some .int) ∈ lw_ok := List.mem_filter.mpr ⟨List.mem_of_getElem? (wl_8_ok (1068, Cond.code yX8_leftAtWorst cX8_leftAtWorst 6 (some .int)) (List.mem_of_getElem? (i := 76) rfl)), rfl⟩
set_option maxRecDepth 100000 in
theorem w_1069 : Cond.methodLink RX8 427 yX8_readByLeaks ∈ lw_ok := List.mem_filter.mpr ⟨List.mem_of_getElem? (wl_8_ok (1069, Cond.methodLink RX8 427 yX8_readByLeaks) (List.mem_of_getElem? (i := 77) rfl)), rfl⟩
set_option maxRecDepth 100000 in
theorem w_1071 : Cond.instanceMethod yX8_readByLeaks ∈ lw_ok := List.mem_filter.mpr ⟨List.mem_of_getElem? (wl_8_ok (1071, Cond.instanceMethod yX8_readByLeaks) (List.mem_of_getElem? (i := 78) rfl)), rfl⟩
set_option maxRecDepth 100000 in
theorem w_1072 : Cond.code yX8_readByLeaks cX8_readByLeaks 5 none ∈ lw_ok := List.mem_filter.mpr ⟨List.mem_of_getElem? (wl_8_ok (1072, Cond.code yX8_readByLeaks cX8_readByLeaks 5 none) (List.mem_of_getElem? (i := 79) rfl)), rfl⟩
set_option maxRecDepth 100000 in
theorem w_1073 : Cond.methodLink RX8 430 yX8_alikeFrom ∈ lw_ok := List.mem_filter.mpr ⟨List.mem_of_getElem? (wl_8_ok (1073, Cond.methodLink RX8 430 yX8_alikeFrom) (List.mem_of_getElem? (i := 80) rfl)), rfl⟩
set_option maxRecDepth 100000 in
theorem w_1075 : Cond.instanceMethod yX8_alikeFrom ∈ lw_ok := List.mem_filter.mpr ⟨List.mem_of_getElem? (wl_8_ok (1075, Cond.instanceMethod yX8_alikeFrom) (List.mem_of_getElem? (i := 81) rfl)), rfl⟩
set_option maxRecDepth 100000 in
theorem w_1076 : Cond.code yX8_alikeFrom cX8_alikeFrom 5 (some .int) ∈ lw_ok := List.mem_filter.mpr ⟨List.mem_of_getElem? (wl_8_ok (1076, Cond.code yX8_alikeFrom cX8_alikeFrom 5 (some .int)) (List.mem_of_getElem? (i := 82) rfl)), rfl⟩
set_option maxRecDepth 100000 in
theorem w_1077 : Cond.methodLink "LeakyLineLaw" 263 yX8_leaves ∈ lw_ok := List.mem_filter.mpr ⟨List.mem_of_getElem? (wl_8_ok (1077, Cond.methodLink "LeakyLineLaw" 263 yX8_leaves) (List.mem_of_getElem? (i := 83) rfl)), rfl⟩
set_option maxRecDepth 100000 in
theorem w_1078 : Cond.instanceMethod yX8_leaves ∈ lw_ok := List.mem_filter.mpr ⟨List.mem_of_getElem? (wl_8_ok (1078, Cond.instanceMethod yX8_leaves) (List.mem_of_getElem? (i := 84) rfl)), rfl⟩
set_option maxRecDepth 100000 in
theorem w_1079 : Cond.selects RX8 yX8_leaves yX8_leaves ∈ lw_ok := List.mem_filter.mpr ⟨List.mem_of_getElem? (wl_8_ok (1079, Cond.selects RX8 yX8_leaves yX8_leaves) (List.mem_of_getElem? (i := 85) rfl)), rfl⟩
set_option maxRecDepth 100000 in
theorem w_1080 : Cond.code yX8_leaves cX8_leaves 6 (some .int) ∈ lw_ok := List.mem_filter.mpr ⟨List.mem_of_getElem? (wl_8_ok (1080, Cond.code yX8_leaves cX8_leaves 6 (some .int)) (List.mem_of_getElem? (i := 86) rfl)), rfl⟩
set_option maxRecDepth 100000 in
theorem w_1081 : Cond.methodLink "LeakyLineLaw" 267 yX8_spots ∈ lw_ok := List.mem_filter.mpr ⟨List.mem_of_getElem? (wl_8_ok (1081, Cond.methodLink "LeakyLineLaw" 267 yX8_spots) (List.mem_of_getElem? (i := 87) rfl)), rfl⟩
set_option maxRecDepth 100000 in
theorem w_1082 : Cond.instanceMethod yX8_spots ∈ lw_ok := List.mem_filter.mpr ⟨List.mem_of_getElem? (wl_8_ok (1082, Cond.instanceMethod yX8_spots) (List.mem_of_getElem? (i := 88) rfl)), rfl⟩
set_option maxRecDepth 100000 in
theorem w_1083 : Cond.selects RX8 yX8_spots yX8_spots ∈ lw_ok := List.mem_filter.mpr ⟨List.mem_of_getElem? (wl_8_ok (1083, Cond.selects RX8 yX8_spots yX8_spots) (List.mem_of_getElem? (i := 89) rfl)), rfl⟩
set_option maxRecDepth 100000 in
theorem w_1084 : Cond.code yX8_spots cX8_spots 6 (some .int) ∈ lw_ok := List.mem_filter.mpr ⟨List.mem_of_getElem? (wl_8_ok (1084, Cond.code yX8_spots cX8_spots 6 (some .int)) (List.mem_of_getElem? (i := 90) rfl)), rfl⟩
set_option maxRecDepth 100000 in
theorem w_1085 : Cond.methodLink "LeakyLineLaw" 271 yX8_breaks ∈ lw_ok := List.mem_filter.mpr ⟨List.mem_of_getElem? (wl_8_ok (1085, Cond.methodLink "LeakyLineLaw" 271 yX8_breaks) (List.mem_of_getElem? (i := 91) rfl)), rfl⟩
set_option maxRecDepth 100000 in
theorem w_1086 : Cond.instanceMethod yX8_breaks ∈ lw_ok := List.mem_filter.mpr ⟨List.mem_of_getElem? (wl_8_ok (1086, Cond.instanceMethod yX8_breaks) (List.mem_of_getElem? (i := 92) rfl)), rfl⟩
set_option maxRecDepth 100000 in
theorem w_1087 : Cond.selects RX8 yX8_breaks yX8_breaks ∈ lw_ok := List.mem_filter.mpr ⟨List.mem_of_getElem? (wl_8_ok (1087, Cond.selects RX8 yX8_breaks yX8_breaks) (List.mem_of_getElem? (i := 93) rfl)), rfl⟩
set_option maxRecDepth 100000 in
theorem w_1088 : Cond.code yX8_breaks cX8_breaks 5 (some .int) ∈ lw_ok := List.mem_filter.mpr ⟨List.mem_of_getElem? (wl_8_ok (1088, Cond.code yX8_breaks cX8_breaks 5 (some .int)) (List.mem_of_getElem? (i := 94) rfl)), rfl⟩
set_option maxRecDepth 100000 in
theorem w_1089 : Cond.methodLink "LeakyLineLaw" 275 yX8_laws ∈ lw_ok := List.mem_filter.mpr ⟨List.mem_of_getElem? (wl_8_ok (1089, Cond.methodLink "LeakyLineLaw" 275 yX8_laws) (List.mem_of_getElem? (i := 95) rfl)), rfl⟩
set_option maxRecDepth 100000 in
theorem w_1090 : Cond.instanceMethod yX8_laws ∈ lw_ok := List.mem_filter.mpr ⟨List.mem_of_getElem? (wl_8_ok (1090, Cond.instanceMethod yX8_laws) (List.mem_of_getElem? (i := 96) rfl)), rfl⟩
set_option maxRecDepth 100000 in
theorem w_1091 : Cond.selects RX8 yX8_laws yX8_laws ∈ lw_ok := List.mem_filter.mpr ⟨List.mem_of_getElem? (wl_8_ok (1091, Cond.selects RX8 yX8_laws yX8_laws) (List.mem_of_getElem? (i := 97) rfl)), rfl⟩
set_option maxRecDepth 100000 in
theorem w_1092 : Cond.code yX8_laws cX8_laws 5 (some .int) ∈ lw_ok := List.mem_filter.mpr ⟨List.mem_of_getElem? (wl_8_ok (1092, Cond.code yX8_laws cX8_laws 5 (some .int)) (List.mem_of_getElem? (i := 98) rfl)), rfl⟩
set_option maxRecDepth 100000 in
theorem w_1093 : Cond.methodLink "LeakyLineLaw" 279 yX8_by ∈ lw_ok := List.mem_filter.mpr ⟨List.mem_of_getElem? (wl_8_ok (1093, Cond.methodLink "LeakyLineLaw" 279 yX8_by) (List.mem_of_getElem? (i := 99) rfl)), rfl⟩
def wl_9 : List (Nat × Cond) := [(1094, Cond.instanceMethod yX8_by), (1095, Cond.selects RX8 yX8_by yX8_by), (1096, Cond.code yX8_by cX8_by 2 (some .int)), (1097, Cond.methodLink RX8 311 yX8_heardByLaw), (1099, Cond.instanceMethod yX8_heardByLaw), (1100, Cond.code yX8_heardByLaw cX8_heardByLaw 2 (some .int)), (1101, Cond.methodLink "LeakyLineLaw" 283 yX8_law), (1102, Cond.instanceMethod yX8_law), (1103, Cond.selects RX8 yX8_law yX8_law), (1104, Cond.code yX8_law cX8_law 5 (some .int)), (1105, Cond.methodLink "LeakyLineLaw" 287 yX8_worth), (1106, Cond.instanceMethod yX8_worth), (1107, Cond.selects RX8 yX8_worth yX8_worth), (1108, Cond.code yX8_worth cX8_worth 2 (some .int)), (1109, Cond.methodLink "LeakyLineLaw" 291 yX8_share), (1110, Cond.instanceMethod yX8_share), (1111, Cond.selects RX8 yX8_share yX8_share), (1112, Cond.code yX8_share cX8_share 9 (some .int)), (1113, Cond.constant RX8 314 (-1000000)), (1114, Cond.methodLink RX8 315 yX8_factorial), (1115, Cond.static yX8_factorial), (1116, Cond.code yX8_factorial cX8_factorial 4 (some .long)), (1117, Cond.methodLink "LeakyLineLaw" 295 yX8_rests), (1118, Cond.instanceMethod yX8_rests), (1119, Cond.selects RX8 yX8_rests yX8_rests), (1120, Cond.code yX8_rests cX8_rests 8 (some .int)), (1121, Cond.methodLink RX8 318 yX8_pairSet), (1122, Cond.static yX8_pairSet), (1123, Cond.code yX8_pairSet cX8_pairSet 4 (some .int)), (1124, Cond.methodLink RX8 322 yX8_gainOf), (1126, Cond.instanceMethod yX8_gainOf), (1127, Cond.code yX8_gainOf cX8_gainOf 4 (some .int)), (1128, Cond.methodLink "LeakyLineLaw" 299 yX8_gets), (1129, Cond.instanceMethod yX8_gets), (1130, Cond.selects RX8 yX8_gets yX8_gets), (1131, Cond.code yX8_gets cX8_gets 5 (some .int)), (1132, Cond.methodLink "LeakyLineLaw" 304 yX8_chance), (1133, Cond.instanceMethod yX8_chance), (1134, Cond.selects RX8 yX8_chance yX8_chance), (1135, Cond.code yX8_chance cX8_chance 4 (some .int)), (1136, Cond.methodLink RX8 325 yX8_isChanceDay), (1138, Cond.instanceMethod yX8_isChanceDay), (1139, Cond.code yX8_isChanceDay cX8_isChanceDay 2 (some .boolean)), (1140, Cond.methodLink RX8 328 yX8_heardByChance), (1142, Cond.instanceMethod yX8_heardByChance), (1143, Cond.code yX8_heardByChance cX8_heardByChance 10 (some .long)), (1144, Cond.methodLink RX8 332 yX8_power), (1145, Cond.static yX8_power), (1146, Cond.code yX8_power cX8_power 5 (some .long)), (1147, Cond.methodLink "LeakyLineLaw" 309 yX8_mean), (1148, Cond.instanceMethod yX8_mean), (1149, Cond.selects RX8 yX8_mean yX8_mean), (1150, Cond.code yX8_mean cX8_mean 3 (some .long)), (1151, Cond.methodLink "LeakyLineLaw" 313 yX8_cups), (1152, Cond.instanceMethod yX8_cups), (1153, Cond.selects RX8 yX8_cups yX8_cups), (1154, Cond.code yX8_cups cX8_cups 3 (some .int)), (1155, Cond.methodLink RX8 338 yX2_act), (1156, Cond.instanceMethod yX2_act), (1157, Cond.selects RX2 yX2_act yX2_act), (1158, Cond.code yX2_act cX2_act 4 none), (1159, Cond.methodLink "LeakyLineLaw" 317 yX8_snaps), (1160, Cond.instanceMethod yX8_snaps), (1161, Cond.selects RX8 yX8_snaps yX8_snaps), (1162, Cond.code yX8_snaps cX8_snaps 3 (some .int)), (1163, Cond.methodLink "LeakyLineLaw" 321 yX8_undo), (1164, Cond.instanceMethod yX8_undo), (1165, Cond.selects RX8 yX8_undo yX8_undo), (1166, Cond.code yX8_undo cX8_undo 1 (some .int)), (1167, Cond.methodLink RX8 342 yX2_keepActs), (1168, Cond.methodLink "LeakyLineLaw" 325 yX8_anew), (1169, Cond.instanceMethod yX8_anew), (1170, Cond.selects RX8 yX8_anew yX8_anew), (1171, Cond.code yX8_anew cX8_anew 2 (some .int)), (1172, Cond.methodLink "LeakyLineLaw" 329 yX8_drawn), (1173, Cond.instanceMethod yX8_drawn), (1174, Cond.selects RX8 yX8_drawn yX8_drawn), (1175, Cond.code yX8_drawn cX8_drawn 3 (some .int)), (1176, Cond.methodLink RX8 345 yX8_isSeed), (1177, Cond.static yX8_isSeed), (1178, Cond.code yX8_isSeed cX8_isSeed 1 (some .boolean)), (1179, Cond.constant RX8 391 2000000000), (1180, Cond.methodLink RX8 348 yX8_wetByDraws), (1182, Cond.instanceMethod yX8_wetByDraws), (1183, Cond.code yX8_wetByDraws cX8_wetByDraws 6 (some .int)), (1184, Cond.constantLong RX8 433 1103515245), (1185, Cond.constantLong RX8 435 12345), (1186, Cond.constantLong RX8 437 2147483648), (1187, Cond.constantLong RX8 439 65536), (1188, Cond.constantLong RX8 441 10), (1189, Cond.methodLink RX8 351 yX8_heardByDraws), (1191, Cond.instanceMethod yX8_heardByDraws), (1192, Cond.code yX8_heardByDraws cX8_heardByDraws 2 (some .int)), (1193, Cond.methodLink "LeakyLineLaw" 333 yX8_luck), (1194, Cond.instanceMethod yX8_luck), (1195, Cond.selects RX8 yX8_luck yX8_luck), (1196, Cond.code yX8_luck cX8_luck 6 (some .int)), (1197, Cond.methodLink "LeakyLineLaw" 337 yX8_rate), (1198, Cond.instanceMethod yX8_rate), (1199, Cond.selects RX8 yX8_rate yX8_rate)]
set_option maxRecDepth 100000 in
theorem wl_9_ok : ∀ x ∈ wl_9, lw_tbl[x.1]? = some x.2 := by decide +kernel
set_option maxRecDepth 100000 in
theorem w_1094 : Cond.instanceMethod yX8_by ∈ lw_ok := List.mem_filter.mpr ⟨List.mem_of_getElem? (wl_9_ok (1094, Cond.instanceMethod yX8_by) (List.mem_of_getElem? (i := 0) rfl)), rfl⟩
set_option maxRecDepth 100000 in
theorem w_1095 : Cond.selects RX8 yX8_by yX8_by ∈ lw_ok := List.mem_filter.mpr ⟨List.mem_of_getElem? (wl_9_ok (1095, Cond.selects RX8 yX8_by yX8_by) (List.mem_of_getElem? (i := 1) rfl)), rfl⟩
set_option maxRecDepth 100000 in
theorem w_1096 : Cond.code yX8_by cX8_by 2 (some .int) ∈ lw_ok := List.mem_filter.mpr ⟨List.mem_of_getElem? (wl_9_ok (1096, Cond.code yX8_by cX8_by 2 (some .int)) (List.mem_of_getElem? (i := 2) rfl)), rfl⟩
set_option maxRecDepth 100000 in
theorem w_1097 : Cond.methodLink RX8 311 yX8_heardByLaw ∈ lw_ok := List.mem_filter.mpr ⟨List.mem_of_getElem? (wl_9_ok (1097, Cond.methodLink RX8 311 yX8_heardByLaw) (List.mem_of_getElem? (i := 3) rfl)), rfl⟩
set_option maxRecDepth 100000 in
theorem w_1099 : Cond.instanceMethod yX8_heardByLaw ∈ lw_ok := List.mem_filter.mpr ⟨List.mem_of_getElem? (wl_9_ok (1099, Cond.instanceMethod yX8_heardByLaw) (List.mem_of_getElem? (i := 4) rfl)), rfl⟩
set_option maxRecDepth 100000 in
theorem w_1100 : Cond.code yX8_heardByLaw cX8_heardByLaw 2 (some .int) ∈ lw_ok := List.mem_filter.mpr ⟨List.mem_of_getElem? (wl_9_ok (1100, Cond.code yX8_heardByLaw cX8_heardByLaw 2 (some .int)) (List.mem_of_getElem? (i := 5) rfl)), rfl⟩
set_option maxRecDepth 100000 in
theorem w_1101 : Cond.methodLink "LeakyLineLaw" 283 yX8_law ∈ lw_ok := List.mem_filter.mpr ⟨List.mem_of_getElem? (wl_9_ok (1101, Cond.methodLink "LeakyLineLaw" 283 yX8_law) (List.mem_of_getElem? (i := 6) rfl)), rfl⟩
set_option maxRecDepth 100000 in
theorem w_1102 : Cond.instanceMethod yX8_law ∈ lw_ok := List.mem_filter.mpr ⟨List.mem_of_getElem? (wl_9_ok (1102, Cond.instanceMethod yX8_law) (List.mem_of_getElem? (i := 7) rfl)), rfl⟩
set_option maxRecDepth 100000 in
theorem w_1103 : Cond.selects RX8 yX8_law yX8_law ∈ lw_ok := List.mem_filter.mpr ⟨List.mem_of_getElem? (wl_9_ok (1103, Cond.selects RX8 yX8_law yX8_law) (List.mem_of_getElem? (i := 8) rfl)), rfl⟩
set_option maxRecDepth 100000 in
theorem w_1104 : Cond.code yX8_law cX8_law 5 (some .int) ∈ lw_ok := List.mem_filter.mpr ⟨List.mem_of_getElem? (wl_9_ok (1104, Cond.code yX8_law cX8_law 5 (some .int)) (List.mem_of_getElem? (i := 9) rfl)), rfl⟩
set_option maxRecDepth 100000 in
theorem w_1105 : Cond.methodLink "LeakyLineLaw" 287 yX8_worth ∈ lw_ok := List.mem_filter.mpr ⟨List.mem_of_getElem? (wl_9_ok (1105, Cond.methodLink "LeakyLineLaw" 287 yX8_worth) (List.mem_of_getElem? (i := 10) rfl)), rfl⟩
set_option maxRecDepth 100000 in
theorem w_1106 : Cond.instanceMethod yX8_worth ∈ lw_ok := List.mem_filter.mpr ⟨List.mem_of_getElem? (wl_9_ok (1106, Cond.instanceMethod yX8_worth) (List.mem_of_getElem? (i := 11) rfl)), rfl⟩
set_option maxRecDepth 100000 in
theorem w_1107 : Cond.selects RX8 yX8_worth yX8_worth ∈ lw_ok := List.mem_filter.mpr ⟨List.mem_of_getElem? (wl_9_ok (1107, Cond.selects RX8 yX8_worth yX8_worth) (List.mem_of_getElem? (i := 12) rfl)), rfl⟩
set_option maxRecDepth 100000 in
theorem w_1108 : Cond.code yX8_worth cX8_worth 2 (some .int) ∈ lw_ok := List.mem_filter.mpr ⟨List.mem_of_getElem? (wl_9_ok (1108, Cond.code yX8_worth cX8_worth 2 (some .int)) (List.mem_of_getElem? (i := 13) rfl)), rfl⟩
set_option maxRecDepth 100000 in
theorem w_1109 : Cond.methodLink "LeakyLineLaw" 291 yX8_share ∈ lw_ok := List.mem_filter.mpr ⟨List.mem_of_getElem? (wl_9_ok (1109, Cond.methodLink "LeakyLineLaw" 291 yX8_share) (List.mem_of_getElem? (i := 14) rfl)), rfl⟩
set_option maxRecDepth 100000 in
theorem w_1110 : Cond.instanceMethod yX8_share ∈ lw_ok := List.mem_filter.mpr ⟨List.mem_of_getElem? (wl_9_ok (1110, Cond.instanceMethod yX8_share) (List.mem_of_getElem? (i := 15) rfl)), rfl⟩
set_option maxRecDepth 100000 in
theorem w_1111 : Cond.selects RX8 yX8_share yX8_share ∈ lw_ok := List.mem_filter.mpr ⟨List.mem_of_getElem? (wl_9_ok (1111, Cond.selects RX8 yX8_share yX8_share) (List.mem_of_getElem? (i := 16) rfl)), rfl⟩
set_option maxRecDepth 100000 in
theorem w_1112 : Cond.code yX8_share cX8_share 9 (some .int) ∈ lw_ok := List.mem_filter.mpr ⟨List.mem_of_getElem? (wl_9_ok (1112, Cond.code yX8_share cX8_share 9 (some .int)) (List.mem_of_getElem? (i := 17) rfl)), rfl⟩
set_option maxRecDepth 100000 in
theorem w_1113 : Cond.constant RX8 314 (-1000000) ∈ lw_ok := List.mem_filter.mpr ⟨List.mem_of_getElem? (wl_9_ok (1113, Cond.constant RX8 314 (-1000000)) (List.mem_of_getElem? (i := 18) rfl)), rfl⟩
set_option maxRecDepth 100000 in
theorem w_1114 : Cond.methodLink RX8 315 yX8_factorial ∈ lw_ok := List.mem_filter.mpr ⟨List.mem_of_getElem? (wl_9_ok (1114, Cond.methodLink RX8 315 yX8_factorial) (List.mem_of_getElem? (i := 19) rfl)), rfl⟩
set_option maxRecDepth 100000 in
theorem w_1115 : Cond.static yX8_factorial ∈ lw_ok := List.mem_filter.mpr ⟨List.mem_of_getElem? (wl_9_ok (1115, Cond.static yX8_factorial) (List.mem_of_getElem? (i := 20) rfl)), rfl⟩
set_option maxRecDepth 100000 in
theorem w_1116 : Cond.code yX8_factorial cX8_factorial 4 (some .long) ∈ lw_ok := List.mem_filter.mpr ⟨List.mem_of_getElem? (wl_9_ok (1116, Cond.code yX8_factorial cX8_factorial 4 (some .long)) (List.mem_of_getElem? (i := 21) rfl)), rfl⟩
set_option maxRecDepth 100000 in
theorem w_1117 : Cond.methodLink "LeakyLineLaw" 295 yX8_rests ∈ lw_ok := List.mem_filter.mpr ⟨List.mem_of_getElem? (wl_9_ok (1117, Cond.methodLink "LeakyLineLaw" 295 yX8_rests) (List.mem_of_getElem? (i := 22) rfl)), rfl⟩
set_option maxRecDepth 100000 in
theorem w_1118 : Cond.instanceMethod yX8_rests ∈ lw_ok := List.mem_filter.mpr ⟨List.mem_of_getElem? (wl_9_ok (1118, Cond.instanceMethod yX8_rests) (List.mem_of_getElem? (i := 23) rfl)), rfl⟩
set_option maxRecDepth 100000 in
theorem w_1119 : Cond.selects RX8 yX8_rests yX8_rests ∈ lw_ok := List.mem_filter.mpr ⟨List.mem_of_getElem? (wl_9_ok (1119, Cond.selects RX8 yX8_rests yX8_rests) (List.mem_of_getElem? (i := 24) rfl)), rfl⟩
set_option maxRecDepth 100000 in
theorem w_1120 : Cond.code yX8_rests cX8_rests 8 (some .int) ∈ lw_ok := List.mem_filter.mpr ⟨List.mem_of_getElem? (wl_9_ok (1120, Cond.code yX8_rests cX8_rests 8 (some .int)) (List.mem_of_getElem? (i := 25) rfl)), rfl⟩
set_option maxRecDepth 100000 in
theorem w_1121 : Cond.methodLink RX8 318 yX8_pairSet ∈ lw_ok := List.mem_filter.mpr ⟨List.mem_of_getElem? (wl_9_ok (1121, Cond.methodLink RX8 318 yX8_pairSet) (List.mem_of_getElem? (i := 26) rfl)), rfl⟩
set_option maxRecDepth 100000 in
theorem w_1122 : Cond.static yX8_pairSet ∈ lw_ok := List.mem_filter.mpr ⟨List.mem_of_getElem? (wl_9_ok (1122, Cond.static yX8_pairSet) (List.mem_of_getElem? (i := 27) rfl)), rfl⟩
set_option maxRecDepth 100000 in
theorem w_1123 : Cond.code yX8_pairSet cX8_pairSet 4 (some .int) ∈ lw_ok := List.mem_filter.mpr ⟨List.mem_of_getElem? (wl_9_ok (1123, Cond.code yX8_pairSet cX8_pairSet 4 (some .int)) (List.mem_of_getElem? (i := 28) rfl)), rfl⟩
set_option maxRecDepth 100000 in
theorem w_1124 : Cond.methodLink RX8 322 yX8_gainOf ∈ lw_ok := List.mem_filter.mpr ⟨List.mem_of_getElem? (wl_9_ok (1124, Cond.methodLink RX8 322 yX8_gainOf) (List.mem_of_getElem? (i := 29) rfl)), rfl⟩
set_option maxRecDepth 100000 in
theorem w_1126 : Cond.instanceMethod yX8_gainOf ∈ lw_ok := List.mem_filter.mpr ⟨List.mem_of_getElem? (wl_9_ok (1126, Cond.instanceMethod yX8_gainOf) (List.mem_of_getElem? (i := 30) rfl)), rfl⟩
set_option maxRecDepth 100000 in
theorem w_1127 : Cond.code yX8_gainOf cX8_gainOf 4 (some .int) ∈ lw_ok := List.mem_filter.mpr ⟨List.mem_of_getElem? (wl_9_ok (1127, Cond.code yX8_gainOf cX8_gainOf 4 (some .int)) (List.mem_of_getElem? (i := 31) rfl)), rfl⟩
set_option maxRecDepth 100000 in
theorem w_1128 : Cond.methodLink "LeakyLineLaw" 299 yX8_gets ∈ lw_ok := List.mem_filter.mpr ⟨List.mem_of_getElem? (wl_9_ok (1128, Cond.methodLink "LeakyLineLaw" 299 yX8_gets) (List.mem_of_getElem? (i := 32) rfl)), rfl⟩
set_option maxRecDepth 100000 in
theorem w_1129 : Cond.instanceMethod yX8_gets ∈ lw_ok := List.mem_filter.mpr ⟨List.mem_of_getElem? (wl_9_ok (1129, Cond.instanceMethod yX8_gets) (List.mem_of_getElem? (i := 33) rfl)), rfl⟩
set_option maxRecDepth 100000 in
theorem w_1130 : Cond.selects RX8 yX8_gets yX8_gets ∈ lw_ok := List.mem_filter.mpr ⟨List.mem_of_getElem? (wl_9_ok (1130, Cond.selects RX8 yX8_gets yX8_gets) (List.mem_of_getElem? (i := 34) rfl)), rfl⟩
set_option maxRecDepth 100000 in
theorem w_1131 : Cond.code yX8_gets cX8_gets 5 (some .int) ∈ lw_ok := List.mem_filter.mpr ⟨List.mem_of_getElem? (wl_9_ok (1131, Cond.code yX8_gets cX8_gets 5 (some .int)) (List.mem_of_getElem? (i := 35) rfl)), rfl⟩
set_option maxRecDepth 100000 in
theorem w_1132 : Cond.methodLink "LeakyLineLaw" 304 yX8_chance ∈ lw_ok := List.mem_filter.mpr ⟨List.mem_of_getElem? (wl_9_ok (1132, Cond.methodLink "LeakyLineLaw" 304 yX8_chance) (List.mem_of_getElem? (i := 36) rfl)), rfl⟩
set_option maxRecDepth 100000 in
theorem w_1133 : Cond.instanceMethod yX8_chance ∈ lw_ok := List.mem_filter.mpr ⟨List.mem_of_getElem? (wl_9_ok (1133, Cond.instanceMethod yX8_chance) (List.mem_of_getElem? (i := 37) rfl)), rfl⟩
set_option maxRecDepth 100000 in
theorem w_1134 : Cond.selects RX8 yX8_chance yX8_chance ∈ lw_ok := List.mem_filter.mpr ⟨List.mem_of_getElem? (wl_9_ok (1134, Cond.selects RX8 yX8_chance yX8_chance) (List.mem_of_getElem? (i := 38) rfl)), rfl⟩
set_option maxRecDepth 100000 in
theorem w_1135 : Cond.code yX8_chance cX8_chance 4 (some .int) ∈ lw_ok := List.mem_filter.mpr ⟨List.mem_of_getElem? (wl_9_ok (1135, Cond.code yX8_chance cX8_chance 4 (some .int)) (List.mem_of_getElem? (i := 39) rfl)), rfl⟩
set_option maxRecDepth 100000 in
theorem w_1136 : Cond.methodLink RX8 325 yX8_isChanceDay ∈ lw_ok := List.mem_filter.mpr ⟨List.mem_of_getElem? (wl_9_ok (1136, Cond.methodLink RX8 325 yX8_isChanceDay) (List.mem_of_getElem? (i := 40) rfl)), rfl⟩
set_option maxRecDepth 100000 in
theorem w_1138 : Cond.instanceMethod yX8_isChanceDay ∈ lw_ok := List.mem_filter.mpr ⟨List.mem_of_getElem? (wl_9_ok (1138, Cond.instanceMethod yX8_isChanceDay) (List.mem_of_getElem? (i := 41) rfl)), rfl⟩
set_option maxRecDepth 100000 in
theorem w_1139 : Cond.code yX8_isChanceDay cX8_isChanceDay 2 (some .boolean) ∈ lw_ok := List.mem_filter.mpr ⟨List.mem_of_getElem? (wl_9_ok (1139, Cond.code yX8_isChanceDay cX8_isChanceDay 2 (some .boolean)) (List.mem_of_getElem? (i := 42) rfl)), rfl⟩
set_option maxRecDepth 100000 in
theorem w_1140 : Cond.methodLink RX8 328 yX8_heardByChance ∈ lw_ok := List.mem_filter.mpr ⟨List.mem_of_getElem? (wl_9_ok (1140, Cond.methodLink RX8 328 yX8_heardByChance) (List.mem_of_getElem? (i := 43) rfl)), rfl⟩
set_option maxRecDepth 100000 in
theorem w_1142 : Cond.instanceMethod yX8_heardByChance ∈ lw_ok := List.mem_filter.mpr ⟨List.mem_of_getElem? (wl_9_ok (1142, Cond.instanceMethod yX8_heardByChance) (List.mem_of_getElem? (i := 44) rfl)), rfl⟩
set_option maxRecDepth 100000 in
theorem w_1143 : Cond.code yX8_heardByChance cX8_heardByChance 10 (some .long) ∈ lw_ok := List.mem_filter.mpr ⟨List.mem_of_getElem? (wl_9_ok (1143, Cond.code yX8_heardByChance cX8_heardByChance 10 (some .long)) (List.mem_of_getElem? (i := 45) rfl)), rfl⟩
set_option maxRecDepth 100000 in
theorem w_1144 : Cond.methodLink RX8 332 yX8_power ∈ lw_ok := List.mem_filter.mpr ⟨List.mem_of_getElem? (wl_9_ok (1144, Cond.methodLink RX8 332 yX8_power) (List.mem_of_getElem? (i := 46) rfl)), rfl⟩
set_option maxRecDepth 100000 in
theorem w_1145 : Cond.static yX8_power ∈ lw_ok := List.mem_filter.mpr ⟨List.mem_of_getElem? (wl_9_ok (1145, Cond.static yX8_power) (List.mem_of_getElem? (i := 47) rfl)), rfl⟩
set_option maxRecDepth 100000 in
theorem w_1146 : Cond.code yX8_power cX8_power 5 (some .long) ∈ lw_ok := List.mem_filter.mpr ⟨List.mem_of_getElem? (wl_9_ok (1146, Cond.code yX8_power cX8_power 5 (some .long)) (List.mem_of_getElem? (i := 48) rfl)), rfl⟩
set_option maxRecDepth 100000 in
theorem w_1147 : Cond.methodLink "LeakyLineLaw" 309 yX8_mean ∈ lw_ok := List.mem_filter.mpr ⟨List.mem_of_getElem? (wl_9_ok (1147, Cond.methodLink "LeakyLineLaw" 309 yX8_mean) (List.mem_of_getElem? (i := 49) rfl)), rfl⟩
set_option maxRecDepth 100000 in
theorem w_1148 : Cond.instanceMethod yX8_mean ∈ lw_ok := List.mem_filter.mpr ⟨List.mem_of_getElem? (wl_9_ok (1148, Cond.instanceMethod yX8_mean) (List.mem_of_getElem? (i := 50) rfl)), rfl⟩
set_option maxRecDepth 100000 in
theorem w_1149 : Cond.selects RX8 yX8_mean yX8_mean ∈ lw_ok := List.mem_filter.mpr ⟨List.mem_of_getElem? (wl_9_ok (1149, Cond.selects RX8 yX8_mean yX8_mean) (List.mem_of_getElem? (i := 51) rfl)), rfl⟩
set_option maxRecDepth 100000 in
theorem w_1150 : Cond.code yX8_mean cX8_mean 3 (some .long) ∈ lw_ok := List.mem_filter.mpr ⟨List.mem_of_getElem? (wl_9_ok (1150, Cond.code yX8_mean cX8_mean 3 (some .long)) (List.mem_of_getElem? (i := 52) rfl)), rfl⟩
set_option maxRecDepth 100000 in
theorem w_1151 : Cond.methodLink "LeakyLineLaw" 313 yX8_cups ∈ lw_ok := List.mem_filter.mpr ⟨List.mem_of_getElem? (wl_9_ok (1151, Cond.methodLink "LeakyLineLaw" 313 yX8_cups) (List.mem_of_getElem? (i := 53) rfl)), rfl⟩
set_option maxRecDepth 100000 in
theorem w_1152 : Cond.instanceMethod yX8_cups ∈ lw_ok := List.mem_filter.mpr ⟨List.mem_of_getElem? (wl_9_ok (1152, Cond.instanceMethod yX8_cups) (List.mem_of_getElem? (i := 54) rfl)), rfl⟩
set_option maxRecDepth 100000 in
theorem w_1153 : Cond.selects RX8 yX8_cups yX8_cups ∈ lw_ok := List.mem_filter.mpr ⟨List.mem_of_getElem? (wl_9_ok (1153, Cond.selects RX8 yX8_cups yX8_cups) (List.mem_of_getElem? (i := 55) rfl)), rfl⟩
set_option maxRecDepth 100000 in
theorem w_1154 : Cond.code yX8_cups cX8_cups 3 (some .int) ∈ lw_ok := List.mem_filter.mpr ⟨List.mem_of_getElem? (wl_9_ok (1154, Cond.code yX8_cups cX8_cups 3 (some .int)) (List.mem_of_getElem? (i := 56) rfl)), rfl⟩
set_option maxRecDepth 100000 in
theorem w_1155 : Cond.methodLink RX8 338 yX2_act ∈ lw_ok := List.mem_filter.mpr ⟨List.mem_of_getElem? (wl_9_ok (1155, Cond.methodLink RX8 338 yX2_act) (List.mem_of_getElem? (i := 57) rfl)), rfl⟩
set_option maxRecDepth 100000 in
theorem w_1156 : Cond.instanceMethod yX2_act ∈ lw_ok := List.mem_filter.mpr ⟨List.mem_of_getElem? (wl_9_ok (1156, Cond.instanceMethod yX2_act) (List.mem_of_getElem? (i := 58) rfl)), rfl⟩
set_option maxRecDepth 100000 in
theorem w_1157 : Cond.selects RX2 yX2_act yX2_act ∈ lw_ok := List.mem_filter.mpr ⟨List.mem_of_getElem? (wl_9_ok (1157, Cond.selects RX2 yX2_act yX2_act) (List.mem_of_getElem? (i := 59) rfl)), rfl⟩
set_option maxRecDepth 100000 in
theorem w_1158 : Cond.code yX2_act cX2_act 4 none ∈ lw_ok := List.mem_filter.mpr ⟨List.mem_of_getElem? (wl_9_ok (1158, Cond.code yX2_act cX2_act 4 none) (List.mem_of_getElem? (i := 60) rfl)), rfl⟩
set_option maxRecDepth 100000 in
theorem w_1159 : Cond.methodLink "LeakyLineLaw" 317 yX8_snaps ∈ lw_ok := List.mem_filter.mpr ⟨List.mem_of_getElem? (wl_9_ok (1159, Cond.methodLink "LeakyLineLaw" 317 yX8_snaps) (List.mem_of_getElem? (i := 61) rfl)), rfl⟩
set_option maxRecDepth 100000 in
theorem w_1160 : Cond.instanceMethod yX8_snaps ∈ lw_ok := List.mem_filter.mpr ⟨List.mem_of_getElem? (wl_9_ok (1160, Cond.instanceMethod yX8_snaps) (List.mem_of_getElem? (i := 62) rfl)), rfl⟩
set_option maxRecDepth 100000 in
theorem w_1161 : Cond.selects RX8 yX8_snaps yX8_snaps ∈ lw_ok := List.mem_filter.mpr ⟨List.mem_of_getElem? (wl_9_ok (1161, Cond.selects RX8 yX8_snaps yX8_snaps) (List.mem_of_getElem? (i := 63) rfl)), rfl⟩
set_option maxRecDepth 100000 in
theorem w_1162 : Cond.code yX8_snaps cX8_snaps 3 (some .int) ∈ lw_ok := List.mem_filter.mpr ⟨List.mem_of_getElem? (wl_9_ok (1162, Cond.code yX8_snaps cX8_snaps 3 (some .int)) (List.mem_of_getElem? (i := 64) rfl)), rfl⟩
set_option maxRecDepth 100000 in
theorem w_1163 : Cond.methodLink "LeakyLineLaw" 321 yX8_undo ∈ lw_ok := List.mem_filter.mpr ⟨List.mem_of_getElem? (wl_9_ok (1163, Cond.methodLink "LeakyLineLaw" 321 yX8_undo) (List.mem_of_getElem? (i := 65) rfl)), rfl⟩
set_option maxRecDepth 100000 in
theorem w_1164 : Cond.instanceMethod yX8_undo ∈ lw_ok := List.mem_filter.mpr ⟨List.mem_of_getElem? (wl_9_ok (1164, Cond.instanceMethod yX8_undo) (List.mem_of_getElem? (i := 66) rfl)), rfl⟩
set_option maxRecDepth 100000 in
theorem w_1165 : Cond.selects RX8 yX8_undo yX8_undo ∈ lw_ok := List.mem_filter.mpr ⟨List.mem_of_getElem? (wl_9_ok (1165, Cond.selects RX8 yX8_undo yX8_undo) (List.mem_of_getElem? (i := 67) rfl)), rfl⟩
set_option maxRecDepth 100000 in
theorem w_1166 : Cond.code yX8_undo cX8_undo 1 (some .int) ∈ lw_ok := List.mem_filter.mpr ⟨List.mem_of_getElem? (wl_9_ok (1166, Cond.code yX8_undo cX8_undo 1 (some .int)) (List.mem_of_getElem? (i := 68) rfl)), rfl⟩
set_option maxRecDepth 100000 in
theorem w_1167 : Cond.methodLink RX8 342 yX2_keepActs ∈ lw_ok := List.mem_filter.mpr ⟨List.mem_of_getElem? (wl_9_ok (1167, Cond.methodLink RX8 342 yX2_keepActs) (List.mem_of_getElem? (i := 69) rfl)), rfl⟩
set_option maxRecDepth 100000 in
theorem w_1168 : Cond.methodLink "LeakyLineLaw" 325 yX8_anew ∈ lw_ok := List.mem_filter.mpr ⟨List.mem_of_getElem? (wl_9_ok (1168, Cond.methodLink "LeakyLineLaw" 325 yX8_anew) (List.mem_of_getElem? (i := 70) rfl)), rfl⟩
set_option maxRecDepth 100000 in
theorem w_1169 : Cond.instanceMethod yX8_anew ∈ lw_ok := List.mem_filter.mpr ⟨List.mem_of_getElem? (wl_9_ok (1169, Cond.instanceMethod yX8_anew) (List.mem_of_getElem? (i := 71) rfl)), rfl⟩
set_option maxRecDepth 100000 in
theorem w_1170 : Cond.selects RX8 yX8_anew yX8_anew ∈ lw_ok := List.mem_filter.mpr ⟨List.mem_of_getElem? (wl_9_ok (1170, Cond.selects RX8 yX8_anew yX8_anew) (List.mem_of_getElem? (i := 72) rfl)), rfl⟩
set_option maxRecDepth 100000 in
theorem w_1171 : Cond.code yX8_anew cX8_anew 2 (some .int) ∈ lw_ok := List.mem_filter.mpr ⟨List.mem_of_getElem? (wl_9_ok (1171, Cond.code yX8_anew cX8_anew 2 (some .int)) (List.mem_of_getElem? (i := 73) rfl)), rfl⟩
set_option maxRecDepth 100000 in
theorem w_1172 : Cond.methodLink "LeakyLineLaw" 329 yX8_drawn ∈ lw_ok := List.mem_filter.mpr ⟨List.mem_of_getElem? (wl_9_ok (1172, Cond.methodLink "LeakyLineLaw" 329 yX8_drawn) (List.mem_of_getElem? (i := 74) rfl)), rfl⟩
set_option maxRecDepth 100000 in
theorem w_1173 : Cond.instanceMethod yX8_drawn ∈ lw_ok := List.mem_filter.mpr ⟨List.mem_of_getElem? (wl_9_ok (1173, Cond.instanceMethod yX8_drawn) (List.mem_of_getElem? (i := 75) rfl)), rfl⟩
set_option maxRecDepth 100000 in
theorem w_1174 : Cond.selects RX8 yX8_drawn yX8_drawn ∈ lw_ok := List.mem_filter.mpr ⟨List.mem_of_getElem? (wl_9_ok (1174, Cond.selects RX8 yX8_drawn yX8_drawn) (List.mem_of_getElem? (i := 76) rfl)), rfl⟩
set_option maxRecDepth 100000 in
theorem w_1175 : Cond.code yX8_drawn cX8_drawn 3 (some .int) ∈ lw_ok := List.mem_filter.mpr ⟨List.mem_of_getElem? (wl_9_ok (1175, Cond.code yX8_drawn cX8_drawn 3 (some .int)) (List.mem_of_getElem? (i := 77) rfl)), rfl⟩
set_option maxRecDepth 100000 in
theorem w_1176 : Cond.methodLink RX8 345 yX8_isSeed ∈ lw_ok := List.mem_filter.mpr ⟨List.mem_of_getElem? (wl_9_ok (1176, Cond.methodLink RX8 345 yX8_isSeed) (List.mem_of_getElem? (i := 78) rfl)), rfl⟩
set_option maxRecDepth 100000 in
theorem w_1177 : Cond.static yX8_isSeed ∈ lw_ok := List.mem_filter.mpr ⟨List.mem_of_getElem? (wl_9_ok (1177, Cond.static yX8_isSeed) (List.mem_of_getElem? (i := 79) rfl)), rfl⟩
set_option maxRecDepth 100000 in
theorem w_1178 : Cond.code yX8_isSeed cX8_isSeed 1 (some .boolean) ∈ lw_ok := List.mem_filter.mpr ⟨List.mem_of_getElem? (wl_9_ok (1178, Cond.code yX8_isSeed cX8_isSeed 1 (some .boolean)) (List.mem_of_getElem? (i := 80) rfl)), rfl⟩
set_option maxRecDepth 100000 in
theorem w_1179 : Cond.constant RX8 391 2000000000 ∈ lw_ok := List.mem_filter.mpr ⟨List.mem_of_getElem? (wl_9_ok (1179, Cond.constant RX8 391 2000000000) (List.mem_of_getElem? (i := 81) rfl)), rfl⟩
set_option maxRecDepth 100000 in
theorem w_1180 : Cond.methodLink RX8 348 yX8_wetByDraws ∈ lw_ok := List.mem_filter.mpr ⟨List.mem_of_getElem? (wl_9_ok (1180, Cond.methodLink RX8 348 yX8_wetByDraws) (List.mem_of_getElem? (i := 82) rfl)), rfl⟩
set_option maxRecDepth 100000 in
theorem w_1182 : Cond.instanceMethod yX8_wetByDraws ∈ lw_ok := List.mem_filter.mpr ⟨List.mem_of_getElem? (wl_9_ok (1182, Cond.instanceMethod yX8_wetByDraws) (List.mem_of_getElem? (i := 83) rfl)), rfl⟩
set_option maxRecDepth 100000 in
theorem w_1183 : Cond.code yX8_wetByDraws cX8_wetByDraws 6 (some .int) ∈ lw_ok := List.mem_filter.mpr ⟨List.mem_of_getElem? (wl_9_ok (1183, Cond.code yX8_wetByDraws cX8_wetByDraws 6 (some .int)) (List.mem_of_getElem? (i := 84) rfl)), rfl⟩
set_option maxRecDepth 100000 in
theorem w_1184 : Cond.constantLong RX8 433 1103515245 ∈ lw_ok := List.mem_filter.mpr ⟨List.mem_of_getElem? (wl_9_ok (1184, Cond.constantLong RX8 433 1103515245) (List.mem_of_getElem? (i := 85) rfl)), rfl⟩
set_option maxRecDepth 100000 in
theorem w_1185 : Cond.constantLong RX8 435 12345 ∈ lw_ok := List.mem_filter.mpr ⟨List.mem_of_getElem? (wl_9_ok (1185, Cond.constantLong RX8 435 12345) (List.mem_of_getElem? (i := 86) rfl)), rfl⟩
set_option maxRecDepth 100000 in
theorem w_1186 : Cond.constantLong RX8 437 2147483648 ∈ lw_ok := List.mem_filter.mpr ⟨List.mem_of_getElem? (wl_9_ok (1186, Cond.constantLong RX8 437 2147483648) (List.mem_of_getElem? (i := 87) rfl)), rfl⟩
set_option maxRecDepth 100000 in
theorem w_1187 : Cond.constantLong RX8 439 65536 ∈ lw_ok := List.mem_filter.mpr ⟨List.mem_of_getElem? (wl_9_ok (1187, Cond.constantLong RX8 439 65536) (List.mem_of_getElem? (i := 88) rfl)), rfl⟩
set_option maxRecDepth 100000 in
theorem w_1188 : Cond.constantLong RX8 441 10 ∈ lw_ok := List.mem_filter.mpr ⟨List.mem_of_getElem? (wl_9_ok (1188, Cond.constantLong RX8 441 10) (List.mem_of_getElem? (i := 89) rfl)), rfl⟩
set_option maxRecDepth 100000 in
theorem w_1189 : Cond.methodLink RX8 351 yX8_heardByDraws ∈ lw_ok := List.mem_filter.mpr ⟨List.mem_of_getElem? (wl_9_ok (1189, Cond.methodLink RX8 351 yX8_heardByDraws) (List.mem_of_getElem? (i := 90) rfl)), rfl⟩
set_option maxRecDepth 100000 in
theorem w_1191 : Cond.instanceMethod yX8_heardByDraws ∈ lw_ok := List.mem_filter.mpr ⟨List.mem_of_getElem? (wl_9_ok (1191, Cond.instanceMethod yX8_heardByDraws) (List.mem_of_getElem? (i := 91) rfl)), rfl⟩
set_option maxRecDepth 100000 in
theorem w_1192 : Cond.code yX8_heardByDraws cX8_heardByDraws 2 (some .int) ∈ lw_ok := List.mem_filter.mpr ⟨List.mem_of_getElem? (wl_9_ok (1192, Cond.code yX8_heardByDraws cX8_heardByDraws 2 (some .int)) (List.mem_of_getElem? (i := 92) rfl)), rfl⟩
set_option maxRecDepth 100000 in
theorem w_1193 : Cond.methodLink "LeakyLineLaw" 333 yX8_luck ∈ lw_ok := List.mem_filter.mpr ⟨List.mem_of_getElem? (wl_9_ok (1193, Cond.methodLink "LeakyLineLaw" 333 yX8_luck) (List.mem_of_getElem? (i := 93) rfl)), rfl⟩
set_option maxRecDepth 100000 in
theorem w_1194 : Cond.instanceMethod yX8_luck ∈ lw_ok := List.mem_filter.mpr ⟨List.mem_of_getElem? (wl_9_ok (1194, Cond.instanceMethod yX8_luck) (List.mem_of_getElem? (i := 94) rfl)), rfl⟩
set_option maxRecDepth 100000 in
theorem w_1195 : Cond.selects RX8 yX8_luck yX8_luck ∈ lw_ok := List.mem_filter.mpr ⟨List.mem_of_getElem? (wl_9_ok (1195, Cond.selects RX8 yX8_luck yX8_luck) (List.mem_of_getElem? (i := 95) rfl)), rfl⟩
set_option maxRecDepth 100000 in
theorem w_1196 : Cond.code yX8_luck cX8_luck 6 (some .int) ∈ lw_ok := List.mem_filter.mpr ⟨List.mem_of_getElem? (wl_9_ok (1196, Cond.code yX8_luck cX8_luck 6 (some .int)) (List.mem_of_getElem? (i := 96) rfl)), rfl⟩
set_option maxRecDepth 100000 in
theorem w_1197 : Cond.methodLink "LeakyLineLaw" 337 yX8_rate ∈ lw_ok := List.mem_filter.mpr ⟨List.mem_of_getElem? (wl_9_ok (1197, Cond.methodLink "LeakyLineLaw" 337 yX8_rate) (List.mem_of_getElem? (i := 97) rfl)), rfl⟩
set_option maxRecDepth 100000 in
theorem w_1198 : Cond.instanceMethod yX8_rate ∈ lw_ok := List.mem_filter.mpr ⟨List.mem_of_getElem? (wl_9_ok (1198, Cond.instanceMethod yX8_rate) (List.mem_of_getElem? (i := 98) rfl)), rfl⟩
set_option maxRecDepth 100000 in
theorem w_1199 : Cond.selects RX8 yX8_rate yX8_rate ∈ lw_ok := List.mem_filter.mpr ⟨List.mem_of_getElem? (wl_9_ok (1199, Cond.selects RX8 yX8_rate yX8_rate) (List.mem_of_getElem? (i := 99) rfl)), rfl⟩
def wl_10 : List (Nat × Cond) := [(1200, Cond.code yX8_rate cX8_rate 4 (some .int)), (1201, Cond.methodLink "LeakyLineLaw" 341 yX8_count), (1202, Cond.instanceMethod yX8_count), (1203, Cond.selects RX8 yX8_count yX8_count), (1204, Cond.code yX8_count cX8_count 2 (some .int)), (1205, Cond.methodLink RX8 361 yX3_used), (1206, Cond.instanceMethod yX3_used), (1207, Cond.selects RX3 yX3_used yX3_used), (1208, Cond.code yX3_used cX3_used 3 (some .int)), (1209, Cond.methodLink RX3 22 yX3_has), (1210, Cond.methodLink "LeakyLineLaw" 345 yX8_image), (1211, Cond.instanceMethod yX8_image), (1212, Cond.selects RX8 yX8_image yX8_image), (1213, Cond.code yX8_image cX8_image 3 (some .int)), (1214, Cond.methodLink "LeakyLineLaw" 349 yX8_back), (1215, Cond.instanceMethod yX8_back), (1216, Cond.selects RX8 yX8_back yX8_back), (1217, Cond.code yX8_back cX8_back 3 (some .int)), (1218, Cond.methodLink "LeakyLineLaw" 353 yX8_row), (1219, Cond.instanceMethod yX8_row), (1220, Cond.selects RX8 yX8_row yX8_row), (1221, Cond.code yX8_row cX8_row 4 (some .int)), (1222, Cond.methodLink RX8 367 yX3_lay), (1223, Cond.instanceMethod yX3_lay), (1224, Cond.selects RX3 yX3_lay yX3_lay), (1225, Cond.code yX3_lay cX3_lay 4 none), (1226, Cond.methodLink RX3 26 yJ7_fill_bad5a), (1227, Cond.static yJ7_fill_bad5a), (1228, Cond.code yJ7_fill_bad5a cJ7_fill_bad5a 6 none), (1229, Cond.methodLink RJ7 13 yJ7_rangeCheck_23922), (1230, Cond.static yJ7_rangeCheck_23922), (1231, Cond.code yJ7_rangeCheck_23922 cJ7_rangeCheck_23922 3 none), (1232, Cond.methodLink "LeakyLineLaw" 359 yX8_write), (1233, Cond.instanceMethod yX8_write), (1234, Cond.selects RX8 yX8_write yX8_write), (1235, Cond.code yX8_write cX8_write 5 (some .int)), (1236, Cond.methodLink RX8 376 yX3_put), (1237, Cond.instanceMethod yX3_put), (1238, Cond.selects RX3 yX3_put yX3_put), (1239, Cond.code yX3_put cX3_put 5 none), (1240, Cond.methodLink RX3 32 yX3_cut), (1241, Cond.static yX3_cut), (1242, Cond.code yX3_cut cX3_cut 3 (some .long)), (1243, Cond.methodLink "LeakyLineLaw" 364 yX8_paste), (1244, Cond.instanceMethod yX8_paste), (1245, Cond.selects RX8 yX8_paste yX8_paste), (1246, Cond.code yX8_paste cX8_paste 6 (some .int)), (1247, Cond.methodLink RX8 383 yX3_holds), (1248, Cond.instanceMethod yX3_holds), (1249, Cond.selects RX3 yX3_holds yX3_holds), (1250, Cond.code yX3_holds cX3_holds 4 (some .boolean)), (1251, Cond.methodLink RX8 387 yX3_copy), (1252, Cond.instanceMethod yX3_copy), (1253, Cond.selects RX3 yX3_copy yX3_copy), (1254, Cond.code yX3_copy cX3_copy 6 none), (1255, Cond.methodLink RX3 36 arraycopyName), (1256, Cond.classLink "LeakyLineLaw" 10 RX9), (1257, Cond.instantiable RX9 38), (1258, Cond.methodLink "LeakyLineLaw" 12 yX9_init), (1259, Cond.instanceMethod yX9_init), (1260, Cond.code yX9_init cX9_init 2 none), (1261, Cond.methodLink RX9 1 objectInit), (1262, Cond.fieldLink RX9 68 "LeakyLineModel" "thrown" "I"), (1263, Cond.fieldLink RX9 7 "LeakyLineModel" "width" "[I"), (1264, Cond.fieldLink RX9 13 "LeakyLineModel" "many" "[I"), (1265, Cond.fieldLink RX9 16 "LeakyLineModel" "cells" "[J"), (1266, Cond.fieldLink RX9 20 "LeakyLineModel" "moved" "[J"), (1267, Cond.fieldLink RX9 23 "LeakyLineModel" "tape" "[B"), (1268, Cond.fieldLink RX9 85 "LeakyLineModel" "taped" "I"), (1269, Cond.fieldLink RX9 92 "LeakyLineModel" "spot" "I"), (1270, Cond.fieldLink RX9 109 "LeakyLineModel" "token" "I"), (1271, Cond.fieldLink RX9 99 "LeakyLineModel" "place" "I"), (1272, Cond.fieldLink RX9 102 "LeakyLineModel" "value" "I"), (1273, Cond.fieldLink RX9 105 "LeakyLineModel" "word" "J"), (1274, Cond.fieldLink RX9 120 "LeakyLineModel" "bad" "I"), (1275, Cond.fieldLink RX9 123 "LeakyLineModel" "badPlace" "I"), (1276, Cond.fieldLink RX9 147 "LeakyLineModel" "fault" "I"), (1277, Cond.fieldLink RX9 27 "LeakyLineModel" "faultPlace" "I"), (1278, Cond.fieldLink RX9 31 "LeakyLineModel" "lines" "[I"), (1279, Cond.fieldLink RX9 34 "LeakyLineModel" "has" "[I"), (1280, Cond.fieldLink RX9 37 "LeakyLineModel" "spanOf" "[I"), (1281, Cond.fieldLink RX9 40 "LeakyLineModel" "wetOf" "[I"), (1282, Cond.fieldLink RX9 43 "LeakyLineModel" "act" "[I"), (1283, Cond.fieldLink RX9 46 "LeakyLineModel" "isKept" "[Z"), (1284, Cond.fieldLink RX9 225 "LeakyLineModel" "law" "I"), (1285, Cond.fieldLink RX9 228 "LeakyLineModel" "wet" "I"), (1286, Cond.fieldLink RX9 231 "LeakyLineModel" "cupped" "I"), (1287, Cond.fieldLink RX9 234 "LeakyLineModel" "gone" "I"), (1288, Cond.fieldLink RX9 237 "LeakyLineModel" "battery0" "I"), (1289, Cond.fieldLink RX9 50 "LeakyLineModel" "ohmsTold" "[I"), (1290, Cond.fieldLink RX9 53 "LeakyLineModel" "leakTold" "[I"), (1291, Cond.fieldLink RX9 250 "LeakyLineModel" "joins" "I"), (1292, Cond.fieldLink RX9 56 "LeakyLineModel" "part0" "[J"), (1293, Cond.fieldLink RX9 59 "LeakyLineModel" "flow" "[J"), (1294, Cond.fieldLink RX9 259 "LeakyLineModel" "batteryPart" "J"), (1295, Cond.fieldLink RX9 343 "LeakyLineModel" "seenBits" "I"), (1296, Cond.fieldLink RX9 349 "LeakyLineModel" "askBest" "I"), (1297, Cond.fieldLink RX9 352 "LeakyLineModel" "askLeaves" "I"), (1298, Cond.fieldLink RX9 62 "LeakyLineModel" "aboveAt" "[J"), (1299, Cond.fieldLink RX9 65 "LeakyLineModel" "belowAt" "[J")]
set_option maxRecDepth 100000 in
theorem wl_10_ok : ∀ x ∈ wl_10, lw_tbl[x.1]? = some x.2 := by decide +kernel
set_option maxRecDepth 100000 in
theorem w_1200 : Cond.code yX8_rate cX8_rate 4 (some .int) ∈ lw_ok := List.mem_filter.mpr ⟨List.mem_of_getElem? (wl_10_ok (1200, Cond.code yX8_rate cX8_rate 4 (some .int)) (List.mem_of_getElem? (i := 0) rfl)), rfl⟩
set_option maxRecDepth 100000 in
theorem w_1201 : Cond.methodLink "LeakyLineLaw" 341 yX8_count ∈ lw_ok := List.mem_filter.mpr ⟨List.mem_of_getElem? (wl_10_ok (1201, Cond.methodLink "LeakyLineLaw" 341 yX8_count) (List.mem_of_getElem? (i := 1) rfl)), rfl⟩
set_option maxRecDepth 100000 in
theorem w_1202 : Cond.instanceMethod yX8_count ∈ lw_ok := List.mem_filter.mpr ⟨List.mem_of_getElem? (wl_10_ok (1202, Cond.instanceMethod yX8_count) (List.mem_of_getElem? (i := 2) rfl)), rfl⟩
set_option maxRecDepth 100000 in
theorem w_1203 : Cond.selects RX8 yX8_count yX8_count ∈ lw_ok := List.mem_filter.mpr ⟨List.mem_of_getElem? (wl_10_ok (1203, Cond.selects RX8 yX8_count yX8_count) (List.mem_of_getElem? (i := 3) rfl)), rfl⟩
set_option maxRecDepth 100000 in
theorem w_1204 : Cond.code yX8_count cX8_count 2 (some .int) ∈ lw_ok := List.mem_filter.mpr ⟨List.mem_of_getElem? (wl_10_ok (1204, Cond.code yX8_count cX8_count 2 (some .int)) (List.mem_of_getElem? (i := 4) rfl)), rfl⟩
set_option maxRecDepth 100000 in
theorem w_1205 : Cond.methodLink RX8 361 yX3_used ∈ lw_ok := List.mem_filter.mpr ⟨List.mem_of_getElem? (wl_10_ok (1205, Cond.methodLink RX8 361 yX3_used) (List.mem_of_getElem? (i := 5) rfl)), rfl⟩
set_option maxRecDepth 100000 in
theorem w_1206 : Cond.instanceMethod yX3_used ∈ lw_ok := List.mem_filter.mpr ⟨List.mem_of_getElem? (wl_10_ok (1206, Cond.instanceMethod yX3_used) (List.mem_of_getElem? (i := 6) rfl)), rfl⟩
set_option maxRecDepth 100000 in
theorem w_1207 : Cond.selects RX3 yX3_used yX3_used ∈ lw_ok := List.mem_filter.mpr ⟨List.mem_of_getElem? (wl_10_ok (1207, Cond.selects RX3 yX3_used yX3_used) (List.mem_of_getElem? (i := 7) rfl)), rfl⟩
set_option maxRecDepth 100000 in
theorem w_1208 : Cond.code yX3_used cX3_used 3 (some .int) ∈ lw_ok := List.mem_filter.mpr ⟨List.mem_of_getElem? (wl_10_ok (1208, Cond.code yX3_used cX3_used 3 (some .int)) (List.mem_of_getElem? (i := 8) rfl)), rfl⟩
set_option maxRecDepth 100000 in
theorem w_1209 : Cond.methodLink RX3 22 yX3_has ∈ lw_ok := List.mem_filter.mpr ⟨List.mem_of_getElem? (wl_10_ok (1209, Cond.methodLink RX3 22 yX3_has) (List.mem_of_getElem? (i := 9) rfl)), rfl⟩
set_option maxRecDepth 100000 in
theorem w_1210 : Cond.methodLink "LeakyLineLaw" 345 yX8_image ∈ lw_ok := List.mem_filter.mpr ⟨List.mem_of_getElem? (wl_10_ok (1210, Cond.methodLink "LeakyLineLaw" 345 yX8_image) (List.mem_of_getElem? (i := 10) rfl)), rfl⟩
set_option maxRecDepth 100000 in
theorem w_1211 : Cond.instanceMethod yX8_image ∈ lw_ok := List.mem_filter.mpr ⟨List.mem_of_getElem? (wl_10_ok (1211, Cond.instanceMethod yX8_image) (List.mem_of_getElem? (i := 11) rfl)), rfl⟩
set_option maxRecDepth 100000 in
theorem w_1212 : Cond.selects RX8 yX8_image yX8_image ∈ lw_ok := List.mem_filter.mpr ⟨List.mem_of_getElem? (wl_10_ok (1212, Cond.selects RX8 yX8_image yX8_image) (List.mem_of_getElem? (i := 12) rfl)), rfl⟩
set_option maxRecDepth 100000 in
theorem w_1213 : Cond.code yX8_image cX8_image 3 (some .int) ∈ lw_ok := List.mem_filter.mpr ⟨List.mem_of_getElem? (wl_10_ok (1213, Cond.code yX8_image cX8_image 3 (some .int)) (List.mem_of_getElem? (i := 13) rfl)), rfl⟩
set_option maxRecDepth 100000 in
theorem w_1214 : Cond.methodLink "LeakyLineLaw" 349 yX8_back ∈ lw_ok := List.mem_filter.mpr ⟨List.mem_of_getElem? (wl_10_ok (1214, Cond.methodLink "LeakyLineLaw" 349 yX8_back) (List.mem_of_getElem? (i := 14) rfl)), rfl⟩
set_option maxRecDepth 100000 in
theorem w_1215 : Cond.instanceMethod yX8_back ∈ lw_ok := List.mem_filter.mpr ⟨List.mem_of_getElem? (wl_10_ok (1215, Cond.instanceMethod yX8_back) (List.mem_of_getElem? (i := 15) rfl)), rfl⟩
set_option maxRecDepth 100000 in
theorem w_1216 : Cond.selects RX8 yX8_back yX8_back ∈ lw_ok := List.mem_filter.mpr ⟨List.mem_of_getElem? (wl_10_ok (1216, Cond.selects RX8 yX8_back yX8_back) (List.mem_of_getElem? (i := 16) rfl)), rfl⟩
set_option maxRecDepth 100000 in
theorem w_1217 : Cond.code yX8_back cX8_back 3 (some .int) ∈ lw_ok := List.mem_filter.mpr ⟨List.mem_of_getElem? (wl_10_ok (1217, Cond.code yX8_back cX8_back 3 (some .int)) (List.mem_of_getElem? (i := 17) rfl)), rfl⟩
set_option maxRecDepth 100000 in
theorem w_1218 : Cond.methodLink "LeakyLineLaw" 353 yX8_row ∈ lw_ok := List.mem_filter.mpr ⟨List.mem_of_getElem? (wl_10_ok (1218, Cond.methodLink "LeakyLineLaw" 353 yX8_row) (List.mem_of_getElem? (i := 18) rfl)), rfl⟩
set_option maxRecDepth 100000 in
theorem w_1219 : Cond.instanceMethod yX8_row ∈ lw_ok := List.mem_filter.mpr ⟨List.mem_of_getElem? (wl_10_ok (1219, Cond.instanceMethod yX8_row) (List.mem_of_getElem? (i := 19) rfl)), rfl⟩
set_option maxRecDepth 100000 in
theorem w_1220 : Cond.selects RX8 yX8_row yX8_row ∈ lw_ok := List.mem_filter.mpr ⟨List.mem_of_getElem? (wl_10_ok (1220, Cond.selects RX8 yX8_row yX8_row) (List.mem_of_getElem? (i := 20) rfl)), rfl⟩
set_option maxRecDepth 100000 in
theorem w_1221 : Cond.code yX8_row cX8_row 4 (some .int) ∈ lw_ok := List.mem_filter.mpr ⟨List.mem_of_getElem? (wl_10_ok (1221, Cond.code yX8_row cX8_row 4 (some .int)) (List.mem_of_getElem? (i := 21) rfl)), rfl⟩
set_option maxRecDepth 100000 in
theorem w_1222 : Cond.methodLink RX8 367 yX3_lay ∈ lw_ok := List.mem_filter.mpr ⟨List.mem_of_getElem? (wl_10_ok (1222, Cond.methodLink RX8 367 yX3_lay) (List.mem_of_getElem? (i := 22) rfl)), rfl⟩
set_option maxRecDepth 100000 in
theorem w_1223 : Cond.instanceMethod yX3_lay ∈ lw_ok := List.mem_filter.mpr ⟨List.mem_of_getElem? (wl_10_ok (1223, Cond.instanceMethod yX3_lay) (List.mem_of_getElem? (i := 23) rfl)), rfl⟩
set_option maxRecDepth 100000 in
theorem w_1224 : Cond.selects RX3 yX3_lay yX3_lay ∈ lw_ok := List.mem_filter.mpr ⟨List.mem_of_getElem? (wl_10_ok (1224, Cond.selects RX3 yX3_lay yX3_lay) (List.mem_of_getElem? (i := 24) rfl)), rfl⟩
set_option maxRecDepth 100000 in
theorem w_1225 : Cond.code yX3_lay cX3_lay 4 none ∈ lw_ok := List.mem_filter.mpr ⟨List.mem_of_getElem? (wl_10_ok (1225, Cond.code yX3_lay cX3_lay 4 none) (List.mem_of_getElem? (i := 25) rfl)), rfl⟩
set_option maxRecDepth 100000 in
theorem w_1226 : Cond.methodLink RX3 26 yJ7_fill_bad5a ∈ lw_ok := List.mem_filter.mpr ⟨List.mem_of_getElem? (wl_10_ok (1226, Cond.methodLink RX3 26 yJ7_fill_bad5a) (List.mem_of_getElem? (i := 26) rfl)), rfl⟩
set_option maxRecDepth 100000 in
theorem w_1227 : Cond.static yJ7_fill_bad5a ∈ lw_ok := List.mem_filter.mpr ⟨List.mem_of_getElem? (wl_10_ok (1227, Cond.static yJ7_fill_bad5a) (List.mem_of_getElem? (i := 27) rfl)), rfl⟩
set_option maxRecDepth 100000 in
theorem w_1228 : Cond.code yJ7_fill_bad5a cJ7_fill_bad5a 6 none ∈ lw_ok := List.mem_filter.mpr ⟨List.mem_of_getElem? (wl_10_ok (1228, Cond.code yJ7_fill_bad5a cJ7_fill_bad5a 6 none) (List.mem_of_getElem? (i := 28) rfl)), rfl⟩
set_option maxRecDepth 100000 in
theorem w_1229 : Cond.methodLink RJ7 13 yJ7_rangeCheck_23922 ∈ lw_ok := List.mem_filter.mpr ⟨List.mem_of_getElem? (wl_10_ok (1229, Cond.methodLink RJ7 13 yJ7_rangeCheck_23922) (List.mem_of_getElem? (i := 29) rfl)), rfl⟩
set_option maxRecDepth 100000 in
theorem w_1230 : Cond.static yJ7_rangeCheck_23922 ∈ lw_ok := List.mem_filter.mpr ⟨List.mem_of_getElem? (wl_10_ok (1230, Cond.static yJ7_rangeCheck_23922) (List.mem_of_getElem? (i := 30) rfl)), rfl⟩
set_option maxRecDepth 100000 in
theorem w_1231 : Cond.code yJ7_rangeCheck_23922 cJ7_rangeCheck_23922 3 none ∈ lw_ok := List.mem_filter.mpr ⟨List.mem_of_getElem? (wl_10_ok (1231, Cond.code yJ7_rangeCheck_23922 cJ7_rangeCheck_23922 3 none) (List.mem_of_getElem? (i := 31) rfl)), rfl⟩
set_option maxRecDepth 100000 in
theorem w_1232 : Cond.methodLink "LeakyLineLaw" 359 yX8_write ∈ lw_ok := List.mem_filter.mpr ⟨List.mem_of_getElem? (wl_10_ok (1232, Cond.methodLink "LeakyLineLaw" 359 yX8_write) (List.mem_of_getElem? (i := 32) rfl)), rfl⟩
set_option maxRecDepth 100000 in
theorem w_1233 : Cond.instanceMethod yX8_write ∈ lw_ok := List.mem_filter.mpr ⟨List.mem_of_getElem? (wl_10_ok (1233, Cond.instanceMethod yX8_write) (List.mem_of_getElem? (i := 33) rfl)), rfl⟩
set_option maxRecDepth 100000 in
theorem w_1234 : Cond.selects RX8 yX8_write yX8_write ∈ lw_ok := List.mem_filter.mpr ⟨List.mem_of_getElem? (wl_10_ok (1234, Cond.selects RX8 yX8_write yX8_write) (List.mem_of_getElem? (i := 34) rfl)), rfl⟩
set_option maxRecDepth 100000 in
theorem w_1235 : Cond.code yX8_write cX8_write 5 (some .int) ∈ lw_ok := List.mem_filter.mpr ⟨List.mem_of_getElem? (wl_10_ok (1235, Cond.code yX8_write cX8_write 5 (some .int)) (List.mem_of_getElem? (i := 35) rfl)), rfl⟩
set_option maxRecDepth 100000 in
theorem w_1236 : Cond.methodLink RX8 376 yX3_put ∈ lw_ok := List.mem_filter.mpr ⟨List.mem_of_getElem? (wl_10_ok (1236, Cond.methodLink RX8 376 yX3_put) (List.mem_of_getElem? (i := 36) rfl)), rfl⟩
set_option maxRecDepth 100000 in
theorem w_1237 : Cond.instanceMethod yX3_put ∈ lw_ok := List.mem_filter.mpr ⟨List.mem_of_getElem? (wl_10_ok (1237, Cond.instanceMethod yX3_put) (List.mem_of_getElem? (i := 37) rfl)), rfl⟩
set_option maxRecDepth 100000 in
theorem w_1238 : Cond.selects RX3 yX3_put yX3_put ∈ lw_ok := List.mem_filter.mpr ⟨List.mem_of_getElem? (wl_10_ok (1238, Cond.selects RX3 yX3_put yX3_put) (List.mem_of_getElem? (i := 38) rfl)), rfl⟩
set_option maxRecDepth 100000 in
theorem w_1239 : Cond.code yX3_put cX3_put 5 none ∈ lw_ok := List.mem_filter.mpr ⟨List.mem_of_getElem? (wl_10_ok (1239, Cond.code yX3_put cX3_put 5 none) (List.mem_of_getElem? (i := 39) rfl)), rfl⟩
set_option maxRecDepth 100000 in
theorem w_1240 : Cond.methodLink RX3 32 yX3_cut ∈ lw_ok := List.mem_filter.mpr ⟨List.mem_of_getElem? (wl_10_ok (1240, Cond.methodLink RX3 32 yX3_cut) (List.mem_of_getElem? (i := 40) rfl)), rfl⟩
set_option maxRecDepth 100000 in
theorem w_1241 : Cond.static yX3_cut ∈ lw_ok := List.mem_filter.mpr ⟨List.mem_of_getElem? (wl_10_ok (1241, Cond.static yX3_cut) (List.mem_of_getElem? (i := 41) rfl)), rfl⟩
set_option maxRecDepth 100000 in
theorem w_1242 : Cond.code yX3_cut cX3_cut 3 (some .long) ∈ lw_ok := List.mem_filter.mpr ⟨List.mem_of_getElem? (wl_10_ok (1242, Cond.code yX3_cut cX3_cut 3 (some .long)) (List.mem_of_getElem? (i := 42) rfl)), rfl⟩
set_option maxRecDepth 100000 in
theorem w_1243 : Cond.methodLink "LeakyLineLaw" 364 yX8_paste ∈ lw_ok := List.mem_filter.mpr ⟨List.mem_of_getElem? (wl_10_ok (1243, Cond.methodLink "LeakyLineLaw" 364 yX8_paste) (List.mem_of_getElem? (i := 43) rfl)), rfl⟩
set_option maxRecDepth 100000 in
theorem w_1244 : Cond.instanceMethod yX8_paste ∈ lw_ok := List.mem_filter.mpr ⟨List.mem_of_getElem? (wl_10_ok (1244, Cond.instanceMethod yX8_paste) (List.mem_of_getElem? (i := 44) rfl)), rfl⟩
set_option maxRecDepth 100000 in
theorem w_1245 : Cond.selects RX8 yX8_paste yX8_paste ∈ lw_ok := List.mem_filter.mpr ⟨List.mem_of_getElem? (wl_10_ok (1245, Cond.selects RX8 yX8_paste yX8_paste) (List.mem_of_getElem? (i := 45) rfl)), rfl⟩
set_option maxRecDepth 100000 in
theorem w_1246 : Cond.code yX8_paste cX8_paste 6 (some .int) ∈ lw_ok := List.mem_filter.mpr ⟨List.mem_of_getElem? (wl_10_ok (1246, Cond.code yX8_paste cX8_paste 6 (some .int)) (List.mem_of_getElem? (i := 46) rfl)), rfl⟩
set_option maxRecDepth 100000 in
theorem w_1247 : Cond.methodLink RX8 383 yX3_holds ∈ lw_ok := List.mem_filter.mpr ⟨List.mem_of_getElem? (wl_10_ok (1247, Cond.methodLink RX8 383 yX3_holds) (List.mem_of_getElem? (i := 47) rfl)), rfl⟩
set_option maxRecDepth 100000 in
theorem w_1248 : Cond.instanceMethod yX3_holds ∈ lw_ok := List.mem_filter.mpr ⟨List.mem_of_getElem? (wl_10_ok (1248, Cond.instanceMethod yX3_holds) (List.mem_of_getElem? (i := 48) rfl)), rfl⟩
set_option maxRecDepth 100000 in
theorem w_1249 : Cond.selects RX3 yX3_holds yX3_holds ∈ lw_ok := List.mem_filter.mpr ⟨List.mem_of_getElem? (wl_10_ok (1249, Cond.selects RX3 yX3_holds yX3_holds) (List.mem_of_getElem? (i := 49) rfl)), rfl⟩
set_option maxRecDepth 100000 in
theorem w_1250 : Cond.code yX3_holds cX3_holds 4 (some .boolean) ∈ lw_ok := List.mem_filter.mpr ⟨List.mem_of_getElem? (wl_10_ok (1250, Cond.code yX3_holds cX3_holds 4 (some .boolean)) (List.mem_of_getElem? (i := 50) rfl)), rfl⟩
set_option maxRecDepth 100000 in
theorem w_1251 : Cond.methodLink RX8 387 yX3_copy ∈ lw_ok := List.mem_filter.mpr ⟨List.mem_of_getElem? (wl_10_ok (1251, Cond.methodLink RX8 387 yX3_copy) (List.mem_of_getElem? (i := 51) rfl)), rfl⟩
set_option maxRecDepth 100000 in
theorem w_1252 : Cond.instanceMethod yX3_copy ∈ lw_ok := List.mem_filter.mpr ⟨List.mem_of_getElem? (wl_10_ok (1252, Cond.instanceMethod yX3_copy) (List.mem_of_getElem? (i := 52) rfl)), rfl⟩
set_option maxRecDepth 100000 in
theorem w_1253 : Cond.selects RX3 yX3_copy yX3_copy ∈ lw_ok := List.mem_filter.mpr ⟨List.mem_of_getElem? (wl_10_ok (1253, Cond.selects RX3 yX3_copy yX3_copy) (List.mem_of_getElem? (i := 53) rfl)), rfl⟩
set_option maxRecDepth 100000 in
theorem w_1254 : Cond.code yX3_copy cX3_copy 6 none ∈ lw_ok := List.mem_filter.mpr ⟨List.mem_of_getElem? (wl_10_ok (1254, Cond.code yX3_copy cX3_copy 6 none) (List.mem_of_getElem? (i := 54) rfl)), rfl⟩
set_option maxRecDepth 100000 in
theorem w_1255 : Cond.methodLink RX3 36 arraycopyName ∈ lw_ok := List.mem_filter.mpr ⟨List.mem_of_getElem? (wl_10_ok (1255, Cond.methodLink RX3 36 arraycopyName) (List.mem_of_getElem? (i := 55) rfl)), rfl⟩
set_option maxRecDepth 100000 in
theorem w_1256 : Cond.classLink "LeakyLineLaw" 10 RX9 ∈ lw_ok := List.mem_filter.mpr ⟨List.mem_of_getElem? (wl_10_ok (1256, Cond.classLink "LeakyLineLaw" 10 RX9) (List.mem_of_getElem? (i := 56) rfl)), rfl⟩
set_option maxRecDepth 100000 in
theorem w_1257 : Cond.instantiable RX9 38 ∈ lw_ok := List.mem_filter.mpr ⟨List.mem_of_getElem? (wl_10_ok (1257, Cond.instantiable RX9 38) (List.mem_of_getElem? (i := 57) rfl)), rfl⟩
set_option maxRecDepth 100000 in
theorem w_1258 : Cond.methodLink "LeakyLineLaw" 12 yX9_init ∈ lw_ok := List.mem_filter.mpr ⟨List.mem_of_getElem? (wl_10_ok (1258, Cond.methodLink "LeakyLineLaw" 12 yX9_init) (List.mem_of_getElem? (i := 58) rfl)), rfl⟩
set_option maxRecDepth 100000 in
theorem w_1259 : Cond.instanceMethod yX9_init ∈ lw_ok := List.mem_filter.mpr ⟨List.mem_of_getElem? (wl_10_ok (1259, Cond.instanceMethod yX9_init) (List.mem_of_getElem? (i := 59) rfl)), rfl⟩
set_option maxRecDepth 100000 in
theorem w_1260 : Cond.code yX9_init cX9_init 2 none ∈ lw_ok := List.mem_filter.mpr ⟨List.mem_of_getElem? (wl_10_ok (1260, Cond.code yX9_init cX9_init 2 none) (List.mem_of_getElem? (i := 60) rfl)), rfl⟩
set_option maxRecDepth 100000 in
theorem w_1261 : Cond.methodLink RX9 1 objectInit ∈ lw_ok := List.mem_filter.mpr ⟨List.mem_of_getElem? (wl_10_ok (1261, Cond.methodLink RX9 1 objectInit) (List.mem_of_getElem? (i := 61) rfl)), rfl⟩
set_option maxRecDepth 100000 in
theorem w_1262 : Cond.fieldLink RX9 68 "LeakyLineModel" "thrown" "I" ∈ lw_ok := List.mem_filter.mpr ⟨List.mem_of_getElem? (wl_10_ok (1262, Cond.fieldLink RX9 68 "LeakyLineModel" "thrown" "I") (List.mem_of_getElem? (i := 62) rfl)), rfl⟩
set_option maxRecDepth 100000 in
theorem w_1263 : Cond.fieldLink RX9 7 "LeakyLineModel" "width" "[I" ∈ lw_ok := List.mem_filter.mpr ⟨List.mem_of_getElem? (wl_10_ok (1263, Cond.fieldLink RX9 7 "LeakyLineModel" "width" "[I") (List.mem_of_getElem? (i := 63) rfl)), rfl⟩
set_option maxRecDepth 100000 in
theorem w_1264 : Cond.fieldLink RX9 13 "LeakyLineModel" "many" "[I" ∈ lw_ok := List.mem_filter.mpr ⟨List.mem_of_getElem? (wl_10_ok (1264, Cond.fieldLink RX9 13 "LeakyLineModel" "many" "[I") (List.mem_of_getElem? (i := 64) rfl)), rfl⟩
set_option maxRecDepth 100000 in
theorem w_1265 : Cond.fieldLink RX9 16 "LeakyLineModel" "cells" "[J" ∈ lw_ok := List.mem_filter.mpr ⟨List.mem_of_getElem? (wl_10_ok (1265, Cond.fieldLink RX9 16 "LeakyLineModel" "cells" "[J") (List.mem_of_getElem? (i := 65) rfl)), rfl⟩
set_option maxRecDepth 100000 in
theorem w_1266 : Cond.fieldLink RX9 20 "LeakyLineModel" "moved" "[J" ∈ lw_ok := List.mem_filter.mpr ⟨List.mem_of_getElem? (wl_10_ok (1266, Cond.fieldLink RX9 20 "LeakyLineModel" "moved" "[J") (List.mem_of_getElem? (i := 66) rfl)), rfl⟩
set_option maxRecDepth 100000 in
theorem w_1267 : Cond.fieldLink RX9 23 "LeakyLineModel" "tape" "[B" ∈ lw_ok := List.mem_filter.mpr ⟨List.mem_of_getElem? (wl_10_ok (1267, Cond.fieldLink RX9 23 "LeakyLineModel" "tape" "[B") (List.mem_of_getElem? (i := 67) rfl)), rfl⟩
set_option maxRecDepth 100000 in
theorem w_1268 : Cond.fieldLink RX9 85 "LeakyLineModel" "taped" "I" ∈ lw_ok := List.mem_filter.mpr ⟨List.mem_of_getElem? (wl_10_ok (1268, Cond.fieldLink RX9 85 "LeakyLineModel" "taped" "I") (List.mem_of_getElem? (i := 68) rfl)), rfl⟩
set_option maxRecDepth 100000 in
theorem w_1269 : Cond.fieldLink RX9 92 "LeakyLineModel" "spot" "I" ∈ lw_ok := List.mem_filter.mpr ⟨List.mem_of_getElem? (wl_10_ok (1269, Cond.fieldLink RX9 92 "LeakyLineModel" "spot" "I") (List.mem_of_getElem? (i := 69) rfl)), rfl⟩
set_option maxRecDepth 100000 in
theorem w_1270 : Cond.fieldLink RX9 109 "LeakyLineModel" "token" "I" ∈ lw_ok := List.mem_filter.mpr ⟨List.mem_of_getElem? (wl_10_ok (1270, Cond.fieldLink RX9 109 "LeakyLineModel" "token" "I") (List.mem_of_getElem? (i := 70) rfl)), rfl⟩
set_option maxRecDepth 100000 in
theorem w_1271 : Cond.fieldLink RX9 99 "LeakyLineModel" "place" "I" ∈ lw_ok := List.mem_filter.mpr ⟨List.mem_of_getElem? (wl_10_ok (1271, Cond.fieldLink RX9 99 "LeakyLineModel" "place" "I") (List.mem_of_getElem? (i := 71) rfl)), rfl⟩
set_option maxRecDepth 100000 in
theorem w_1272 : Cond.fieldLink RX9 102 "LeakyLineModel" "value" "I" ∈ lw_ok := List.mem_filter.mpr ⟨List.mem_of_getElem? (wl_10_ok (1272, Cond.fieldLink RX9 102 "LeakyLineModel" "value" "I") (List.mem_of_getElem? (i := 72) rfl)), rfl⟩
set_option maxRecDepth 100000 in
theorem w_1273 : Cond.fieldLink RX9 105 "LeakyLineModel" "word" "J" ∈ lw_ok := List.mem_filter.mpr ⟨List.mem_of_getElem? (wl_10_ok (1273, Cond.fieldLink RX9 105 "LeakyLineModel" "word" "J") (List.mem_of_getElem? (i := 73) rfl)), rfl⟩
set_option maxRecDepth 100000 in
theorem w_1274 : Cond.fieldLink RX9 120 "LeakyLineModel" "bad" "I" ∈ lw_ok := List.mem_filter.mpr ⟨List.mem_of_getElem? (wl_10_ok (1274, Cond.fieldLink RX9 120 "LeakyLineModel" "bad" "I") (List.mem_of_getElem? (i := 74) rfl)), rfl⟩
set_option maxRecDepth 100000 in
theorem w_1275 : Cond.fieldLink RX9 123 "LeakyLineModel" "badPlace" "I" ∈ lw_ok := List.mem_filter.mpr ⟨List.mem_of_getElem? (wl_10_ok (1275, Cond.fieldLink RX9 123 "LeakyLineModel" "badPlace" "I") (List.mem_of_getElem? (i := 75) rfl)), rfl⟩
set_option maxRecDepth 100000 in
theorem w_1276 : Cond.fieldLink RX9 147 "LeakyLineModel" "fault" "I" ∈ lw_ok := List.mem_filter.mpr ⟨List.mem_of_getElem? (wl_10_ok (1276, Cond.fieldLink RX9 147 "LeakyLineModel" "fault" "I") (List.mem_of_getElem? (i := 76) rfl)), rfl⟩
set_option maxRecDepth 100000 in
theorem w_1277 : Cond.fieldLink RX9 27 "LeakyLineModel" "faultPlace" "I" ∈ lw_ok := List.mem_filter.mpr ⟨List.mem_of_getElem? (wl_10_ok (1277, Cond.fieldLink RX9 27 "LeakyLineModel" "faultPlace" "I") (List.mem_of_getElem? (i := 77) rfl)), rfl⟩
set_option maxRecDepth 100000 in
theorem w_1278 : Cond.fieldLink RX9 31 "LeakyLineModel" "lines" "[I" ∈ lw_ok := List.mem_filter.mpr ⟨List.mem_of_getElem? (wl_10_ok (1278, Cond.fieldLink RX9 31 "LeakyLineModel" "lines" "[I") (List.mem_of_getElem? (i := 78) rfl)), rfl⟩
set_option maxRecDepth 100000 in
theorem w_1279 : Cond.fieldLink RX9 34 "LeakyLineModel" "has" "[I" ∈ lw_ok := List.mem_filter.mpr ⟨List.mem_of_getElem? (wl_10_ok (1279, Cond.fieldLink RX9 34 "LeakyLineModel" "has" "[I") (List.mem_of_getElem? (i := 79) rfl)), rfl⟩
set_option maxRecDepth 100000 in
theorem w_1280 : Cond.fieldLink RX9 37 "LeakyLineModel" "spanOf" "[I" ∈ lw_ok := List.mem_filter.mpr ⟨List.mem_of_getElem? (wl_10_ok (1280, Cond.fieldLink RX9 37 "LeakyLineModel" "spanOf" "[I") (List.mem_of_getElem? (i := 80) rfl)), rfl⟩
set_option maxRecDepth 100000 in
theorem w_1281 : Cond.fieldLink RX9 40 "LeakyLineModel" "wetOf" "[I" ∈ lw_ok := List.mem_filter.mpr ⟨List.mem_of_getElem? (wl_10_ok (1281, Cond.fieldLink RX9 40 "LeakyLineModel" "wetOf" "[I") (List.mem_of_getElem? (i := 81) rfl)), rfl⟩
set_option maxRecDepth 100000 in
theorem w_1282 : Cond.fieldLink RX9 43 "LeakyLineModel" "act" "[I" ∈ lw_ok := List.mem_filter.mpr ⟨List.mem_of_getElem? (wl_10_ok (1282, Cond.fieldLink RX9 43 "LeakyLineModel" "act" "[I") (List.mem_of_getElem? (i := 82) rfl)), rfl⟩
set_option maxRecDepth 100000 in
theorem w_1283 : Cond.fieldLink RX9 46 "LeakyLineModel" "isKept" "[Z" ∈ lw_ok := List.mem_filter.mpr ⟨List.mem_of_getElem? (wl_10_ok (1283, Cond.fieldLink RX9 46 "LeakyLineModel" "isKept" "[Z") (List.mem_of_getElem? (i := 83) rfl)), rfl⟩
set_option maxRecDepth 100000 in
theorem w_1284 : Cond.fieldLink RX9 225 "LeakyLineModel" "law" "I" ∈ lw_ok := List.mem_filter.mpr ⟨List.mem_of_getElem? (wl_10_ok (1284, Cond.fieldLink RX9 225 "LeakyLineModel" "law" "I") (List.mem_of_getElem? (i := 84) rfl)), rfl⟩
set_option maxRecDepth 100000 in
theorem w_1285 : Cond.fieldLink RX9 228 "LeakyLineModel" "wet" "I" ∈ lw_ok := List.mem_filter.mpr ⟨List.mem_of_getElem? (wl_10_ok (1285, Cond.fieldLink RX9 228 "LeakyLineModel" "wet" "I") (List.mem_of_getElem? (i := 85) rfl)), rfl⟩
set_option maxRecDepth 100000 in
theorem w_1286 : Cond.fieldLink RX9 231 "LeakyLineModel" "cupped" "I" ∈ lw_ok := List.mem_filter.mpr ⟨List.mem_of_getElem? (wl_10_ok (1286, Cond.fieldLink RX9 231 "LeakyLineModel" "cupped" "I") (List.mem_of_getElem? (i := 86) rfl)), rfl⟩
set_option maxRecDepth 100000 in
theorem w_1287 : Cond.fieldLink RX9 234 "LeakyLineModel" "gone" "I" ∈ lw_ok := List.mem_filter.mpr ⟨List.mem_of_getElem? (wl_10_ok (1287, Cond.fieldLink RX9 234 "LeakyLineModel" "gone" "I") (List.mem_of_getElem? (i := 87) rfl)), rfl⟩
set_option maxRecDepth 100000 in
theorem w_1288 : Cond.fieldLink RX9 237 "LeakyLineModel" "battery0" "I" ∈ lw_ok := List.mem_filter.mpr ⟨List.mem_of_getElem? (wl_10_ok (1288, Cond.fieldLink RX9 237 "LeakyLineModel" "battery0" "I") (List.mem_of_getElem? (i := 88) rfl)), rfl⟩
set_option maxRecDepth 100000 in
theorem w_1289 : Cond.fieldLink RX9 50 "LeakyLineModel" "ohmsTold" "[I" ∈ lw_ok := List.mem_filter.mpr ⟨List.mem_of_getElem? (wl_10_ok (1289, Cond.fieldLink RX9 50 "LeakyLineModel" "ohmsTold" "[I") (List.mem_of_getElem? (i := 89) rfl)), rfl⟩
set_option maxRecDepth 100000 in
theorem w_1290 : Cond.fieldLink RX9 53 "LeakyLineModel" "leakTold" "[I" ∈ lw_ok := List.mem_filter.mpr ⟨List.mem_of_getElem? (wl_10_ok (1290, Cond.fieldLink RX9 53 "LeakyLineModel" "leakTold" "[I") (List.mem_of_getElem? (i := 90) rfl)), rfl⟩
set_option maxRecDepth 100000 in
theorem w_1291 : Cond.fieldLink RX9 250 "LeakyLineModel" "joins" "I" ∈ lw_ok := List.mem_filter.mpr ⟨List.mem_of_getElem? (wl_10_ok (1291, Cond.fieldLink RX9 250 "LeakyLineModel" "joins" "I") (List.mem_of_getElem? (i := 91) rfl)), rfl⟩
set_option maxRecDepth 100000 in
theorem w_1292 : Cond.fieldLink RX9 56 "LeakyLineModel" "part0" "[J" ∈ lw_ok := List.mem_filter.mpr ⟨List.mem_of_getElem? (wl_10_ok (1292, Cond.fieldLink RX9 56 "LeakyLineModel" "part0" "[J") (List.mem_of_getElem? (i := 92) rfl)), rfl⟩
set_option maxRecDepth 100000 in
theorem w_1293 : Cond.fieldLink RX9 59 "LeakyLineModel" "flow" "[J" ∈ lw_ok := List.mem_filter.mpr ⟨List.mem_of_getElem? (wl_10_ok (1293, Cond.fieldLink RX9 59 "LeakyLineModel" "flow" "[J") (List.mem_of_getElem? (i := 93) rfl)), rfl⟩
set_option maxRecDepth 100000 in
theorem w_1294 : Cond.fieldLink RX9 259 "LeakyLineModel" "batteryPart" "J" ∈ lw_ok := List.mem_filter.mpr ⟨List.mem_of_getElem? (wl_10_ok (1294, Cond.fieldLink RX9 259 "LeakyLineModel" "batteryPart" "J") (List.mem_of_getElem? (i := 94) rfl)), rfl⟩
set_option maxRecDepth 100000 in
theorem w_1295 : Cond.fieldLink RX9 343 "LeakyLineModel" "seenBits" "I" ∈ lw_ok := List.mem_filter.mpr ⟨List.mem_of_getElem? (wl_10_ok (1295, Cond.fieldLink RX9 343 "LeakyLineModel" "seenBits" "I") (List.mem_of_getElem? (i := 95) rfl)), rfl⟩
set_option maxRecDepth 100000 in
theorem w_1296 : Cond.fieldLink RX9 349 "LeakyLineModel" "askBest" "I" ∈ lw_ok := List.mem_filter.mpr ⟨List.mem_of_getElem? (wl_10_ok (1296, Cond.fieldLink RX9 349 "LeakyLineModel" "askBest" "I") (List.mem_of_getElem? (i := 96) rfl)), rfl⟩
set_option maxRecDepth 100000 in
theorem w_1297 : Cond.fieldLink RX9 352 "LeakyLineModel" "askLeaves" "I" ∈ lw_ok := List.mem_filter.mpr ⟨List.mem_of_getElem? (wl_10_ok (1297, Cond.fieldLink RX9 352 "LeakyLineModel" "askLeaves" "I") (List.mem_of_getElem? (i := 97) rfl)), rfl⟩
set_option maxRecDepth 100000 in
theorem w_1298 : Cond.fieldLink RX9 62 "LeakyLineModel" "aboveAt" "[J" ∈ lw_ok := List.mem_filter.mpr ⟨List.mem_of_getElem? (wl_10_ok (1298, Cond.fieldLink RX9 62 "LeakyLineModel" "aboveAt" "[J") (List.mem_of_getElem? (i := 98) rfl)), rfl⟩
set_option maxRecDepth 100000 in
theorem w_1299 : Cond.fieldLink RX9 65 "LeakyLineModel" "belowAt" "[J" ∈ lw_ok := List.mem_filter.mpr ⟨List.mem_of_getElem? (wl_10_ok (1299, Cond.fieldLink RX9 65 "LeakyLineModel" "belowAt" "[J") (List.mem_of_getElem? (i := 99) rfl)), rfl⟩
def wl_11 : List (Nat × Cond) := [(1377, Cond.arrayClass (.boolean)), (1378, Cond.methodLink "LeakyLineLaw" 356 yX9_row), (1379, Cond.instanceMethod yX9_row), (1380, Cond.selects RX9 yX9_row yX9_row), (1381, Cond.code yX9_row cX9_row 5 (some .int)), (1382, Cond.methodLink RX9 77 yX9_isSlot), (1383, Cond.static yX9_isSlot), (1384, Cond.code yX9_isSlot cX9_isSlot 1 (some .boolean)), (1385, Cond.constantLong RX9 71 3), (1386, Cond.methodLink RX9 73 yX9_in), (1387, Cond.static yX9_in), (1388, Cond.code yX9_in cX9_in 6 (some .boolean)), (1389, Cond.methodLink "LeakyLineLaw" 363 yX9_write), (1390, Cond.instanceMethod yX9_write), (1391, Cond.selects RX9 yX9_write yX9_write), (1392, Cond.code yX9_write cX9_write 5 (some .int)), (1393, Cond.methodLink RX9 81 yX9_cut), (1394, Cond.static yX9_cut), (1395, Cond.code yX9_cut cX9_cut 3 (some .long)), (1396, Cond.methodLink "LeakyLineLaw" 367 yX9_paste), (1397, Cond.instanceMethod yX9_paste), (1398, Cond.selects RX9 yX9_paste yX9_paste), (1399, Cond.code yX9_paste cX9_paste 7 (some .int)), (1400, Cond.methodLink "LeakyLineLaw" 17 yX9_feed), (1401, Cond.instanceMethod yX9_feed), (1402, Cond.selects RX9 yX9_feed yX9_feed), (1403, Cond.code yX9_feed cX9_feed 6 (some .int)), (1404, Cond.methodLink RX9 88 yX9_four), (1406, Cond.instanceMethod yX9_four), (1407, Cond.code yX9_four cX9_four 3 none), (1408, Cond.methodLink "LeakyLineLaw" 22 yX9_end), (1409, Cond.instanceMethod yX9_end), (1410, Cond.selects RX9 yX9_end yX9_end), (1411, Cond.code yX9_end cX9_end 2 (some .int)), (1412, Cond.methodLink "LeakyLineLaw" 31 yX9_fault), (1413, Cond.instanceMethod yX9_fault), (1414, Cond.selects RX9 yX9_fault yX9_fault), (1415, Cond.code yX9_fault cX9_fault 2 (some .int)), (1416, Cond.methodLink "LeakyLineLaw" 27 yX9_wire), (1417, Cond.instanceMethod yX9_wire), (1418, Cond.selects RX9 yX9_wire yX9_wire), (1419, Cond.code yX9_wire cX9_wire 1 (some .int)), (1420, Cond.methodLink RX9 176 yX9_clears), (1422, Cond.instanceMethod yX9_clears), (1423, Cond.code yX9_clears cX9_clears 2 none), (1424, Cond.methodLink RX9 161 yX9_tells), (1426, Cond.instanceMethod yX9_tells), (1427, Cond.code yX9_tells cX9_tells 3 none), (1428, Cond.methodLink RX9 179 yX9_begins), (1430, Cond.instanceMethod yX9_begins), (1431, Cond.code yX9_begins cX9_begins 1 none), (1432, Cond.methodLink RX9 130 yX9_next), (1434, Cond.instanceMethod yX9_next), (1435, Cond.code yX9_next cX9_next 2 none), (1436, Cond.methodLink RX9 95 yX9_isByte), (1438, Cond.instanceMethod yX9_isByte), (1439, Cond.code yX9_isByte cX9_isByte 4 (some .boolean)), (1440, Cond.constantLong RX9 112 (-1)), (1441, Cond.constantLong RX9 114 27), (1442, Cond.constantLong RX9 116 96), (1443, Cond.constant RX9 118 100000), (1444, Cond.constant RX9 119 1000000), (1445, Cond.methodLink RX9 182 yX9_isGood), (1447, Cond.instanceMethod yX9_isGood), (1448, Cond.code yX9_isGood cX9_isGood 1 (some .boolean)), (1449, Cond.constantLong RX9 186 459761), (1450, Cond.methodLink RX9 139 yX9_asks), (1452, Cond.instanceMethod yX9_asks), (1453, Cond.code yX9_asks cX9_asks 3 none), (1454, Cond.methodLink RX9 133 yX9_takesWord), (1456, Cond.instanceMethod yX9_takesWord), (1457, Cond.code yX9_takesWord cX9_takesWord 3 (some .boolean)), (1458, Cond.methodLink RX9 126 yX9_is), (1460, Cond.instanceMethod yX9_is), (1461, Cond.code yX9_is cX9_is 3 (some .boolean)), (1462, Cond.methodLink RX9 136 yX9_fails), (1464, Cond.instanceMethod yX9_fails), (1465, Cond.code yX9_fails cX9_fails 2 none), (1466, Cond.constantLong RX9 188 80155), (1467, Cond.methodLink RX9 156 yX9_number_), (1469, Cond.instanceMethod yX9_number_), (1470, Cond.code yX9_number_ cX9_number_ 5 (some .int)), (1471, Cond.methodLink RX9 143 yX9_number), (1473, Cond.instanceMethod yX9_number), (1474, Cond.code yX9_number cX9_number 4 (some .int)), (1475, Cond.constantLong RX9 190 8798), (1476, Cond.constantLong RX9 192 298288), (1477, Cond.constantLong RX9 194 11996254), (1478, Cond.methodLink RX9 196 yX9_lineHere), (1480, Cond.instanceMethod yX9_lineHere), (1481, Cond.code yX9_lineHere cX9_lineHere 1 none), (1482, Cond.constantLong RX9 165 385682), (1483, Cond.methodLink RX9 167 yX9_isRoom), (1485, Cond.instanceMethod yX9_isRoom), (1486, Cond.code yX9_isRoom cX9_isRoom 4 (some .boolean)), (1487, Cond.methodLink RX9 150 yX9_hasRead), (1489, Cond.instanceMethod yX9_hasRead), (1490, Cond.code yX9_hasRead cX9_hasRead 2 (some .int)), (1491, Cond.methodLink RX9 171 yX9_spanLine), (1493, Cond.instanceMethod yX9_spanLine)]
set_option maxRecDepth 100000 in
theorem wl_11_ok : ∀ x ∈ wl_11, lw_tbl[x.1]? = some x.2 := by decide +kernel
set_option maxRecDepth 100000 in
theorem w_1377 : Cond.arrayClass (.boolean) ∈ lw_ok := List.mem_filter.mpr ⟨List.mem_of_getElem? (wl_11_ok (1377, Cond.arrayClass (.boolean)) (List.mem_of_getElem? (i := 0) rfl)), rfl⟩
set_option maxRecDepth 100000 in
theorem w_1378 : Cond.methodLink "LeakyLineLaw" 356 yX9_row ∈ lw_ok := List.mem_filter.mpr ⟨List.mem_of_getElem? (wl_11_ok (1378, Cond.methodLink "LeakyLineLaw" 356 yX9_row) (List.mem_of_getElem? (i := 1) rfl)), rfl⟩
set_option maxRecDepth 100000 in
theorem w_1379 : Cond.instanceMethod yX9_row ∈ lw_ok := List.mem_filter.mpr ⟨List.mem_of_getElem? (wl_11_ok (1379, Cond.instanceMethod yX9_row) (List.mem_of_getElem? (i := 2) rfl)), rfl⟩
set_option maxRecDepth 100000 in
theorem w_1380 : Cond.selects RX9 yX9_row yX9_row ∈ lw_ok := List.mem_filter.mpr ⟨List.mem_of_getElem? (wl_11_ok (1380, Cond.selects RX9 yX9_row yX9_row) (List.mem_of_getElem? (i := 3) rfl)), rfl⟩
set_option maxRecDepth 100000 in
theorem w_1381 : Cond.code yX9_row cX9_row 5 (some .int) ∈ lw_ok := List.mem_filter.mpr ⟨List.mem_of_getElem? (wl_11_ok (1381, Cond.code yX9_row cX9_row 5 (some .int)) (List.mem_of_getElem? (i := 4) rfl)), rfl⟩
set_option maxRecDepth 100000 in
theorem w_1382 : Cond.methodLink RX9 77 yX9_isSlot ∈ lw_ok := List.mem_filter.mpr ⟨List.mem_of_getElem? (wl_11_ok (1382, Cond.methodLink RX9 77 yX9_isSlot) (List.mem_of_getElem? (i := 5) rfl)), rfl⟩
set_option maxRecDepth 100000 in
theorem w_1383 : Cond.static yX9_isSlot ∈ lw_ok := List.mem_filter.mpr ⟨List.mem_of_getElem? (wl_11_ok (1383, Cond.static yX9_isSlot) (List.mem_of_getElem? (i := 6) rfl)), rfl⟩
set_option maxRecDepth 100000 in
theorem w_1384 : Cond.code yX9_isSlot cX9_isSlot 1 (some .boolean) ∈ lw_ok := List.mem_filter.mpr ⟨List.mem_of_getElem? (wl_11_ok (1384, Cond.code yX9_isSlot cX9_isSlot 1 (some .boolean)) (List.mem_of_getElem? (i := 7) rfl)), rfl⟩
set_option maxRecDepth 100000 in
theorem w_1385 : Cond.constantLong RX9 71 3 ∈ lw_ok := List.mem_filter.mpr ⟨List.mem_of_getElem? (wl_11_ok (1385, Cond.constantLong RX9 71 3) (List.mem_of_getElem? (i := 8) rfl)), rfl⟩
set_option maxRecDepth 100000 in
theorem w_1386 : Cond.methodLink RX9 73 yX9_in ∈ lw_ok := List.mem_filter.mpr ⟨List.mem_of_getElem? (wl_11_ok (1386, Cond.methodLink RX9 73 yX9_in) (List.mem_of_getElem? (i := 9) rfl)), rfl⟩
set_option maxRecDepth 100000 in
theorem w_1387 : Cond.static yX9_in ∈ lw_ok := List.mem_filter.mpr ⟨List.mem_of_getElem? (wl_11_ok (1387, Cond.static yX9_in) (List.mem_of_getElem? (i := 10) rfl)), rfl⟩
set_option maxRecDepth 100000 in
theorem w_1388 : Cond.code yX9_in cX9_in 6 (some .boolean) ∈ lw_ok := List.mem_filter.mpr ⟨List.mem_of_getElem? (wl_11_ok (1388, Cond.code yX9_in cX9_in 6 (some .boolean)) (List.mem_of_getElem? (i := 11) rfl)), rfl⟩
set_option maxRecDepth 100000 in
theorem w_1389 : Cond.methodLink "LeakyLineLaw" 363 yX9_write ∈ lw_ok := List.mem_filter.mpr ⟨List.mem_of_getElem? (wl_11_ok (1389, Cond.methodLink "LeakyLineLaw" 363 yX9_write) (List.mem_of_getElem? (i := 12) rfl)), rfl⟩
set_option maxRecDepth 100000 in
theorem w_1390 : Cond.instanceMethod yX9_write ∈ lw_ok := List.mem_filter.mpr ⟨List.mem_of_getElem? (wl_11_ok (1390, Cond.instanceMethod yX9_write) (List.mem_of_getElem? (i := 13) rfl)), rfl⟩
set_option maxRecDepth 100000 in
theorem w_1391 : Cond.selects RX9 yX9_write yX9_write ∈ lw_ok := List.mem_filter.mpr ⟨List.mem_of_getElem? (wl_11_ok (1391, Cond.selects RX9 yX9_write yX9_write) (List.mem_of_getElem? (i := 14) rfl)), rfl⟩
set_option maxRecDepth 100000 in
theorem w_1392 : Cond.code yX9_write cX9_write 5 (some .int) ∈ lw_ok := List.mem_filter.mpr ⟨List.mem_of_getElem? (wl_11_ok (1392, Cond.code yX9_write cX9_write 5 (some .int)) (List.mem_of_getElem? (i := 15) rfl)), rfl⟩
set_option maxRecDepth 100000 in
theorem w_1393 : Cond.methodLink RX9 81 yX9_cut ∈ lw_ok := List.mem_filter.mpr ⟨List.mem_of_getElem? (wl_11_ok (1393, Cond.methodLink RX9 81 yX9_cut) (List.mem_of_getElem? (i := 16) rfl)), rfl⟩
set_option maxRecDepth 100000 in
theorem w_1394 : Cond.static yX9_cut ∈ lw_ok := List.mem_filter.mpr ⟨List.mem_of_getElem? (wl_11_ok (1394, Cond.static yX9_cut) (List.mem_of_getElem? (i := 17) rfl)), rfl⟩
set_option maxRecDepth 100000 in
theorem w_1395 : Cond.code yX9_cut cX9_cut 3 (some .long) ∈ lw_ok := List.mem_filter.mpr ⟨List.mem_of_getElem? (wl_11_ok (1395, Cond.code yX9_cut cX9_cut 3 (some .long)) (List.mem_of_getElem? (i := 18) rfl)), rfl⟩
set_option maxRecDepth 100000 in
theorem w_1396 : Cond.methodLink "LeakyLineLaw" 367 yX9_paste ∈ lw_ok := List.mem_filter.mpr ⟨List.mem_of_getElem? (wl_11_ok (1396, Cond.methodLink "LeakyLineLaw" 367 yX9_paste) (List.mem_of_getElem? (i := 19) rfl)), rfl⟩
set_option maxRecDepth 100000 in
theorem w_1397 : Cond.instanceMethod yX9_paste ∈ lw_ok := List.mem_filter.mpr ⟨List.mem_of_getElem? (wl_11_ok (1397, Cond.instanceMethod yX9_paste) (List.mem_of_getElem? (i := 20) rfl)), rfl⟩
set_option maxRecDepth 100000 in
theorem w_1398 : Cond.selects RX9 yX9_paste yX9_paste ∈ lw_ok := List.mem_filter.mpr ⟨List.mem_of_getElem? (wl_11_ok (1398, Cond.selects RX9 yX9_paste yX9_paste) (List.mem_of_getElem? (i := 21) rfl)), rfl⟩
set_option maxRecDepth 100000 in
theorem w_1399 : Cond.code yX9_paste cX9_paste 7 (some .int) ∈ lw_ok := List.mem_filter.mpr ⟨List.mem_of_getElem? (wl_11_ok (1399, Cond.code yX9_paste cX9_paste 7 (some .int)) (List.mem_of_getElem? (i := 22) rfl)), rfl⟩
set_option maxRecDepth 100000 in
theorem w_1400 : Cond.methodLink "LeakyLineLaw" 17 yX9_feed ∈ lw_ok := List.mem_filter.mpr ⟨List.mem_of_getElem? (wl_11_ok (1400, Cond.methodLink "LeakyLineLaw" 17 yX9_feed) (List.mem_of_getElem? (i := 23) rfl)), rfl⟩
set_option maxRecDepth 100000 in
theorem w_1401 : Cond.instanceMethod yX9_feed ∈ lw_ok := List.mem_filter.mpr ⟨List.mem_of_getElem? (wl_11_ok (1401, Cond.instanceMethod yX9_feed) (List.mem_of_getElem? (i := 24) rfl)), rfl⟩
set_option maxRecDepth 100000 in
theorem w_1402 : Cond.selects RX9 yX9_feed yX9_feed ∈ lw_ok := List.mem_filter.mpr ⟨List.mem_of_getElem? (wl_11_ok (1402, Cond.selects RX9 yX9_feed yX9_feed) (List.mem_of_getElem? (i := 25) rfl)), rfl⟩
set_option maxRecDepth 100000 in
theorem w_1403 : Cond.code yX9_feed cX9_feed 6 (some .int) ∈ lw_ok := List.mem_filter.mpr ⟨List.mem_of_getElem? (wl_11_ok (1403, Cond.code yX9_feed cX9_feed 6 (some .int)) (List.mem_of_getElem? (i := 26) rfl)), rfl⟩
set_option maxRecDepth 100000 in
theorem w_1404 : Cond.methodLink RX9 88 yX9_four ∈ lw_ok := List.mem_filter.mpr ⟨List.mem_of_getElem? (wl_11_ok (1404, Cond.methodLink RX9 88 yX9_four) (List.mem_of_getElem? (i := 27) rfl)), rfl⟩
set_option maxRecDepth 100000 in
theorem w_1406 : Cond.instanceMethod yX9_four ∈ lw_ok := List.mem_filter.mpr ⟨List.mem_of_getElem? (wl_11_ok (1406, Cond.instanceMethod yX9_four) (List.mem_of_getElem? (i := 28) rfl)), rfl⟩
set_option maxRecDepth 100000 in
theorem w_1407 : Cond.code yX9_four cX9_four 3 none ∈ lw_ok := List.mem_filter.mpr ⟨List.mem_of_getElem? (wl_11_ok (1407, Cond.code yX9_four cX9_four 3 none) (List.mem_of_getElem? (i := 29) rfl)), rfl⟩
set_option maxRecDepth 100000 in
theorem w_1408 : Cond.methodLink "LeakyLineLaw" 22 yX9_end ∈ lw_ok := List.mem_filter.mpr ⟨List.mem_of_getElem? (wl_11_ok (1408, Cond.methodLink "LeakyLineLaw" 22 yX9_end) (List.mem_of_getElem? (i := 30) rfl)), rfl⟩
set_option maxRecDepth 100000 in
theorem w_1409 : Cond.instanceMethod yX9_end ∈ lw_ok := List.mem_filter.mpr ⟨List.mem_of_getElem? (wl_11_ok (1409, Cond.instanceMethod yX9_end) (List.mem_of_getElem? (i := 31) rfl)), rfl⟩
set_option maxRecDepth 100000 in
theorem w_1410 : Cond.selects RX9 yX9_end yX9_end ∈ lw_ok := List.mem_filter.mpr ⟨List.mem_of_getElem? (wl_11_ok (1410, Cond.selects RX9 yX9_end yX9_end) (List.mem_of_getElem? (i := 32) rfl)), rfl⟩
set_option maxRecDepth 100000 in
theorem w_1411 : Cond.code yX9_end cX9_end 2 (some .int) ∈ lw_ok := List.mem_filter.mpr ⟨List.mem_of_getElem? (wl_11_ok (1411, Cond.code yX9_end cX9_end 2 (some .int)) (List.mem_of_getElem? (i := 33) rfl)), rfl⟩
set_option maxRecDepth 100000 in
theorem w_1412 : Cond.methodLink "LeakyLineLaw" 31 yX9_fault ∈ lw_ok := List.mem_filter.mpr ⟨List.mem_of_getElem? (wl_11_ok (1412, Cond.methodLink "LeakyLineLaw" 31 yX9_fault) (List.mem_of_getElem? (i := 34) rfl)), rfl⟩
set_option maxRecDepth 100000 in
theorem w_1413 : Cond.instanceMethod yX9_fault ∈ lw_ok := List.mem_filter.mpr ⟨List.mem_of_getElem? (wl_11_ok (1413, Cond.instanceMethod yX9_fault) (List.mem_of_getElem? (i := 35) rfl)), rfl⟩
set_option maxRecDepth 100000 in
theorem w_1414 : Cond.selects RX9 yX9_fault yX9_fault ∈ lw_ok := List.mem_filter.mpr ⟨List.mem_of_getElem? (wl_11_ok (1414, Cond.selects RX9 yX9_fault yX9_fault) (List.mem_of_getElem? (i := 36) rfl)), rfl⟩
set_option maxRecDepth 100000 in
theorem w_1415 : Cond.code yX9_fault cX9_fault 2 (some .int) ∈ lw_ok := List.mem_filter.mpr ⟨List.mem_of_getElem? (wl_11_ok (1415, Cond.code yX9_fault cX9_fault 2 (some .int)) (List.mem_of_getElem? (i := 37) rfl)), rfl⟩
set_option maxRecDepth 100000 in
theorem w_1416 : Cond.methodLink "LeakyLineLaw" 27 yX9_wire ∈ lw_ok := List.mem_filter.mpr ⟨List.mem_of_getElem? (wl_11_ok (1416, Cond.methodLink "LeakyLineLaw" 27 yX9_wire) (List.mem_of_getElem? (i := 38) rfl)), rfl⟩
set_option maxRecDepth 100000 in
theorem w_1417 : Cond.instanceMethod yX9_wire ∈ lw_ok := List.mem_filter.mpr ⟨List.mem_of_getElem? (wl_11_ok (1417, Cond.instanceMethod yX9_wire) (List.mem_of_getElem? (i := 39) rfl)), rfl⟩
set_option maxRecDepth 100000 in
theorem w_1418 : Cond.selects RX9 yX9_wire yX9_wire ∈ lw_ok := List.mem_filter.mpr ⟨List.mem_of_getElem? (wl_11_ok (1418, Cond.selects RX9 yX9_wire yX9_wire) (List.mem_of_getElem? (i := 40) rfl)), rfl⟩
set_option maxRecDepth 100000 in
theorem w_1419 : Cond.code yX9_wire cX9_wire 1 (some .int) ∈ lw_ok := List.mem_filter.mpr ⟨List.mem_of_getElem? (wl_11_ok (1419, Cond.code yX9_wire cX9_wire 1 (some .int)) (List.mem_of_getElem? (i := 41) rfl)), rfl⟩
set_option maxRecDepth 100000 in
theorem w_1420 : Cond.methodLink RX9 176 yX9_clears ∈ lw_ok := List.mem_filter.mpr ⟨List.mem_of_getElem? (wl_11_ok (1420, Cond.methodLink RX9 176 yX9_clears) (List.mem_of_getElem? (i := 42) rfl)), rfl⟩
set_option maxRecDepth 100000 in
theorem w_1422 : Cond.instanceMethod yX9_clears ∈ lw_ok := List.mem_filter.mpr ⟨List.mem_of_getElem? (wl_11_ok (1422, Cond.instanceMethod yX9_clears) (List.mem_of_getElem? (i := 43) rfl)), rfl⟩
set_option maxRecDepth 100000 in
theorem w_1423 : Cond.code yX9_clears cX9_clears 2 none ∈ lw_ok := List.mem_filter.mpr ⟨List.mem_of_getElem? (wl_11_ok (1423, Cond.code yX9_clears cX9_clears 2 none) (List.mem_of_getElem? (i := 44) rfl)), rfl⟩
set_option maxRecDepth 100000 in
theorem w_1424 : Cond.methodLink RX9 161 yX9_tells ∈ lw_ok := List.mem_filter.mpr ⟨List.mem_of_getElem? (wl_11_ok (1424, Cond.methodLink RX9 161 yX9_tells) (List.mem_of_getElem? (i := 45) rfl)), rfl⟩
set_option maxRecDepth 100000 in
theorem w_1426 : Cond.instanceMethod yX9_tells ∈ lw_ok := List.mem_filter.mpr ⟨List.mem_of_getElem? (wl_11_ok (1426, Cond.instanceMethod yX9_tells) (List.mem_of_getElem? (i := 46) rfl)), rfl⟩
set_option maxRecDepth 100000 in
theorem w_1427 : Cond.code yX9_tells cX9_tells 3 none ∈ lw_ok := List.mem_filter.mpr ⟨List.mem_of_getElem? (wl_11_ok (1427, Cond.code yX9_tells cX9_tells 3 none) (List.mem_of_getElem? (i := 47) rfl)), rfl⟩
set_option maxRecDepth 100000 in
theorem w_1428 : Cond.methodLink RX9 179 yX9_begins ∈ lw_ok := List.mem_filter.mpr ⟨List.mem_of_getElem? (wl_11_ok (1428, Cond.methodLink RX9 179 yX9_begins) (List.mem_of_getElem? (i := 48) rfl)), rfl⟩
set_option maxRecDepth 100000 in
theorem w_1430 : Cond.instanceMethod yX9_begins ∈ lw_ok := List.mem_filter.mpr ⟨List.mem_of_getElem? (wl_11_ok (1430, Cond.instanceMethod yX9_begins) (List.mem_of_getElem? (i := 49) rfl)), rfl⟩
set_option maxRecDepth 100000 in
theorem w_1431 : Cond.code yX9_begins cX9_begins 1 none ∈ lw_ok := List.mem_filter.mpr ⟨List.mem_of_getElem? (wl_11_ok (1431, Cond.code yX9_begins cX9_begins 1 none) (List.mem_of_getElem? (i := 50) rfl)), rfl⟩
set_option maxRecDepth 100000 in
theorem w_1432 : Cond.methodLink RX9 130 yX9_next ∈ lw_ok := List.mem_filter.mpr ⟨List.mem_of_getElem? (wl_11_ok (1432, Cond.methodLink RX9 130 yX9_next) (List.mem_of_getElem? (i := 51) rfl)), rfl⟩
set_option maxRecDepth 100000 in
theorem w_1434 : Cond.instanceMethod yX9_next ∈ lw_ok := List.mem_filter.mpr ⟨List.mem_of_getElem? (wl_11_ok (1434, Cond.instanceMethod yX9_next) (List.mem_of_getElem? (i := 52) rfl)), rfl⟩
set_option maxRecDepth 100000 in
theorem w_1435 : Cond.code yX9_next cX9_next 2 none ∈ lw_ok := List.mem_filter.mpr ⟨List.mem_of_getElem? (wl_11_ok (1435, Cond.code yX9_next cX9_next 2 none) (List.mem_of_getElem? (i := 53) rfl)), rfl⟩
set_option maxRecDepth 100000 in
theorem w_1436 : Cond.methodLink RX9 95 yX9_isByte ∈ lw_ok := List.mem_filter.mpr ⟨List.mem_of_getElem? (wl_11_ok (1436, Cond.methodLink RX9 95 yX9_isByte) (List.mem_of_getElem? (i := 54) rfl)), rfl⟩
set_option maxRecDepth 100000 in
theorem w_1438 : Cond.instanceMethod yX9_isByte ∈ lw_ok := List.mem_filter.mpr ⟨List.mem_of_getElem? (wl_11_ok (1438, Cond.instanceMethod yX9_isByte) (List.mem_of_getElem? (i := 55) rfl)), rfl⟩
set_option maxRecDepth 100000 in
theorem w_1439 : Cond.code yX9_isByte cX9_isByte 4 (some .boolean) ∈ lw_ok := List.mem_filter.mpr ⟨List.mem_of_getElem? (wl_11_ok (1439, Cond.code yX9_isByte cX9_isByte 4 (some .boolean)) (List.mem_of_getElem? (i := 56) rfl)), rfl⟩
set_option maxRecDepth 100000 in
theorem w_1440 : Cond.constantLong RX9 112 (-1) ∈ lw_ok := List.mem_filter.mpr ⟨List.mem_of_getElem? (wl_11_ok (1440, Cond.constantLong RX9 112 (-1)) (List.mem_of_getElem? (i := 57) rfl)), rfl⟩
set_option maxRecDepth 100000 in
theorem w_1441 : Cond.constantLong RX9 114 27 ∈ lw_ok := List.mem_filter.mpr ⟨List.mem_of_getElem? (wl_11_ok (1441, Cond.constantLong RX9 114 27) (List.mem_of_getElem? (i := 58) rfl)), rfl⟩
set_option maxRecDepth 100000 in
theorem w_1442 : Cond.constantLong RX9 116 96 ∈ lw_ok := List.mem_filter.mpr ⟨List.mem_of_getElem? (wl_11_ok (1442, Cond.constantLong RX9 116 96) (List.mem_of_getElem? (i := 59) rfl)), rfl⟩
set_option maxRecDepth 100000 in
theorem w_1443 : Cond.constant RX9 118 100000 ∈ lw_ok := List.mem_filter.mpr ⟨List.mem_of_getElem? (wl_11_ok (1443, Cond.constant RX9 118 100000) (List.mem_of_getElem? (i := 60) rfl)), rfl⟩
set_option maxRecDepth 100000 in
theorem w_1444 : Cond.constant RX9 119 1000000 ∈ lw_ok := List.mem_filter.mpr ⟨List.mem_of_getElem? (wl_11_ok (1444, Cond.constant RX9 119 1000000) (List.mem_of_getElem? (i := 61) rfl)), rfl⟩
set_option maxRecDepth 100000 in
theorem w_1445 : Cond.methodLink RX9 182 yX9_isGood ∈ lw_ok := List.mem_filter.mpr ⟨List.mem_of_getElem? (wl_11_ok (1445, Cond.methodLink RX9 182 yX9_isGood) (List.mem_of_getElem? (i := 62) rfl)), rfl⟩
set_option maxRecDepth 100000 in
theorem w_1447 : Cond.instanceMethod yX9_isGood ∈ lw_ok := List.mem_filter.mpr ⟨List.mem_of_getElem? (wl_11_ok (1447, Cond.instanceMethod yX9_isGood) (List.mem_of_getElem? (i := 63) rfl)), rfl⟩
set_option maxRecDepth 100000 in
theorem w_1448 : Cond.code yX9_isGood cX9_isGood 1 (some .boolean) ∈ lw_ok := List.mem_filter.mpr ⟨List.mem_of_getElem? (wl_11_ok (1448, Cond.code yX9_isGood cX9_isGood 1 (some .boolean)) (List.mem_of_getElem? (i := 64) rfl)), rfl⟩
set_option maxRecDepth 100000 in
theorem w_1449 : Cond.constantLong RX9 186 459761 ∈ lw_ok := List.mem_filter.mpr ⟨List.mem_of_getElem? (wl_11_ok (1449, Cond.constantLong RX9 186 459761) (List.mem_of_getElem? (i := 65) rfl)), rfl⟩
set_option maxRecDepth 100000 in
theorem w_1450 : Cond.methodLink RX9 139 yX9_asks ∈ lw_ok := List.mem_filter.mpr ⟨List.mem_of_getElem? (wl_11_ok (1450, Cond.methodLink RX9 139 yX9_asks) (List.mem_of_getElem? (i := 66) rfl)), rfl⟩
set_option maxRecDepth 100000 in
theorem w_1452 : Cond.instanceMethod yX9_asks ∈ lw_ok := List.mem_filter.mpr ⟨List.mem_of_getElem? (wl_11_ok (1452, Cond.instanceMethod yX9_asks) (List.mem_of_getElem? (i := 67) rfl)), rfl⟩
set_option maxRecDepth 100000 in
theorem w_1453 : Cond.code yX9_asks cX9_asks 3 none ∈ lw_ok := List.mem_filter.mpr ⟨List.mem_of_getElem? (wl_11_ok (1453, Cond.code yX9_asks cX9_asks 3 none) (List.mem_of_getElem? (i := 68) rfl)), rfl⟩
set_option maxRecDepth 100000 in
theorem w_1454 : Cond.methodLink RX9 133 yX9_takesWord ∈ lw_ok := List.mem_filter.mpr ⟨List.mem_of_getElem? (wl_11_ok (1454, Cond.methodLink RX9 133 yX9_takesWord) (List.mem_of_getElem? (i := 69) rfl)), rfl⟩
set_option maxRecDepth 100000 in
theorem w_1456 : Cond.instanceMethod yX9_takesWord ∈ lw_ok := List.mem_filter.mpr ⟨List.mem_of_getElem? (wl_11_ok (1456, Cond.instanceMethod yX9_takesWord) (List.mem_of_getElem? (i := 70) rfl)), rfl⟩
set_option maxRecDepth 100000 in
theorem w_1457 : Cond.code yX9_takesWord cX9_takesWord 3 (some .boolean) ∈ lw_ok := List.mem_filter.mpr ⟨List.mem_of_getElem? (wl_11_ok (1457, Cond.code yX9_takesWord cX9_takesWord 3 (some .boolean)) (List.mem_of_getElem? (i := 71) rfl)), rfl⟩
set_option maxRecDepth 100000 in
theorem w_1458 : Cond.methodLink RX9 126 yX9_is ∈ lw_ok := List.mem_filter.mpr ⟨List.mem_of_getElem? (wl_11_ok (1458, Cond.methodLink RX9 126 yX9_is) (List.mem_of_getElem? (i := 72) rfl)), rfl⟩
set_option maxRecDepth 100000 in
theorem w_1460 : Cond.instanceMethod yX9_is ∈ lw_ok := List.mem_filter.mpr ⟨List.mem_of_getElem? (wl_11_ok (1460, Cond.instanceMethod yX9_is) (List.mem_of_getElem? (i := 73) rfl)), rfl⟩
set_option maxRecDepth 100000 in
theorem w_1461 : Cond.code yX9_is cX9_is 3 (some .boolean) ∈ lw_ok := List.mem_filter.mpr ⟨List.mem_of_getElem? (wl_11_ok (1461, Cond.code yX9_is cX9_is 3 (some .boolean)) (List.mem_of_getElem? (i := 74) rfl)), rfl⟩
set_option maxRecDepth 100000 in
theorem w_1462 : Cond.methodLink RX9 136 yX9_fails ∈ lw_ok := List.mem_filter.mpr ⟨List.mem_of_getElem? (wl_11_ok (1462, Cond.methodLink RX9 136 yX9_fails) (List.mem_of_getElem? (i := 75) rfl)), rfl⟩
set_option maxRecDepth 100000 in
theorem w_1464 : Cond.instanceMethod yX9_fails ∈ lw_ok := List.mem_filter.mpr ⟨List.mem_of_getElem? (wl_11_ok (1464, Cond.instanceMethod yX9_fails) (List.mem_of_getElem? (i := 76) rfl)), rfl⟩
set_option maxRecDepth 100000 in
theorem w_1465 : Cond.code yX9_fails cX9_fails 2 none ∈ lw_ok := List.mem_filter.mpr ⟨List.mem_of_getElem? (wl_11_ok (1465, Cond.code yX9_fails cX9_fails 2 none) (List.mem_of_getElem? (i := 77) rfl)), rfl⟩
set_option maxRecDepth 100000 in
theorem w_1466 : Cond.constantLong RX9 188 80155 ∈ lw_ok := List.mem_filter.mpr ⟨List.mem_of_getElem? (wl_11_ok (1466, Cond.constantLong RX9 188 80155) (List.mem_of_getElem? (i := 78) rfl)), rfl⟩
set_option maxRecDepth 100000 in
theorem w_1467 : Cond.methodLink RX9 156 yX9_number_ ∈ lw_ok := List.mem_filter.mpr ⟨List.mem_of_getElem? (wl_11_ok (1467, Cond.methodLink RX9 156 yX9_number_) (List.mem_of_getElem? (i := 79) rfl)), rfl⟩
set_option maxRecDepth 100000 in
theorem w_1469 : Cond.instanceMethod yX9_number_ ∈ lw_ok := List.mem_filter.mpr ⟨List.mem_of_getElem? (wl_11_ok (1469, Cond.instanceMethod yX9_number_) (List.mem_of_getElem? (i := 80) rfl)), rfl⟩
set_option maxRecDepth 100000 in
theorem w_1470 : Cond.code yX9_number_ cX9_number_ 5 (some .int) ∈ lw_ok := List.mem_filter.mpr ⟨List.mem_of_getElem? (wl_11_ok (1470, Cond.code yX9_number_ cX9_number_ 5 (some .int)) (List.mem_of_getElem? (i := 81) rfl)), rfl⟩
set_option maxRecDepth 100000 in
theorem w_1471 : Cond.methodLink RX9 143 yX9_number ∈ lw_ok := List.mem_filter.mpr ⟨List.mem_of_getElem? (wl_11_ok (1471, Cond.methodLink RX9 143 yX9_number) (List.mem_of_getElem? (i := 82) rfl)), rfl⟩
set_option maxRecDepth 100000 in
theorem w_1473 : Cond.instanceMethod yX9_number ∈ lw_ok := List.mem_filter.mpr ⟨List.mem_of_getElem? (wl_11_ok (1473, Cond.instanceMethod yX9_number) (List.mem_of_getElem? (i := 83) rfl)), rfl⟩
set_option maxRecDepth 100000 in
theorem w_1474 : Cond.code yX9_number cX9_number 4 (some .int) ∈ lw_ok := List.mem_filter.mpr ⟨List.mem_of_getElem? (wl_11_ok (1474, Cond.code yX9_number cX9_number 4 (some .int)) (List.mem_of_getElem? (i := 84) rfl)), rfl⟩
set_option maxRecDepth 100000 in
theorem w_1475 : Cond.constantLong RX9 190 8798 ∈ lw_ok := List.mem_filter.mpr ⟨List.mem_of_getElem? (wl_11_ok (1475, Cond.constantLong RX9 190 8798) (List.mem_of_getElem? (i := 85) rfl)), rfl⟩
set_option maxRecDepth 100000 in
theorem w_1476 : Cond.constantLong RX9 192 298288 ∈ lw_ok := List.mem_filter.mpr ⟨List.mem_of_getElem? (wl_11_ok (1476, Cond.constantLong RX9 192 298288) (List.mem_of_getElem? (i := 86) rfl)), rfl⟩
set_option maxRecDepth 100000 in
theorem w_1477 : Cond.constantLong RX9 194 11996254 ∈ lw_ok := List.mem_filter.mpr ⟨List.mem_of_getElem? (wl_11_ok (1477, Cond.constantLong RX9 194 11996254) (List.mem_of_getElem? (i := 87) rfl)), rfl⟩
set_option maxRecDepth 100000 in
theorem w_1478 : Cond.methodLink RX9 196 yX9_lineHere ∈ lw_ok := List.mem_filter.mpr ⟨List.mem_of_getElem? (wl_11_ok (1478, Cond.methodLink RX9 196 yX9_lineHere) (List.mem_of_getElem? (i := 88) rfl)), rfl⟩
set_option maxRecDepth 100000 in
theorem w_1480 : Cond.instanceMethod yX9_lineHere ∈ lw_ok := List.mem_filter.mpr ⟨List.mem_of_getElem? (wl_11_ok (1480, Cond.instanceMethod yX9_lineHere) (List.mem_of_getElem? (i := 89) rfl)), rfl⟩
set_option maxRecDepth 100000 in
theorem w_1481 : Cond.code yX9_lineHere cX9_lineHere 1 none ∈ lw_ok := List.mem_filter.mpr ⟨List.mem_of_getElem? (wl_11_ok (1481, Cond.code yX9_lineHere cX9_lineHere 1 none) (List.mem_of_getElem? (i := 90) rfl)), rfl⟩
set_option maxRecDepth 100000 in
theorem w_1482 : Cond.constantLong RX9 165 385682 ∈ lw_ok := List.mem_filter.mpr ⟨List.mem_of_getElem? (wl_11_ok (1482, Cond.constantLong RX9 165 385682) (List.mem_of_getElem? (i := 91) rfl)), rfl⟩
set_option maxRecDepth 100000 in
theorem w_1483 : Cond.methodLink RX9 167 yX9_isRoom ∈ lw_ok := List.mem_filter.mpr ⟨List.mem_of_getElem? (wl_11_ok (1483, Cond.methodLink RX9 167 yX9_isRoom) (List.mem_of_getElem? (i := 92) rfl)), rfl⟩
set_option maxRecDepth 100000 in
theorem w_1485 : Cond.instanceMethod yX9_isRoom ∈ lw_ok := List.mem_filter.mpr ⟨List.mem_of_getElem? (wl_11_ok (1485, Cond.instanceMethod yX9_isRoom) (List.mem_of_getElem? (i := 93) rfl)), rfl⟩
set_option maxRecDepth 100000 in
theorem w_1486 : Cond.code yX9_isRoom cX9_isRoom 4 (some .boolean) ∈ lw_ok := List.mem_filter.mpr ⟨List.mem_of_getElem? (wl_11_ok (1486, Cond.code yX9_isRoom cX9_isRoom 4 (some .boolean)) (List.mem_of_getElem? (i := 94) rfl)), rfl⟩
set_option maxRecDepth 100000 in
theorem w_1487 : Cond.methodLink RX9 150 yX9_hasRead ∈ lw_ok := List.mem_filter.mpr ⟨List.mem_of_getElem? (wl_11_ok (1487, Cond.methodLink RX9 150 yX9_hasRead) (List.mem_of_getElem? (i := 95) rfl)), rfl⟩
set_option maxRecDepth 100000 in
theorem w_1489 : Cond.instanceMethod yX9_hasRead ∈ lw_ok := List.mem_filter.mpr ⟨List.mem_of_getElem? (wl_11_ok (1489, Cond.instanceMethod yX9_hasRead) (List.mem_of_getElem? (i := 96) rfl)), rfl⟩
set_option maxRecDepth 100000 in
theorem w_1490 : Cond.code yX9_hasRead cX9_hasRead 2 (some .int) ∈ lw_ok := List.mem_filter.mpr ⟨List.mem_of_getElem? (wl_11_ok (1490, Cond.code yX9_hasRead cX9_hasRead 2 (some .int)) (List.mem_of_getElem? (i := 97) rfl)), rfl⟩
set_option maxRecDepth 100000 in
theorem w_1491 : Cond.methodLink RX9 171 yX9_spanLine ∈ lw_ok := List.mem_filter.mpr ⟨List.mem_of_getElem? (wl_11_ok (1491, Cond.methodLink RX9 171 yX9_spanLine) (List.mem_of_getElem? (i := 98) rfl)), rfl⟩
set_option maxRecDepth 100000 in
theorem w_1493 : Cond.instanceMethod yX9_spanLine ∈ lw_ok := List.mem_filter.mpr ⟨List.mem_of_getElem? (wl_11_ok (1493, Cond.instanceMethod yX9_spanLine) (List.mem_of_getElem? (i := 99) rfl)), rfl⟩
def wl_12 : List (Nat × Cond) := [(1494, Cond.code yX9_spanLine cX9_spanLine 2 none), (1495, Cond.constantLong RX9 154 239879), (1496, Cond.constantLong RX9 159 7542361), (1497, Cond.constantLong RX9 174 16922), (1498, Cond.methodLink RX9 199 yX9_closes), (1500, Cond.instanceMethod yX9_closes), (1501, Cond.code yX9_closes cX9_closes 1 none), (1502, Cond.methodLink RX9 202 yX9_isOver), (1504, Cond.instanceMethod yX9_isOver), (1505, Cond.code yX9_isOver cX9_isOver 1 none), (1506, Cond.methodLink RX9 205 yX9_copyWire), (1508, Cond.instanceMethod yX9_copyWire), (1509, Cond.code yX9_copyWire cX9_copyWire 3 none), (1510, Cond.methodLink RX9 208 yX9_copyRow), (1511, Cond.static yX9_copyRow), (1512, Cond.code yX9_copyRow cX9_copyRow 5 none), (1513, Cond.methodLink "LeakyLineLaw" 36 yX9_span), (1514, Cond.instanceMethod yX9_span), (1515, Cond.selects RX9 yX9_span yX9_span), (1516, Cond.code yX9_span cX9_span 3 (some .int)), (1517, Cond.methodLink RX9 216 yX9_isSpan), (1519, Cond.instanceMethod yX9_isSpan), (1520, Cond.code yX9_isSpan cX9_isSpan 2 (some .boolean)), (1521, Cond.methodLink RX9 212 yX9_spans), (1523, Cond.instanceMethod yX9_spans), (1524, Cond.code yX9_spans cX9_spans 1 (some .int)), (1525, Cond.constantLong RX9 281 2), (1526, Cond.methodLink "LeakyLineLaw" 40 yX9_stations), (1527, Cond.instanceMethod yX9_stations), (1528, Cond.selects RX9 yX9_stations yX9_stations), (1529, Cond.code yX9_stations cX9_stations 1 (some .int)), (1530, Cond.methodLink RX9 219 yX9_isWire), (1532, Cond.instanceMethod yX9_isWire), (1533, Cond.code yX9_isWire cX9_isWire 1 (some .boolean)), (1534, Cond.methodLink RX9 283 yX9_stationsAll), (1536, Cond.instanceMethod yX9_stationsAll), (1537, Cond.code yX9_stationsAll cX9_stationsAll 3 (some .int)), (1538, Cond.methodLink RX9 268 yX9_isStation), (1540, Cond.instanceMethod yX9_isStation), (1541, Cond.code yX9_isStation cX9_isStation 2 (some .boolean)), (1542, Cond.methodLink "LeakyLineLaw" 44 yX9_wets), (1543, Cond.instanceMethod yX9_wets), (1544, Cond.selects RX9 yX9_wets yX9_wets), (1545, Cond.code yX9_wets cX9_wets 1 (some .int)), (1546, Cond.methodLink RX9 286 yX9_lays), (1548, Cond.instanceMethod yX9_lays), (1549, Cond.code yX9_lays cX9_lays 2 none), (1550, Cond.methodLink RX9 222 yX9_days), (1552, Cond.instanceMethod yX9_days), (1553, Cond.code yX9_days cX9_days 1 (some .int)), (1554, Cond.methodLink "LeakyLineLaw" 48 yX9_leak), (1555, Cond.instanceMethod yX9_leak), (1556, Cond.selects RX9 yX9_leak yX9_leak), (1557, Cond.code yX9_leak cX9_leak 3 (some .int)), (1558, Cond.methodLink RX9 289 yX9_isDay), (1560, Cond.instanceMethod yX9_isDay), (1561, Cond.code yX9_isDay cX9_isDay 3 (some .boolean)), (1562, Cond.methodLink RX9 256 yX9_leakOf), (1564, Cond.instanceMethod yX9_leakOf), (1565, Cond.code yX9_leakOf cX9_leakOf 7 (some .int)), (1566, Cond.methodLink RX9 247 yX9_cupOf), (1568, Cond.instanceMethod yX9_cupOf), (1569, Cond.code yX9_cupOf cX9_cupOf 5 (some .int)), (1570, Cond.methodLink RX9 240 yX9_isBit), (1571, Cond.static yX9_isBit), (1572, Cond.code yX9_isBit cX9_isBit 2 (some .boolean)), (1573, Cond.methodLink RX9 244 yX9_moreOf), (1574, Cond.static yX9_moreOf), (1575, Cond.code yX9_moreOf cX9_moreOf 2 (some .int)), (1576, Cond.methodLink "LeakyLineLaw" 52 yX9_joined), (1577, Cond.instanceMethod yX9_joined), (1578, Cond.selects RX9 yX9_joined yX9_joined), (1579, Cond.code yX9_joined cX9_joined 2 (some .int)), (1580, Cond.methodLink RX9 262 yX9_laysDay), (1582, Cond.instanceMethod yX9_laysDay), (1583, Cond.code yX9_laysDay cX9_laysDay 7 none), (1584, Cond.methodLink RX9 253 yX9_isBroken), (1586, Cond.instanceMethod yX9_isBroken), (1587, Cond.code yX9_isBroken cX9_isBroken 4 (some .boolean)), (1588, Cond.methodLink "LeakyLineLaw" 57 yX9_ohms), (1589, Cond.instanceMethod yX9_ohms), (1590, Cond.selects RX9 yX9_ohms yX9_ohms), (1591, Cond.code yX9_ohms cX9_ohms 3 (some .long)), (1592, Cond.methodLink RX9 292 yX9_isHalf), (1593, Cond.static yX9_isHalf), (1594, Cond.code yX9_isHalf cX9_isHalf 1 (some .boolean)), (1595, Cond.constantLong RX9 295 (-2)), (1596, Cond.methodLink RX9 297 yX9_partOf), (1597, Cond.static yX9_partOf), (1598, Cond.code yX9_partOf cX9_partOf 5 (some .long)), (1599, Cond.methodLink RX9 277 yX9_common), (1600, Cond.static yX9_common), (1601, Cond.code yX9_common cX9_common 4 (some .long)), (1602, Cond.methodLink "LeakyLineLaw" 61 yX9_amps), (1603, Cond.instanceMethod yX9_amps), (1604, Cond.selects RX9 yX9_amps yX9_amps), (1605, Cond.code yX9_amps cX9_amps 3 (some .long)), (1606, Cond.methodLink "LeakyLineLaw" 66 yX9_volts), (1607, Cond.instanceMethod yX9_volts), (1608, Cond.selects RX9 yX9_volts yX9_volts)]
set_option maxRecDepth 100000 in
theorem wl_12_ok : ∀ x ∈ wl_12, lw_tbl[x.1]? = some x.2 := by decide +kernel
set_option maxRecDepth 100000 in
theorem w_1494 : Cond.code yX9_spanLine cX9_spanLine 2 none ∈ lw_ok := List.mem_filter.mpr ⟨List.mem_of_getElem? (wl_12_ok (1494, Cond.code yX9_spanLine cX9_spanLine 2 none) (List.mem_of_getElem? (i := 0) rfl)), rfl⟩
set_option maxRecDepth 100000 in
theorem w_1495 : Cond.constantLong RX9 154 239879 ∈ lw_ok := List.mem_filter.mpr ⟨List.mem_of_getElem? (wl_12_ok (1495, Cond.constantLong RX9 154 239879) (List.mem_of_getElem? (i := 1) rfl)), rfl⟩
set_option maxRecDepth 100000 in
theorem w_1496 : Cond.constantLong RX9 159 7542361 ∈ lw_ok := List.mem_filter.mpr ⟨List.mem_of_getElem? (wl_12_ok (1496, Cond.constantLong RX9 159 7542361) (List.mem_of_getElem? (i := 2) rfl)), rfl⟩
set_option maxRecDepth 100000 in
theorem w_1497 : Cond.constantLong RX9 174 16922 ∈ lw_ok := List.mem_filter.mpr ⟨List.mem_of_getElem? (wl_12_ok (1497, Cond.constantLong RX9 174 16922) (List.mem_of_getElem? (i := 3) rfl)), rfl⟩
set_option maxRecDepth 100000 in
theorem w_1498 : Cond.methodLink RX9 199 yX9_closes ∈ lw_ok := List.mem_filter.mpr ⟨List.mem_of_getElem? (wl_12_ok (1498, Cond.methodLink RX9 199 yX9_closes) (List.mem_of_getElem? (i := 4) rfl)), rfl⟩
set_option maxRecDepth 100000 in
theorem w_1500 : Cond.instanceMethod yX9_closes ∈ lw_ok := List.mem_filter.mpr ⟨List.mem_of_getElem? (wl_12_ok (1500, Cond.instanceMethod yX9_closes) (List.mem_of_getElem? (i := 5) rfl)), rfl⟩
set_option maxRecDepth 100000 in
theorem w_1501 : Cond.code yX9_closes cX9_closes 1 none ∈ lw_ok := List.mem_filter.mpr ⟨List.mem_of_getElem? (wl_12_ok (1501, Cond.code yX9_closes cX9_closes 1 none) (List.mem_of_getElem? (i := 6) rfl)), rfl⟩
set_option maxRecDepth 100000 in
theorem w_1502 : Cond.methodLink RX9 202 yX9_isOver ∈ lw_ok := List.mem_filter.mpr ⟨List.mem_of_getElem? (wl_12_ok (1502, Cond.methodLink RX9 202 yX9_isOver) (List.mem_of_getElem? (i := 7) rfl)), rfl⟩
set_option maxRecDepth 100000 in
theorem w_1504 : Cond.instanceMethod yX9_isOver ∈ lw_ok := List.mem_filter.mpr ⟨List.mem_of_getElem? (wl_12_ok (1504, Cond.instanceMethod yX9_isOver) (List.mem_of_getElem? (i := 8) rfl)), rfl⟩
set_option maxRecDepth 100000 in
theorem w_1505 : Cond.code yX9_isOver cX9_isOver 1 none ∈ lw_ok := List.mem_filter.mpr ⟨List.mem_of_getElem? (wl_12_ok (1505, Cond.code yX9_isOver cX9_isOver 1 none) (List.mem_of_getElem? (i := 9) rfl)), rfl⟩
set_option maxRecDepth 100000 in
theorem w_1506 : Cond.methodLink RX9 205 yX9_copyWire ∈ lw_ok := List.mem_filter.mpr ⟨List.mem_of_getElem? (wl_12_ok (1506, Cond.methodLink RX9 205 yX9_copyWire) (List.mem_of_getElem? (i := 10) rfl)), rfl⟩
set_option maxRecDepth 100000 in
theorem w_1508 : Cond.instanceMethod yX9_copyWire ∈ lw_ok := List.mem_filter.mpr ⟨List.mem_of_getElem? (wl_12_ok (1508, Cond.instanceMethod yX9_copyWire) (List.mem_of_getElem? (i := 11) rfl)), rfl⟩
set_option maxRecDepth 100000 in
theorem w_1509 : Cond.code yX9_copyWire cX9_copyWire 3 none ∈ lw_ok := List.mem_filter.mpr ⟨List.mem_of_getElem? (wl_12_ok (1509, Cond.code yX9_copyWire cX9_copyWire 3 none) (List.mem_of_getElem? (i := 12) rfl)), rfl⟩
set_option maxRecDepth 100000 in
theorem w_1510 : Cond.methodLink RX9 208 yX9_copyRow ∈ lw_ok := List.mem_filter.mpr ⟨List.mem_of_getElem? (wl_12_ok (1510, Cond.methodLink RX9 208 yX9_copyRow) (List.mem_of_getElem? (i := 13) rfl)), rfl⟩
set_option maxRecDepth 100000 in
theorem w_1511 : Cond.static yX9_copyRow ∈ lw_ok := List.mem_filter.mpr ⟨List.mem_of_getElem? (wl_12_ok (1511, Cond.static yX9_copyRow) (List.mem_of_getElem? (i := 14) rfl)), rfl⟩
set_option maxRecDepth 100000 in
theorem w_1512 : Cond.code yX9_copyRow cX9_copyRow 5 none ∈ lw_ok := List.mem_filter.mpr ⟨List.mem_of_getElem? (wl_12_ok (1512, Cond.code yX9_copyRow cX9_copyRow 5 none) (List.mem_of_getElem? (i := 15) rfl)), rfl⟩
set_option maxRecDepth 100000 in
theorem w_1513 : Cond.methodLink "LeakyLineLaw" 36 yX9_span ∈ lw_ok := List.mem_filter.mpr ⟨List.mem_of_getElem? (wl_12_ok (1513, Cond.methodLink "LeakyLineLaw" 36 yX9_span) (List.mem_of_getElem? (i := 16) rfl)), rfl⟩
set_option maxRecDepth 100000 in
theorem w_1514 : Cond.instanceMethod yX9_span ∈ lw_ok := List.mem_filter.mpr ⟨List.mem_of_getElem? (wl_12_ok (1514, Cond.instanceMethod yX9_span) (List.mem_of_getElem? (i := 17) rfl)), rfl⟩
set_option maxRecDepth 100000 in
theorem w_1515 : Cond.selects RX9 yX9_span yX9_span ∈ lw_ok := List.mem_filter.mpr ⟨List.mem_of_getElem? (wl_12_ok (1515, Cond.selects RX9 yX9_span yX9_span) (List.mem_of_getElem? (i := 18) rfl)), rfl⟩
set_option maxRecDepth 100000 in
theorem w_1516 : Cond.code yX9_span cX9_span 3 (some .int) ∈ lw_ok := List.mem_filter.mpr ⟨List.mem_of_getElem? (wl_12_ok (1516, Cond.code yX9_span cX9_span 3 (some .int)) (List.mem_of_getElem? (i := 19) rfl)), rfl⟩
set_option maxRecDepth 100000 in
theorem w_1517 : Cond.methodLink RX9 216 yX9_isSpan ∈ lw_ok := List.mem_filter.mpr ⟨List.mem_of_getElem? (wl_12_ok (1517, Cond.methodLink RX9 216 yX9_isSpan) (List.mem_of_getElem? (i := 20) rfl)), rfl⟩
set_option maxRecDepth 100000 in
theorem w_1519 : Cond.instanceMethod yX9_isSpan ∈ lw_ok := List.mem_filter.mpr ⟨List.mem_of_getElem? (wl_12_ok (1519, Cond.instanceMethod yX9_isSpan) (List.mem_of_getElem? (i := 21) rfl)), rfl⟩
set_option maxRecDepth 100000 in
theorem w_1520 : Cond.code yX9_isSpan cX9_isSpan 2 (some .boolean) ∈ lw_ok := List.mem_filter.mpr ⟨List.mem_of_getElem? (wl_12_ok (1520, Cond.code yX9_isSpan cX9_isSpan 2 (some .boolean)) (List.mem_of_getElem? (i := 22) rfl)), rfl⟩
set_option maxRecDepth 100000 in
theorem w_1521 : Cond.methodLink RX9 212 yX9_spans ∈ lw_ok := List.mem_filter.mpr ⟨List.mem_of_getElem? (wl_12_ok (1521, Cond.methodLink RX9 212 yX9_spans) (List.mem_of_getElem? (i := 23) rfl)), rfl⟩
set_option maxRecDepth 100000 in
theorem w_1523 : Cond.instanceMethod yX9_spans ∈ lw_ok := List.mem_filter.mpr ⟨List.mem_of_getElem? (wl_12_ok (1523, Cond.instanceMethod yX9_spans) (List.mem_of_getElem? (i := 24) rfl)), rfl⟩
set_option maxRecDepth 100000 in
theorem w_1524 : Cond.code yX9_spans cX9_spans 1 (some .int) ∈ lw_ok := List.mem_filter.mpr ⟨List.mem_of_getElem? (wl_12_ok (1524, Cond.code yX9_spans cX9_spans 1 (some .int)) (List.mem_of_getElem? (i := 25) rfl)), rfl⟩
set_option maxRecDepth 100000 in
theorem w_1525 : Cond.constantLong RX9 281 2 ∈ lw_ok := List.mem_filter.mpr ⟨List.mem_of_getElem? (wl_12_ok (1525, Cond.constantLong RX9 281 2) (List.mem_of_getElem? (i := 26) rfl)), rfl⟩
set_option maxRecDepth 100000 in
theorem w_1526 : Cond.methodLink "LeakyLineLaw" 40 yX9_stations ∈ lw_ok := List.mem_filter.mpr ⟨List.mem_of_getElem? (wl_12_ok (1526, Cond.methodLink "LeakyLineLaw" 40 yX9_stations) (List.mem_of_getElem? (i := 27) rfl)), rfl⟩
set_option maxRecDepth 100000 in
theorem w_1527 : Cond.instanceMethod yX9_stations ∈ lw_ok := List.mem_filter.mpr ⟨List.mem_of_getElem? (wl_12_ok (1527, Cond.instanceMethod yX9_stations) (List.mem_of_getElem? (i := 28) rfl)), rfl⟩
set_option maxRecDepth 100000 in
theorem w_1528 : Cond.selects RX9 yX9_stations yX9_stations ∈ lw_ok := List.mem_filter.mpr ⟨List.mem_of_getElem? (wl_12_ok (1528, Cond.selects RX9 yX9_stations yX9_stations) (List.mem_of_getElem? (i := 29) rfl)), rfl⟩
set_option maxRecDepth 100000 in
theorem w_1529 : Cond.code yX9_stations cX9_stations 1 (some .int) ∈ lw_ok := List.mem_filter.mpr ⟨List.mem_of_getElem? (wl_12_ok (1529, Cond.code yX9_stations cX9_stations 1 (some .int)) (List.mem_of_getElem? (i := 30) rfl)), rfl⟩
set_option maxRecDepth 100000 in
theorem w_1530 : Cond.methodLink RX9 219 yX9_isWire ∈ lw_ok := List.mem_filter.mpr ⟨List.mem_of_getElem? (wl_12_ok (1530, Cond.methodLink RX9 219 yX9_isWire) (List.mem_of_getElem? (i := 31) rfl)), rfl⟩
set_option maxRecDepth 100000 in
theorem w_1532 : Cond.instanceMethod yX9_isWire ∈ lw_ok := List.mem_filter.mpr ⟨List.mem_of_getElem? (wl_12_ok (1532, Cond.instanceMethod yX9_isWire) (List.mem_of_getElem? (i := 32) rfl)), rfl⟩
set_option maxRecDepth 100000 in
theorem w_1533 : Cond.code yX9_isWire cX9_isWire 1 (some .boolean) ∈ lw_ok := List.mem_filter.mpr ⟨List.mem_of_getElem? (wl_12_ok (1533, Cond.code yX9_isWire cX9_isWire 1 (some .boolean)) (List.mem_of_getElem? (i := 33) rfl)), rfl⟩
set_option maxRecDepth 100000 in
theorem w_1534 : Cond.methodLink RX9 283 yX9_stationsAll ∈ lw_ok := List.mem_filter.mpr ⟨List.mem_of_getElem? (wl_12_ok (1534, Cond.methodLink RX9 283 yX9_stationsAll) (List.mem_of_getElem? (i := 34) rfl)), rfl⟩
set_option maxRecDepth 100000 in
theorem w_1536 : Cond.instanceMethod yX9_stationsAll ∈ lw_ok := List.mem_filter.mpr ⟨List.mem_of_getElem? (wl_12_ok (1536, Cond.instanceMethod yX9_stationsAll) (List.mem_of_getElem? (i := 35) rfl)), rfl⟩
set_option maxRecDepth 100000 in
theorem w_1537 : Cond.code yX9_stationsAll cX9_stationsAll 3 (some .int) ∈ lw_ok := List.mem_filter.mpr ⟨List.mem_of_getElem? (wl_12_ok (1537, Cond.code yX9_stationsAll cX9_stationsAll 3 (some .int)) (List.mem_of_getElem? (i := 36) rfl)), rfl⟩
set_option maxRecDepth 100000 in
theorem w_1538 : Cond.methodLink RX9 268 yX9_isStation ∈ lw_ok := List.mem_filter.mpr ⟨List.mem_of_getElem? (wl_12_ok (1538, Cond.methodLink RX9 268 yX9_isStation) (List.mem_of_getElem? (i := 37) rfl)), rfl⟩
set_option maxRecDepth 100000 in
theorem w_1540 : Cond.instanceMethod yX9_isStation ∈ lw_ok := List.mem_filter.mpr ⟨List.mem_of_getElem? (wl_12_ok (1540, Cond.instanceMethod yX9_isStation) (List.mem_of_getElem? (i := 38) rfl)), rfl⟩
set_option maxRecDepth 100000 in
theorem w_1541 : Cond.code yX9_isStation cX9_isStation 2 (some .boolean) ∈ lw_ok := List.mem_filter.mpr ⟨List.mem_of_getElem? (wl_12_ok (1541, Cond.code yX9_isStation cX9_isStation 2 (some .boolean)) (List.mem_of_getElem? (i := 39) rfl)), rfl⟩
set_option maxRecDepth 100000 in
theorem w_1542 : Cond.methodLink "LeakyLineLaw" 44 yX9_wets ∈ lw_ok := List.mem_filter.mpr ⟨List.mem_of_getElem? (wl_12_ok (1542, Cond.methodLink "LeakyLineLaw" 44 yX9_wets) (List.mem_of_getElem? (i := 40) rfl)), rfl⟩
set_option maxRecDepth 100000 in
theorem w_1543 : Cond.instanceMethod yX9_wets ∈ lw_ok := List.mem_filter.mpr ⟨List.mem_of_getElem? (wl_12_ok (1543, Cond.instanceMethod yX9_wets) (List.mem_of_getElem? (i := 41) rfl)), rfl⟩
set_option maxRecDepth 100000 in
theorem w_1544 : Cond.selects RX9 yX9_wets yX9_wets ∈ lw_ok := List.mem_filter.mpr ⟨List.mem_of_getElem? (wl_12_ok (1544, Cond.selects RX9 yX9_wets yX9_wets) (List.mem_of_getElem? (i := 42) rfl)), rfl⟩
set_option maxRecDepth 100000 in
theorem w_1545 : Cond.code yX9_wets cX9_wets 1 (some .int) ∈ lw_ok := List.mem_filter.mpr ⟨List.mem_of_getElem? (wl_12_ok (1545, Cond.code yX9_wets cX9_wets 1 (some .int)) (List.mem_of_getElem? (i := 43) rfl)), rfl⟩
set_option maxRecDepth 100000 in
theorem w_1546 : Cond.methodLink RX9 286 yX9_lays ∈ lw_ok := List.mem_filter.mpr ⟨List.mem_of_getElem? (wl_12_ok (1546, Cond.methodLink RX9 286 yX9_lays) (List.mem_of_getElem? (i := 44) rfl)), rfl⟩
set_option maxRecDepth 100000 in
theorem w_1548 : Cond.instanceMethod yX9_lays ∈ lw_ok := List.mem_filter.mpr ⟨List.mem_of_getElem? (wl_12_ok (1548, Cond.instanceMethod yX9_lays) (List.mem_of_getElem? (i := 45) rfl)), rfl⟩
set_option maxRecDepth 100000 in
theorem w_1549 : Cond.code yX9_lays cX9_lays 2 none ∈ lw_ok := List.mem_filter.mpr ⟨List.mem_of_getElem? (wl_12_ok (1549, Cond.code yX9_lays cX9_lays 2 none) (List.mem_of_getElem? (i := 46) rfl)), rfl⟩
set_option maxRecDepth 100000 in
theorem w_1550 : Cond.methodLink RX9 222 yX9_days ∈ lw_ok := List.mem_filter.mpr ⟨List.mem_of_getElem? (wl_12_ok (1550, Cond.methodLink RX9 222 yX9_days) (List.mem_of_getElem? (i := 47) rfl)), rfl⟩
set_option maxRecDepth 100000 in
theorem w_1552 : Cond.instanceMethod yX9_days ∈ lw_ok := List.mem_filter.mpr ⟨List.mem_of_getElem? (wl_12_ok (1552, Cond.instanceMethod yX9_days) (List.mem_of_getElem? (i := 48) rfl)), rfl⟩
set_option maxRecDepth 100000 in
theorem w_1553 : Cond.code yX9_days cX9_days 1 (some .int) ∈ lw_ok := List.mem_filter.mpr ⟨List.mem_of_getElem? (wl_12_ok (1553, Cond.code yX9_days cX9_days 1 (some .int)) (List.mem_of_getElem? (i := 49) rfl)), rfl⟩
set_option maxRecDepth 100000 in
theorem w_1554 : Cond.methodLink "LeakyLineLaw" 48 yX9_leak ∈ lw_ok := List.mem_filter.mpr ⟨List.mem_of_getElem? (wl_12_ok (1554, Cond.methodLink "LeakyLineLaw" 48 yX9_leak) (List.mem_of_getElem? (i := 50) rfl)), rfl⟩
set_option maxRecDepth 100000 in
theorem w_1555 : Cond.instanceMethod yX9_leak ∈ lw_ok := List.mem_filter.mpr ⟨List.mem_of_getElem? (wl_12_ok (1555, Cond.instanceMethod yX9_leak) (List.mem_of_getElem? (i := 51) rfl)), rfl⟩
set_option maxRecDepth 100000 in
theorem w_1556 : Cond.selects RX9 yX9_leak yX9_leak ∈ lw_ok := List.mem_filter.mpr ⟨List.mem_of_getElem? (wl_12_ok (1556, Cond.selects RX9 yX9_leak yX9_leak) (List.mem_of_getElem? (i := 52) rfl)), rfl⟩
set_option maxRecDepth 100000 in
theorem w_1557 : Cond.code yX9_leak cX9_leak 3 (some .int) ∈ lw_ok := List.mem_filter.mpr ⟨List.mem_of_getElem? (wl_12_ok (1557, Cond.code yX9_leak cX9_leak 3 (some .int)) (List.mem_of_getElem? (i := 53) rfl)), rfl⟩
set_option maxRecDepth 100000 in
theorem w_1558 : Cond.methodLink RX9 289 yX9_isDay ∈ lw_ok := List.mem_filter.mpr ⟨List.mem_of_getElem? (wl_12_ok (1558, Cond.methodLink RX9 289 yX9_isDay) (List.mem_of_getElem? (i := 54) rfl)), rfl⟩
set_option maxRecDepth 100000 in
theorem w_1560 : Cond.instanceMethod yX9_isDay ∈ lw_ok := List.mem_filter.mpr ⟨List.mem_of_getElem? (wl_12_ok (1560, Cond.instanceMethod yX9_isDay) (List.mem_of_getElem? (i := 55) rfl)), rfl⟩
set_option maxRecDepth 100000 in
theorem w_1561 : Cond.code yX9_isDay cX9_isDay 3 (some .boolean) ∈ lw_ok := List.mem_filter.mpr ⟨List.mem_of_getElem? (wl_12_ok (1561, Cond.code yX9_isDay cX9_isDay 3 (some .boolean)) (List.mem_of_getElem? (i := 56) rfl)), rfl⟩
set_option maxRecDepth 100000 in
theorem w_1562 : Cond.methodLink RX9 256 yX9_leakOf ∈ lw_ok := List.mem_filter.mpr ⟨List.mem_of_getElem? (wl_12_ok (1562, Cond.methodLink RX9 256 yX9_leakOf) (List.mem_of_getElem? (i := 57) rfl)), rfl⟩
set_option maxRecDepth 100000 in
theorem w_1564 : Cond.instanceMethod yX9_leakOf ∈ lw_ok := List.mem_filter.mpr ⟨List.mem_of_getElem? (wl_12_ok (1564, Cond.instanceMethod yX9_leakOf) (List.mem_of_getElem? (i := 58) rfl)), rfl⟩
set_option maxRecDepth 100000 in
theorem w_1565 : Cond.code yX9_leakOf cX9_leakOf 7 (some .int) ∈ lw_ok := List.mem_filter.mpr ⟨List.mem_of_getElem? (wl_12_ok (1565, Cond.code yX9_leakOf cX9_leakOf 7 (some .int)) (List.mem_of_getElem? (i := 59) rfl)), rfl⟩
set_option maxRecDepth 100000 in
theorem w_1566 : Cond.methodLink RX9 247 yX9_cupOf ∈ lw_ok := List.mem_filter.mpr ⟨List.mem_of_getElem? (wl_12_ok (1566, Cond.methodLink RX9 247 yX9_cupOf) (List.mem_of_getElem? (i := 60) rfl)), rfl⟩
set_option maxRecDepth 100000 in
theorem w_1568 : Cond.instanceMethod yX9_cupOf ∈ lw_ok := List.mem_filter.mpr ⟨List.mem_of_getElem? (wl_12_ok (1568, Cond.instanceMethod yX9_cupOf) (List.mem_of_getElem? (i := 61) rfl)), rfl⟩
set_option maxRecDepth 100000 in
theorem w_1569 : Cond.code yX9_cupOf cX9_cupOf 5 (some .int) ∈ lw_ok := List.mem_filter.mpr ⟨List.mem_of_getElem? (wl_12_ok (1569, Cond.code yX9_cupOf cX9_cupOf 5 (some .int)) (List.mem_of_getElem? (i := 62) rfl)), rfl⟩
set_option maxRecDepth 100000 in
theorem w_1570 : Cond.methodLink RX9 240 yX9_isBit ∈ lw_ok := List.mem_filter.mpr ⟨List.mem_of_getElem? (wl_12_ok (1570, Cond.methodLink RX9 240 yX9_isBit) (List.mem_of_getElem? (i := 63) rfl)), rfl⟩
set_option maxRecDepth 100000 in
theorem w_1571 : Cond.static yX9_isBit ∈ lw_ok := List.mem_filter.mpr ⟨List.mem_of_getElem? (wl_12_ok (1571, Cond.static yX9_isBit) (List.mem_of_getElem? (i := 64) rfl)), rfl⟩
set_option maxRecDepth 100000 in
theorem w_1572 : Cond.code yX9_isBit cX9_isBit 2 (some .boolean) ∈ lw_ok := List.mem_filter.mpr ⟨List.mem_of_getElem? (wl_12_ok (1572, Cond.code yX9_isBit cX9_isBit 2 (some .boolean)) (List.mem_of_getElem? (i := 65) rfl)), rfl⟩
set_option maxRecDepth 100000 in
theorem w_1573 : Cond.methodLink RX9 244 yX9_moreOf ∈ lw_ok := List.mem_filter.mpr ⟨List.mem_of_getElem? (wl_12_ok (1573, Cond.methodLink RX9 244 yX9_moreOf) (List.mem_of_getElem? (i := 66) rfl)), rfl⟩
set_option maxRecDepth 100000 in
theorem w_1574 : Cond.static yX9_moreOf ∈ lw_ok := List.mem_filter.mpr ⟨List.mem_of_getElem? (wl_12_ok (1574, Cond.static yX9_moreOf) (List.mem_of_getElem? (i := 67) rfl)), rfl⟩
set_option maxRecDepth 100000 in
theorem w_1575 : Cond.code yX9_moreOf cX9_moreOf 2 (some .int) ∈ lw_ok := List.mem_filter.mpr ⟨List.mem_of_getElem? (wl_12_ok (1575, Cond.code yX9_moreOf cX9_moreOf 2 (some .int)) (List.mem_of_getElem? (i := 68) rfl)), rfl⟩
set_option maxRecDepth 100000 in
theorem w_1576 : Cond.methodLink "LeakyLineLaw" 52 yX9_joined ∈ lw_ok := List.mem_filter.mpr ⟨List.mem_of_getElem? (wl_12_ok (1576, Cond.methodLink "LeakyLineLaw" 52 yX9_joined) (List.mem_of_getElem? (i := 69) rfl)), rfl⟩
set_option maxRecDepth 100000 in
theorem w_1577 : Cond.instanceMethod yX9_joined ∈ lw_ok := List.mem_filter.mpr ⟨List.mem_of_getElem? (wl_12_ok (1577, Cond.instanceMethod yX9_joined) (List.mem_of_getElem? (i := 70) rfl)), rfl⟩
set_option maxRecDepth 100000 in
theorem w_1578 : Cond.selects RX9 yX9_joined yX9_joined ∈ lw_ok := List.mem_filter.mpr ⟨List.mem_of_getElem? (wl_12_ok (1578, Cond.selects RX9 yX9_joined yX9_joined) (List.mem_of_getElem? (i := 71) rfl)), rfl⟩
set_option maxRecDepth 100000 in
theorem w_1579 : Cond.code yX9_joined cX9_joined 2 (some .int) ∈ lw_ok := List.mem_filter.mpr ⟨List.mem_of_getElem? (wl_12_ok (1579, Cond.code yX9_joined cX9_joined 2 (some .int)) (List.mem_of_getElem? (i := 72) rfl)), rfl⟩
set_option maxRecDepth 100000 in
theorem w_1580 : Cond.methodLink RX9 262 yX9_laysDay ∈ lw_ok := List.mem_filter.mpr ⟨List.mem_of_getElem? (wl_12_ok (1580, Cond.methodLink RX9 262 yX9_laysDay) (List.mem_of_getElem? (i := 73) rfl)), rfl⟩
set_option maxRecDepth 100000 in
theorem w_1582 : Cond.instanceMethod yX9_laysDay ∈ lw_ok := List.mem_filter.mpr ⟨List.mem_of_getElem? (wl_12_ok (1582, Cond.instanceMethod yX9_laysDay) (List.mem_of_getElem? (i := 74) rfl)), rfl⟩
set_option maxRecDepth 100000 in
theorem w_1583 : Cond.code yX9_laysDay cX9_laysDay 7 none ∈ lw_ok := List.mem_filter.mpr ⟨List.mem_of_getElem? (wl_12_ok (1583, Cond.code yX9_laysDay cX9_laysDay 7 none) (List.mem_of_getElem? (i := 75) rfl)), rfl⟩
set_option maxRecDepth 100000 in
theorem w_1584 : Cond.methodLink RX9 253 yX9_isBroken ∈ lw_ok := List.mem_filter.mpr ⟨List.mem_of_getElem? (wl_12_ok (1584, Cond.methodLink RX9 253 yX9_isBroken) (List.mem_of_getElem? (i := 76) rfl)), rfl⟩
set_option maxRecDepth 100000 in
theorem w_1586 : Cond.instanceMethod yX9_isBroken ∈ lw_ok := List.mem_filter.mpr ⟨List.mem_of_getElem? (wl_12_ok (1586, Cond.instanceMethod yX9_isBroken) (List.mem_of_getElem? (i := 77) rfl)), rfl⟩
set_option maxRecDepth 100000 in
theorem w_1587 : Cond.code yX9_isBroken cX9_isBroken 4 (some .boolean) ∈ lw_ok := List.mem_filter.mpr ⟨List.mem_of_getElem? (wl_12_ok (1587, Cond.code yX9_isBroken cX9_isBroken 4 (some .boolean)) (List.mem_of_getElem? (i := 78) rfl)), rfl⟩
set_option maxRecDepth 100000 in
theorem w_1588 : Cond.methodLink "LeakyLineLaw" 57 yX9_ohms ∈ lw_ok := List.mem_filter.mpr ⟨List.mem_of_getElem? (wl_12_ok (1588, Cond.methodLink "LeakyLineLaw" 57 yX9_ohms) (List.mem_of_getElem? (i := 79) rfl)), rfl⟩
set_option maxRecDepth 100000 in
theorem w_1589 : Cond.instanceMethod yX9_ohms ∈ lw_ok := List.mem_filter.mpr ⟨List.mem_of_getElem? (wl_12_ok (1589, Cond.instanceMethod yX9_ohms) (List.mem_of_getElem? (i := 80) rfl)), rfl⟩
set_option maxRecDepth 100000 in
theorem w_1590 : Cond.selects RX9 yX9_ohms yX9_ohms ∈ lw_ok := List.mem_filter.mpr ⟨List.mem_of_getElem? (wl_12_ok (1590, Cond.selects RX9 yX9_ohms yX9_ohms) (List.mem_of_getElem? (i := 81) rfl)), rfl⟩
set_option maxRecDepth 100000 in
theorem w_1591 : Cond.code yX9_ohms cX9_ohms 3 (some .long) ∈ lw_ok := List.mem_filter.mpr ⟨List.mem_of_getElem? (wl_12_ok (1591, Cond.code yX9_ohms cX9_ohms 3 (some .long)) (List.mem_of_getElem? (i := 82) rfl)), rfl⟩
set_option maxRecDepth 100000 in
theorem w_1592 : Cond.methodLink RX9 292 yX9_isHalf ∈ lw_ok := List.mem_filter.mpr ⟨List.mem_of_getElem? (wl_12_ok (1592, Cond.methodLink RX9 292 yX9_isHalf) (List.mem_of_getElem? (i := 83) rfl)), rfl⟩
set_option maxRecDepth 100000 in
theorem w_1593 : Cond.static yX9_isHalf ∈ lw_ok := List.mem_filter.mpr ⟨List.mem_of_getElem? (wl_12_ok (1593, Cond.static yX9_isHalf) (List.mem_of_getElem? (i := 84) rfl)), rfl⟩
set_option maxRecDepth 100000 in
theorem w_1594 : Cond.code yX9_isHalf cX9_isHalf 1 (some .boolean) ∈ lw_ok := List.mem_filter.mpr ⟨List.mem_of_getElem? (wl_12_ok (1594, Cond.code yX9_isHalf cX9_isHalf 1 (some .boolean)) (List.mem_of_getElem? (i := 85) rfl)), rfl⟩
set_option maxRecDepth 100000 in
theorem w_1595 : Cond.constantLong RX9 295 (-2) ∈ lw_ok := List.mem_filter.mpr ⟨List.mem_of_getElem? (wl_12_ok (1595, Cond.constantLong RX9 295 (-2)) (List.mem_of_getElem? (i := 86) rfl)), rfl⟩
set_option maxRecDepth 100000 in
theorem w_1596 : Cond.methodLink RX9 297 yX9_partOf ∈ lw_ok := List.mem_filter.mpr ⟨List.mem_of_getElem? (wl_12_ok (1596, Cond.methodLink RX9 297 yX9_partOf) (List.mem_of_getElem? (i := 87) rfl)), rfl⟩
set_option maxRecDepth 100000 in
theorem w_1597 : Cond.static yX9_partOf ∈ lw_ok := List.mem_filter.mpr ⟨List.mem_of_getElem? (wl_12_ok (1597, Cond.static yX9_partOf) (List.mem_of_getElem? (i := 88) rfl)), rfl⟩
set_option maxRecDepth 100000 in
theorem w_1598 : Cond.code yX9_partOf cX9_partOf 5 (some .long) ∈ lw_ok := List.mem_filter.mpr ⟨List.mem_of_getElem? (wl_12_ok (1598, Cond.code yX9_partOf cX9_partOf 5 (some .long)) (List.mem_of_getElem? (i := 89) rfl)), rfl⟩
set_option maxRecDepth 100000 in
theorem w_1599 : Cond.methodLink RX9 277 yX9_common ∈ lw_ok := List.mem_filter.mpr ⟨List.mem_of_getElem? (wl_12_ok (1599, Cond.methodLink RX9 277 yX9_common) (List.mem_of_getElem? (i := 90) rfl)), rfl⟩
set_option maxRecDepth 100000 in
theorem w_1600 : Cond.static yX9_common ∈ lw_ok := List.mem_filter.mpr ⟨List.mem_of_getElem? (wl_12_ok (1600, Cond.static yX9_common) (List.mem_of_getElem? (i := 91) rfl)), rfl⟩
set_option maxRecDepth 100000 in
theorem w_1601 : Cond.code yX9_common cX9_common 4 (some .long) ∈ lw_ok := List.mem_filter.mpr ⟨List.mem_of_getElem? (wl_12_ok (1601, Cond.code yX9_common cX9_common 4 (some .long)) (List.mem_of_getElem? (i := 92) rfl)), rfl⟩
set_option maxRecDepth 100000 in
theorem w_1602 : Cond.methodLink "LeakyLineLaw" 61 yX9_amps ∈ lw_ok := List.mem_filter.mpr ⟨List.mem_of_getElem? (wl_12_ok (1602, Cond.methodLink "LeakyLineLaw" 61 yX9_amps) (List.mem_of_getElem? (i := 93) rfl)), rfl⟩
set_option maxRecDepth 100000 in
theorem w_1603 : Cond.instanceMethod yX9_amps ∈ lw_ok := List.mem_filter.mpr ⟨List.mem_of_getElem? (wl_12_ok (1603, Cond.instanceMethod yX9_amps) (List.mem_of_getElem? (i := 94) rfl)), rfl⟩
set_option maxRecDepth 100000 in
theorem w_1604 : Cond.selects RX9 yX9_amps yX9_amps ∈ lw_ok := List.mem_filter.mpr ⟨List.mem_of_getElem? (wl_12_ok (1604, Cond.selects RX9 yX9_amps yX9_amps) (List.mem_of_getElem? (i := 95) rfl)), rfl⟩
set_option maxRecDepth 100000 in
theorem w_1605 : Cond.code yX9_amps cX9_amps 3 (some .long) ∈ lw_ok := List.mem_filter.mpr ⟨List.mem_of_getElem? (wl_12_ok (1605, Cond.code yX9_amps cX9_amps 3 (some .long)) (List.mem_of_getElem? (i := 96) rfl)), rfl⟩
set_option maxRecDepth 100000 in
theorem w_1606 : Cond.methodLink "LeakyLineLaw" 66 yX9_volts ∈ lw_ok := List.mem_filter.mpr ⟨List.mem_of_getElem? (wl_12_ok (1606, Cond.methodLink "LeakyLineLaw" 66 yX9_volts) (List.mem_of_getElem? (i := 97) rfl)), rfl⟩
set_option maxRecDepth 100000 in
theorem w_1607 : Cond.instanceMethod yX9_volts ∈ lw_ok := List.mem_filter.mpr ⟨List.mem_of_getElem? (wl_12_ok (1607, Cond.instanceMethod yX9_volts) (List.mem_of_getElem? (i := 98) rfl)), rfl⟩
set_option maxRecDepth 100000 in
theorem w_1608 : Cond.selects RX9 yX9_volts yX9_volts ∈ lw_ok := List.mem_filter.mpr ⟨List.mem_of_getElem? (wl_12_ok (1608, Cond.selects RX9 yX9_volts yX9_volts) (List.mem_of_getElem? (i := 99) rfl)), rfl⟩
def wl_13 : List (Nat × Cond) := [(1609, Cond.code yX9_volts cX9_volts 4 (some .long)), (1610, Cond.methodLink RX9 301 yX9_isOf), (1612, Cond.instanceMethod yX9_isOf), (1613, Cond.code yX9_isOf cX9_isOf 4 (some .boolean)), (1614, Cond.methodLink "LeakyLineLaw" 70 yX9_whole), (1615, Cond.instanceMethod yX9_whole), (1616, Cond.selects RX9 yX9_whole yX9_whole), (1617, Cond.code yX9_whole cX9_whole 3 (some .int)), (1618, Cond.methodLink "LeakyLineLaw" 74 yX9_falls), (1619, Cond.instanceMethod yX9_falls), (1620, Cond.selects RX9 yX9_falls yX9_falls), (1621, Cond.code yX9_falls cX9_falls 4 (some .long)), (1622, Cond.methodLink "LeakyLineLaw" 78 yX9_earth), (1623, Cond.instanceMethod yX9_earth), (1624, Cond.selects RX9 yX9_earth yX9_earth), (1625, Cond.code yX9_earth cX9_earth 4 (some .long)), (1626, Cond.methodLink "LeakyLineLaw" 82 yX9_sore), (1627, Cond.instanceMethod yX9_sore), (1628, Cond.selects RX9 yX9_sore yX9_sore), (1629, Cond.code yX9_sore cX9_sore 4 (some .int)), (1630, Cond.methodLink "LeakyLineLaw" 86 yX9_hears), (1631, Cond.instanceMethod yX9_hears), (1632, Cond.selects RX9 yX9_hears yX9_hears), (1633, Cond.code yX9_hears cX9_hears 2 (some .int)), (1634, Cond.methodLink RX9 271 yX9_hearsOn), (1636, Cond.instanceMethod yX9_hearsOn), (1637, Cond.code yX9_hearsOn cX9_hearsOn 4 (some .int)), (1638, Cond.methodLink RX9 265 yX9_isHearing), (1640, Cond.instanceMethod yX9_isHearing), (1641, Cond.code yX9_isHearing cX9_isHearing 3 (some .boolean)), (1642, Cond.methodLink "LeakyLineLaw" 90 yX9_silent), (1643, Cond.instanceMethod yX9_silent), (1644, Cond.selects RX9 yX9_silent yX9_silent), (1645, Cond.code yX9_silent cX9_silent 2 (some .int)), (1646, Cond.methodLink "LeakyLineLaw" 94 yX9_faint), (1647, Cond.instanceMethod yX9_faint), (1648, Cond.selects RX9 yX9_faint yX9_faint), (1649, Cond.code yX9_faint cX9_faint 4 (some .int)), (1650, Cond.methodLink RX9 304 yX9_partAt), (1652, Cond.instanceMethod yX9_partAt), (1653, Cond.code yX9_partAt cX9_partAt 2 (some .long)), (1654, Cond.methodLink "LeakyLineLaw" 98 yX9_when), (1655, Cond.instanceMethod yX9_when), (1656, Cond.selects RX9 yX9_when yX9_when), (1657, Cond.code yX9_when cX9_when 3 (some .int)), (1658, Cond.methodLink RX9 308 yX9_isHeard), (1660, Cond.instanceMethod yX9_isHeard), (1661, Cond.code yX9_isHeard cX9_isHeard 3 (some .boolean)), (1662, Cond.methodLink "LeakyLineLaw" 102 yX9_deaf), (1663, Cond.instanceMethod yX9_deaf), (1664, Cond.selects RX9 yX9_deaf yX9_deaf), (1665, Cond.code yX9_deaf cX9_deaf 4 (some .int)), (1666, Cond.methodLink "LeakyLineLaw" 106 yX9_longest), (1667, Cond.instanceMethod yX9_longest), (1668, Cond.selects RX9 yX9_longest yX9_longest), (1669, Cond.code yX9_longest cX9_longest 5 (some .int)), (1670, Cond.methodLink "LeakyLineLaw" 110 yX9_flips), (1671, Cond.instanceMethod yX9_flips), (1672, Cond.selects RX9 yX9_flips yX9_flips), (1673, Cond.code yX9_flips cX9_flips 4 (some .int)), (1674, Cond.methodLink "LeakyLineLaw" 114 yX9_clear), (1675, Cond.instanceMethod yX9_clear), (1676, Cond.selects RX9 yX9_clear yX9_clear), (1677, Cond.code yX9_clear cX9_clear 3 (some .int)), (1678, Cond.methodLink "LeakyLineLaw" 118 yX9_last), (1679, Cond.instanceMethod yX9_last), (1680, Cond.selects RX9 yX9_last yX9_last), (1681, Cond.code yX9_last cX9_last 2 (some .int)), (1682, Cond.methodLink "LeakyLineLaw" 122 yX9_dim), (1683, Cond.instanceMethod yX9_dim), (1684, Cond.selects RX9 yX9_dim yX9_dim), (1685, Cond.code yX9_dim cX9_dim 1 (some .int)), (1686, Cond.methodLink RX9 311 yX9_dayBy), (1688, Cond.instanceMethod yX9_dayBy), (1689, Cond.code yX9_dayBy cX9_dayBy 6 (some .int)), (1690, Cond.methodLink RX9 274 yX9_sizeOf), (1691, Cond.static yX9_sizeOf), (1692, Cond.code yX9_sizeOf cX9_sizeOf 3 (some .int)), (1693, Cond.methodLink "LeakyLineLaw" 146 yX9_bright), (1694, Cond.instanceMethod yX9_bright), (1695, Cond.selects RX9 yX9_bright yX9_bright), (1696, Cond.code yX9_bright cX9_bright 1 (some .int)), (1697, Cond.methodLink "LeakyLineLaw" 126 yX9_sum), (1698, Cond.instanceMethod yX9_sum), (1699, Cond.selects RX9 yX9_sum yX9_sum), (1700, Cond.code yX9_sum cX9_sum 1 (some .int)), (1701, Cond.methodLink RX9 314 yX9_sumNow), (1703, Cond.instanceMethod yX9_sumNow), (1704, Cond.code yX9_sumNow cX9_sumNow 3 (some .int)), (1705, Cond.methodLink "LeakyLineLaw" 130 yX9_worst), (1706, Cond.instanceMethod yX9_worst), (1707, Cond.selects RX9 yX9_worst yX9_worst), (1708, Cond.code yX9_worst cX9_worst 4 (some .int)), (1709, Cond.methodLink "LeakyLineLaw" 134 yX9_damp), (1710, Cond.instanceMethod yX9_damp), (1711, Cond.selects RX9 yX9_damp yX9_damp), (1712, Cond.code yX9_damp cX9_damp 4 (some .int)), (1713, Cond.methodLink "LeakyLineLaw" 138 yX9_spell), (1714, Cond.instanceMethod yX9_spell), (1715, Cond.selects RX9 yX9_spell yX9_spell)]
set_option maxRecDepth 100000 in
theorem wl_13_ok : ∀ x ∈ wl_13, lw_tbl[x.1]? = some x.2 := by decide +kernel
set_option maxRecDepth 100000 in
theorem w_1609 : Cond.code yX9_volts cX9_volts 4 (some .long) ∈ lw_ok := List.mem_filter.mpr ⟨List.mem_of_getElem? (wl_13_ok (1609, Cond.code yX9_volts cX9_volts 4 (some .long)) (List.mem_of_getElem? (i := 0) rfl)), rfl⟩
set_option maxRecDepth 100000 in
theorem w_1610 : Cond.methodLink RX9 301 yX9_isOf ∈ lw_ok := List.mem_filter.mpr ⟨List.mem_of_getElem? (wl_13_ok (1610, Cond.methodLink RX9 301 yX9_isOf) (List.mem_of_getElem? (i := 1) rfl)), rfl⟩
set_option maxRecDepth 100000 in
theorem w_1612 : Cond.instanceMethod yX9_isOf ∈ lw_ok := List.mem_filter.mpr ⟨List.mem_of_getElem? (wl_13_ok (1612, Cond.instanceMethod yX9_isOf) (List.mem_of_getElem? (i := 2) rfl)), rfl⟩
set_option maxRecDepth 100000 in
theorem w_1613 : Cond.code yX9_isOf cX9_isOf 4 (some .boolean) ∈ lw_ok := List.mem_filter.mpr ⟨List.mem_of_getElem? (wl_13_ok (1613, Cond.code yX9_isOf cX9_isOf 4 (some .boolean)) (List.mem_of_getElem? (i := 3) rfl)), rfl⟩
set_option maxRecDepth 100000 in
theorem w_1614 : Cond.methodLink "LeakyLineLaw" 70 yX9_whole ∈ lw_ok := List.mem_filter.mpr ⟨List.mem_of_getElem? (wl_13_ok (1614, Cond.methodLink "LeakyLineLaw" 70 yX9_whole) (List.mem_of_getElem? (i := 4) rfl)), rfl⟩
set_option maxRecDepth 100000 in
theorem w_1615 : Cond.instanceMethod yX9_whole ∈ lw_ok := List.mem_filter.mpr ⟨List.mem_of_getElem? (wl_13_ok (1615, Cond.instanceMethod yX9_whole) (List.mem_of_getElem? (i := 5) rfl)), rfl⟩
set_option maxRecDepth 100000 in
theorem w_1616 : Cond.selects RX9 yX9_whole yX9_whole ∈ lw_ok := List.mem_filter.mpr ⟨List.mem_of_getElem? (wl_13_ok (1616, Cond.selects RX9 yX9_whole yX9_whole) (List.mem_of_getElem? (i := 6) rfl)), rfl⟩
set_option maxRecDepth 100000 in
theorem w_1617 : Cond.code yX9_whole cX9_whole 3 (some .int) ∈ lw_ok := List.mem_filter.mpr ⟨List.mem_of_getElem? (wl_13_ok (1617, Cond.code yX9_whole cX9_whole 3 (some .int)) (List.mem_of_getElem? (i := 7) rfl)), rfl⟩
set_option maxRecDepth 100000 in
theorem w_1618 : Cond.methodLink "LeakyLineLaw" 74 yX9_falls ∈ lw_ok := List.mem_filter.mpr ⟨List.mem_of_getElem? (wl_13_ok (1618, Cond.methodLink "LeakyLineLaw" 74 yX9_falls) (List.mem_of_getElem? (i := 8) rfl)), rfl⟩
set_option maxRecDepth 100000 in
theorem w_1619 : Cond.instanceMethod yX9_falls ∈ lw_ok := List.mem_filter.mpr ⟨List.mem_of_getElem? (wl_13_ok (1619, Cond.instanceMethod yX9_falls) (List.mem_of_getElem? (i := 9) rfl)), rfl⟩
set_option maxRecDepth 100000 in
theorem w_1620 : Cond.selects RX9 yX9_falls yX9_falls ∈ lw_ok := List.mem_filter.mpr ⟨List.mem_of_getElem? (wl_13_ok (1620, Cond.selects RX9 yX9_falls yX9_falls) (List.mem_of_getElem? (i := 10) rfl)), rfl⟩
set_option maxRecDepth 100000 in
theorem w_1621 : Cond.code yX9_falls cX9_falls 4 (some .long) ∈ lw_ok := List.mem_filter.mpr ⟨List.mem_of_getElem? (wl_13_ok (1621, Cond.code yX9_falls cX9_falls 4 (some .long)) (List.mem_of_getElem? (i := 11) rfl)), rfl⟩
set_option maxRecDepth 100000 in
theorem w_1622 : Cond.methodLink "LeakyLineLaw" 78 yX9_earth ∈ lw_ok := List.mem_filter.mpr ⟨List.mem_of_getElem? (wl_13_ok (1622, Cond.methodLink "LeakyLineLaw" 78 yX9_earth) (List.mem_of_getElem? (i := 12) rfl)), rfl⟩
set_option maxRecDepth 100000 in
theorem w_1623 : Cond.instanceMethod yX9_earth ∈ lw_ok := List.mem_filter.mpr ⟨List.mem_of_getElem? (wl_13_ok (1623, Cond.instanceMethod yX9_earth) (List.mem_of_getElem? (i := 13) rfl)), rfl⟩
set_option maxRecDepth 100000 in
theorem w_1624 : Cond.selects RX9 yX9_earth yX9_earth ∈ lw_ok := List.mem_filter.mpr ⟨List.mem_of_getElem? (wl_13_ok (1624, Cond.selects RX9 yX9_earth yX9_earth) (List.mem_of_getElem? (i := 14) rfl)), rfl⟩
set_option maxRecDepth 100000 in
theorem w_1625 : Cond.code yX9_earth cX9_earth 4 (some .long) ∈ lw_ok := List.mem_filter.mpr ⟨List.mem_of_getElem? (wl_13_ok (1625, Cond.code yX9_earth cX9_earth 4 (some .long)) (List.mem_of_getElem? (i := 15) rfl)), rfl⟩
set_option maxRecDepth 100000 in
theorem w_1626 : Cond.methodLink "LeakyLineLaw" 82 yX9_sore ∈ lw_ok := List.mem_filter.mpr ⟨List.mem_of_getElem? (wl_13_ok (1626, Cond.methodLink "LeakyLineLaw" 82 yX9_sore) (List.mem_of_getElem? (i := 16) rfl)), rfl⟩
set_option maxRecDepth 100000 in
theorem w_1627 : Cond.instanceMethod yX9_sore ∈ lw_ok := List.mem_filter.mpr ⟨List.mem_of_getElem? (wl_13_ok (1627, Cond.instanceMethod yX9_sore) (List.mem_of_getElem? (i := 17) rfl)), rfl⟩
set_option maxRecDepth 100000 in
theorem w_1628 : Cond.selects RX9 yX9_sore yX9_sore ∈ lw_ok := List.mem_filter.mpr ⟨List.mem_of_getElem? (wl_13_ok (1628, Cond.selects RX9 yX9_sore yX9_sore) (List.mem_of_getElem? (i := 18) rfl)), rfl⟩
set_option maxRecDepth 100000 in
theorem w_1629 : Cond.code yX9_sore cX9_sore 4 (some .int) ∈ lw_ok := List.mem_filter.mpr ⟨List.mem_of_getElem? (wl_13_ok (1629, Cond.code yX9_sore cX9_sore 4 (some .int)) (List.mem_of_getElem? (i := 19) rfl)), rfl⟩
set_option maxRecDepth 100000 in
theorem w_1630 : Cond.methodLink "LeakyLineLaw" 86 yX9_hears ∈ lw_ok := List.mem_filter.mpr ⟨List.mem_of_getElem? (wl_13_ok (1630, Cond.methodLink "LeakyLineLaw" 86 yX9_hears) (List.mem_of_getElem? (i := 20) rfl)), rfl⟩
set_option maxRecDepth 100000 in
theorem w_1631 : Cond.instanceMethod yX9_hears ∈ lw_ok := List.mem_filter.mpr ⟨List.mem_of_getElem? (wl_13_ok (1631, Cond.instanceMethod yX9_hears) (List.mem_of_getElem? (i := 21) rfl)), rfl⟩
set_option maxRecDepth 100000 in
theorem w_1632 : Cond.selects RX9 yX9_hears yX9_hears ∈ lw_ok := List.mem_filter.mpr ⟨List.mem_of_getElem? (wl_13_ok (1632, Cond.selects RX9 yX9_hears yX9_hears) (List.mem_of_getElem? (i := 22) rfl)), rfl⟩
set_option maxRecDepth 100000 in
theorem w_1633 : Cond.code yX9_hears cX9_hears 2 (some .int) ∈ lw_ok := List.mem_filter.mpr ⟨List.mem_of_getElem? (wl_13_ok (1633, Cond.code yX9_hears cX9_hears 2 (some .int)) (List.mem_of_getElem? (i := 23) rfl)), rfl⟩
set_option maxRecDepth 100000 in
theorem w_1634 : Cond.methodLink RX9 271 yX9_hearsOn ∈ lw_ok := List.mem_filter.mpr ⟨List.mem_of_getElem? (wl_13_ok (1634, Cond.methodLink RX9 271 yX9_hearsOn) (List.mem_of_getElem? (i := 24) rfl)), rfl⟩
set_option maxRecDepth 100000 in
theorem w_1636 : Cond.instanceMethod yX9_hearsOn ∈ lw_ok := List.mem_filter.mpr ⟨List.mem_of_getElem? (wl_13_ok (1636, Cond.instanceMethod yX9_hearsOn) (List.mem_of_getElem? (i := 25) rfl)), rfl⟩
set_option maxRecDepth 100000 in
theorem w_1637 : Cond.code yX9_hearsOn cX9_hearsOn 4 (some .int) ∈ lw_ok := List.mem_filter.mpr ⟨List.mem_of_getElem? (wl_13_ok (1637, Cond.code yX9_hearsOn cX9_hearsOn 4 (some .int)) (List.mem_of_getElem? (i := 26) rfl)), rfl⟩
set_option maxRecDepth 100000 in
theorem w_1638 : Cond.methodLink RX9 265 yX9_isHearing ∈ lw_ok := List.mem_filter.mpr ⟨List.mem_of_getElem? (wl_13_ok (1638, Cond.methodLink RX9 265 yX9_isHearing) (List.mem_of_getElem? (i := 27) rfl)), rfl⟩
set_option maxRecDepth 100000 in
theorem w_1640 : Cond.instanceMethod yX9_isHearing ∈ lw_ok := List.mem_filter.mpr ⟨List.mem_of_getElem? (wl_13_ok (1640, Cond.instanceMethod yX9_isHearing) (List.mem_of_getElem? (i := 28) rfl)), rfl⟩
set_option maxRecDepth 100000 in
theorem w_1641 : Cond.code yX9_isHearing cX9_isHearing 3 (some .boolean) ∈ lw_ok := List.mem_filter.mpr ⟨List.mem_of_getElem? (wl_13_ok (1641, Cond.code yX9_isHearing cX9_isHearing 3 (some .boolean)) (List.mem_of_getElem? (i := 29) rfl)), rfl⟩
set_option maxRecDepth 100000 in
theorem w_1642 : Cond.methodLink "LeakyLineLaw" 90 yX9_silent ∈ lw_ok := List.mem_filter.mpr ⟨List.mem_of_getElem? (wl_13_ok (1642, Cond.methodLink "LeakyLineLaw" 90 yX9_silent) (List.mem_of_getElem? (i := 30) rfl)), rfl⟩
set_option maxRecDepth 100000 in
theorem w_1643 : Cond.instanceMethod yX9_silent ∈ lw_ok := List.mem_filter.mpr ⟨List.mem_of_getElem? (wl_13_ok (1643, Cond.instanceMethod yX9_silent) (List.mem_of_getElem? (i := 31) rfl)), rfl⟩
set_option maxRecDepth 100000 in
theorem w_1644 : Cond.selects RX9 yX9_silent yX9_silent ∈ lw_ok := List.mem_filter.mpr ⟨List.mem_of_getElem? (wl_13_ok (1644, Cond.selects RX9 yX9_silent yX9_silent) (List.mem_of_getElem? (i := 32) rfl)), rfl⟩
set_option maxRecDepth 100000 in
theorem w_1645 : Cond.code yX9_silent cX9_silent 2 (some .int) ∈ lw_ok := List.mem_filter.mpr ⟨List.mem_of_getElem? (wl_13_ok (1645, Cond.code yX9_silent cX9_silent 2 (some .int)) (List.mem_of_getElem? (i := 33) rfl)), rfl⟩
set_option maxRecDepth 100000 in
theorem w_1646 : Cond.methodLink "LeakyLineLaw" 94 yX9_faint ∈ lw_ok := List.mem_filter.mpr ⟨List.mem_of_getElem? (wl_13_ok (1646, Cond.methodLink "LeakyLineLaw" 94 yX9_faint) (List.mem_of_getElem? (i := 34) rfl)), rfl⟩
set_option maxRecDepth 100000 in
theorem w_1647 : Cond.instanceMethod yX9_faint ∈ lw_ok := List.mem_filter.mpr ⟨List.mem_of_getElem? (wl_13_ok (1647, Cond.instanceMethod yX9_faint) (List.mem_of_getElem? (i := 35) rfl)), rfl⟩
set_option maxRecDepth 100000 in
theorem w_1648 : Cond.selects RX9 yX9_faint yX9_faint ∈ lw_ok := List.mem_filter.mpr ⟨List.mem_of_getElem? (wl_13_ok (1648, Cond.selects RX9 yX9_faint yX9_faint) (List.mem_of_getElem? (i := 36) rfl)), rfl⟩
set_option maxRecDepth 100000 in
theorem w_1649 : Cond.code yX9_faint cX9_faint 4 (some .int) ∈ lw_ok := List.mem_filter.mpr ⟨List.mem_of_getElem? (wl_13_ok (1649, Cond.code yX9_faint cX9_faint 4 (some .int)) (List.mem_of_getElem? (i := 37) rfl)), rfl⟩
set_option maxRecDepth 100000 in
theorem w_1650 : Cond.methodLink RX9 304 yX9_partAt ∈ lw_ok := List.mem_filter.mpr ⟨List.mem_of_getElem? (wl_13_ok (1650, Cond.methodLink RX9 304 yX9_partAt) (List.mem_of_getElem? (i := 38) rfl)), rfl⟩
set_option maxRecDepth 100000 in
theorem w_1652 : Cond.instanceMethod yX9_partAt ∈ lw_ok := List.mem_filter.mpr ⟨List.mem_of_getElem? (wl_13_ok (1652, Cond.instanceMethod yX9_partAt) (List.mem_of_getElem? (i := 39) rfl)), rfl⟩
set_option maxRecDepth 100000 in
theorem w_1653 : Cond.code yX9_partAt cX9_partAt 2 (some .long) ∈ lw_ok := List.mem_filter.mpr ⟨List.mem_of_getElem? (wl_13_ok (1653, Cond.code yX9_partAt cX9_partAt 2 (some .long)) (List.mem_of_getElem? (i := 40) rfl)), rfl⟩
set_option maxRecDepth 100000 in
theorem w_1654 : Cond.methodLink "LeakyLineLaw" 98 yX9_when ∈ lw_ok := List.mem_filter.mpr ⟨List.mem_of_getElem? (wl_13_ok (1654, Cond.methodLink "LeakyLineLaw" 98 yX9_when) (List.mem_of_getElem? (i := 41) rfl)), rfl⟩
set_option maxRecDepth 100000 in
theorem w_1655 : Cond.instanceMethod yX9_when ∈ lw_ok := List.mem_filter.mpr ⟨List.mem_of_getElem? (wl_13_ok (1655, Cond.instanceMethod yX9_when) (List.mem_of_getElem? (i := 42) rfl)), rfl⟩
set_option maxRecDepth 100000 in
theorem w_1656 : Cond.selects RX9 yX9_when yX9_when ∈ lw_ok := List.mem_filter.mpr ⟨List.mem_of_getElem? (wl_13_ok (1656, Cond.selects RX9 yX9_when yX9_when) (List.mem_of_getElem? (i := 43) rfl)), rfl⟩
set_option maxRecDepth 100000 in
theorem w_1657 : Cond.code yX9_when cX9_when 3 (some .int) ∈ lw_ok := List.mem_filter.mpr ⟨List.mem_of_getElem? (wl_13_ok (1657, Cond.code yX9_when cX9_when 3 (some .int)) (List.mem_of_getElem? (i := 44) rfl)), rfl⟩
set_option maxRecDepth 100000 in
theorem w_1658 : Cond.methodLink RX9 308 yX9_isHeard ∈ lw_ok := List.mem_filter.mpr ⟨List.mem_of_getElem? (wl_13_ok (1658, Cond.methodLink RX9 308 yX9_isHeard) (List.mem_of_getElem? (i := 45) rfl)), rfl⟩
set_option maxRecDepth 100000 in
theorem w_1660 : Cond.instanceMethod yX9_isHeard ∈ lw_ok := List.mem_filter.mpr ⟨List.mem_of_getElem? (wl_13_ok (1660, Cond.instanceMethod yX9_isHeard) (List.mem_of_getElem? (i := 46) rfl)), rfl⟩
set_option maxRecDepth 100000 in
theorem w_1661 : Cond.code yX9_isHeard cX9_isHeard 3 (some .boolean) ∈ lw_ok := List.mem_filter.mpr ⟨List.mem_of_getElem? (wl_13_ok (1661, Cond.code yX9_isHeard cX9_isHeard 3 (some .boolean)) (List.mem_of_getElem? (i := 47) rfl)), rfl⟩
set_option maxRecDepth 100000 in
theorem w_1662 : Cond.methodLink "LeakyLineLaw" 102 yX9_deaf ∈ lw_ok := List.mem_filter.mpr ⟨List.mem_of_getElem? (wl_13_ok (1662, Cond.methodLink "LeakyLineLaw" 102 yX9_deaf) (List.mem_of_getElem? (i := 48) rfl)), rfl⟩
set_option maxRecDepth 100000 in
theorem w_1663 : Cond.instanceMethod yX9_deaf ∈ lw_ok := List.mem_filter.mpr ⟨List.mem_of_getElem? (wl_13_ok (1663, Cond.instanceMethod yX9_deaf) (List.mem_of_getElem? (i := 49) rfl)), rfl⟩
set_option maxRecDepth 100000 in
theorem w_1664 : Cond.selects RX9 yX9_deaf yX9_deaf ∈ lw_ok := List.mem_filter.mpr ⟨List.mem_of_getElem? (wl_13_ok (1664, Cond.selects RX9 yX9_deaf yX9_deaf) (List.mem_of_getElem? (i := 50) rfl)), rfl⟩
set_option maxRecDepth 100000 in
theorem w_1665 : Cond.code yX9_deaf cX9_deaf 4 (some .int) ∈ lw_ok := List.mem_filter.mpr ⟨List.mem_of_getElem? (wl_13_ok (1665, Cond.code yX9_deaf cX9_deaf 4 (some .int)) (List.mem_of_getElem? (i := 51) rfl)), rfl⟩
set_option maxRecDepth 100000 in
theorem w_1666 : Cond.methodLink "LeakyLineLaw" 106 yX9_longest ∈ lw_ok := List.mem_filter.mpr ⟨List.mem_of_getElem? (wl_13_ok (1666, Cond.methodLink "LeakyLineLaw" 106 yX9_longest) (List.mem_of_getElem? (i := 52) rfl)), rfl⟩
set_option maxRecDepth 100000 in
theorem w_1667 : Cond.instanceMethod yX9_longest ∈ lw_ok := List.mem_filter.mpr ⟨List.mem_of_getElem? (wl_13_ok (1667, Cond.instanceMethod yX9_longest) (List.mem_of_getElem? (i := 53) rfl)), rfl⟩
set_option maxRecDepth 100000 in
theorem w_1668 : Cond.selects RX9 yX9_longest yX9_longest ∈ lw_ok := List.mem_filter.mpr ⟨List.mem_of_getElem? (wl_13_ok (1668, Cond.selects RX9 yX9_longest yX9_longest) (List.mem_of_getElem? (i := 54) rfl)), rfl⟩
set_option maxRecDepth 100000 in
theorem w_1669 : Cond.code yX9_longest cX9_longest 5 (some .int) ∈ lw_ok := List.mem_filter.mpr ⟨List.mem_of_getElem? (wl_13_ok (1669, Cond.code yX9_longest cX9_longest 5 (some .int)) (List.mem_of_getElem? (i := 55) rfl)), rfl⟩
set_option maxRecDepth 100000 in
theorem w_1670 : Cond.methodLink "LeakyLineLaw" 110 yX9_flips ∈ lw_ok := List.mem_filter.mpr ⟨List.mem_of_getElem? (wl_13_ok (1670, Cond.methodLink "LeakyLineLaw" 110 yX9_flips) (List.mem_of_getElem? (i := 56) rfl)), rfl⟩
set_option maxRecDepth 100000 in
theorem w_1671 : Cond.instanceMethod yX9_flips ∈ lw_ok := List.mem_filter.mpr ⟨List.mem_of_getElem? (wl_13_ok (1671, Cond.instanceMethod yX9_flips) (List.mem_of_getElem? (i := 57) rfl)), rfl⟩
set_option maxRecDepth 100000 in
theorem w_1672 : Cond.selects RX9 yX9_flips yX9_flips ∈ lw_ok := List.mem_filter.mpr ⟨List.mem_of_getElem? (wl_13_ok (1672, Cond.selects RX9 yX9_flips yX9_flips) (List.mem_of_getElem? (i := 58) rfl)), rfl⟩
set_option maxRecDepth 100000 in
theorem w_1673 : Cond.code yX9_flips cX9_flips 4 (some .int) ∈ lw_ok := List.mem_filter.mpr ⟨List.mem_of_getElem? (wl_13_ok (1673, Cond.code yX9_flips cX9_flips 4 (some .int)) (List.mem_of_getElem? (i := 59) rfl)), rfl⟩
set_option maxRecDepth 100000 in
theorem w_1674 : Cond.methodLink "LeakyLineLaw" 114 yX9_clear ∈ lw_ok := List.mem_filter.mpr ⟨List.mem_of_getElem? (wl_13_ok (1674, Cond.methodLink "LeakyLineLaw" 114 yX9_clear) (List.mem_of_getElem? (i := 60) rfl)), rfl⟩
set_option maxRecDepth 100000 in
theorem w_1675 : Cond.instanceMethod yX9_clear ∈ lw_ok := List.mem_filter.mpr ⟨List.mem_of_getElem? (wl_13_ok (1675, Cond.instanceMethod yX9_clear) (List.mem_of_getElem? (i := 61) rfl)), rfl⟩
set_option maxRecDepth 100000 in
theorem w_1676 : Cond.selects RX9 yX9_clear yX9_clear ∈ lw_ok := List.mem_filter.mpr ⟨List.mem_of_getElem? (wl_13_ok (1676, Cond.selects RX9 yX9_clear yX9_clear) (List.mem_of_getElem? (i := 62) rfl)), rfl⟩
set_option maxRecDepth 100000 in
theorem w_1677 : Cond.code yX9_clear cX9_clear 3 (some .int) ∈ lw_ok := List.mem_filter.mpr ⟨List.mem_of_getElem? (wl_13_ok (1677, Cond.code yX9_clear cX9_clear 3 (some .int)) (List.mem_of_getElem? (i := 63) rfl)), rfl⟩
set_option maxRecDepth 100000 in
theorem w_1678 : Cond.methodLink "LeakyLineLaw" 118 yX9_last ∈ lw_ok := List.mem_filter.mpr ⟨List.mem_of_getElem? (wl_13_ok (1678, Cond.methodLink "LeakyLineLaw" 118 yX9_last) (List.mem_of_getElem? (i := 64) rfl)), rfl⟩
set_option maxRecDepth 100000 in
theorem w_1679 : Cond.instanceMethod yX9_last ∈ lw_ok := List.mem_filter.mpr ⟨List.mem_of_getElem? (wl_13_ok (1679, Cond.instanceMethod yX9_last) (List.mem_of_getElem? (i := 65) rfl)), rfl⟩
set_option maxRecDepth 100000 in
theorem w_1680 : Cond.selects RX9 yX9_last yX9_last ∈ lw_ok := List.mem_filter.mpr ⟨List.mem_of_getElem? (wl_13_ok (1680, Cond.selects RX9 yX9_last yX9_last) (List.mem_of_getElem? (i := 66) rfl)), rfl⟩
set_option maxRecDepth 100000 in
theorem w_1681 : Cond.code yX9_last cX9_last 2 (some .int) ∈ lw_ok := List.mem_filter.mpr ⟨List.mem_of_getElem? (wl_13_ok (1681, Cond.code yX9_last cX9_last 2 (some .int)) (List.mem_of_getElem? (i := 67) rfl)), rfl⟩
set_option maxRecDepth 100000 in
theorem w_1682 : Cond.methodLink "LeakyLineLaw" 122 yX9_dim ∈ lw_ok := List.mem_filter.mpr ⟨List.mem_of_getElem? (wl_13_ok (1682, Cond.methodLink "LeakyLineLaw" 122 yX9_dim) (List.mem_of_getElem? (i := 68) rfl)), rfl⟩
set_option maxRecDepth 100000 in
theorem w_1683 : Cond.instanceMethod yX9_dim ∈ lw_ok := List.mem_filter.mpr ⟨List.mem_of_getElem? (wl_13_ok (1683, Cond.instanceMethod yX9_dim) (List.mem_of_getElem? (i := 69) rfl)), rfl⟩
set_option maxRecDepth 100000 in
theorem w_1684 : Cond.selects RX9 yX9_dim yX9_dim ∈ lw_ok := List.mem_filter.mpr ⟨List.mem_of_getElem? (wl_13_ok (1684, Cond.selects RX9 yX9_dim yX9_dim) (List.mem_of_getElem? (i := 70) rfl)), rfl⟩
set_option maxRecDepth 100000 in
theorem w_1685 : Cond.code yX9_dim cX9_dim 1 (some .int) ∈ lw_ok := List.mem_filter.mpr ⟨List.mem_of_getElem? (wl_13_ok (1685, Cond.code yX9_dim cX9_dim 1 (some .int)) (List.mem_of_getElem? (i := 71) rfl)), rfl⟩
set_option maxRecDepth 100000 in
theorem w_1686 : Cond.methodLink RX9 311 yX9_dayBy ∈ lw_ok := List.mem_filter.mpr ⟨List.mem_of_getElem? (wl_13_ok (1686, Cond.methodLink RX9 311 yX9_dayBy) (List.mem_of_getElem? (i := 72) rfl)), rfl⟩
set_option maxRecDepth 100000 in
theorem w_1688 : Cond.instanceMethod yX9_dayBy ∈ lw_ok := List.mem_filter.mpr ⟨List.mem_of_getElem? (wl_13_ok (1688, Cond.instanceMethod yX9_dayBy) (List.mem_of_getElem? (i := 73) rfl)), rfl⟩
set_option maxRecDepth 100000 in
theorem w_1689 : Cond.code yX9_dayBy cX9_dayBy 6 (some .int) ∈ lw_ok := List.mem_filter.mpr ⟨List.mem_of_getElem? (wl_13_ok (1689, Cond.code yX9_dayBy cX9_dayBy 6 (some .int)) (List.mem_of_getElem? (i := 74) rfl)), rfl⟩
set_option maxRecDepth 100000 in
theorem w_1690 : Cond.methodLink RX9 274 yX9_sizeOf ∈ lw_ok := List.mem_filter.mpr ⟨List.mem_of_getElem? (wl_13_ok (1690, Cond.methodLink RX9 274 yX9_sizeOf) (List.mem_of_getElem? (i := 75) rfl)), rfl⟩
set_option maxRecDepth 100000 in
theorem w_1691 : Cond.static yX9_sizeOf ∈ lw_ok := List.mem_filter.mpr ⟨List.mem_of_getElem? (wl_13_ok (1691, Cond.static yX9_sizeOf) (List.mem_of_getElem? (i := 76) rfl)), rfl⟩
set_option maxRecDepth 100000 in
theorem w_1692 : Cond.code yX9_sizeOf cX9_sizeOf 3 (some .int) ∈ lw_ok := List.mem_filter.mpr ⟨List.mem_of_getElem? (wl_13_ok (1692, Cond.code yX9_sizeOf cX9_sizeOf 3 (some .int)) (List.mem_of_getElem? (i := 77) rfl)), rfl⟩
set_option maxRecDepth 100000 in
theorem w_1693 : Cond.methodLink "LeakyLineLaw" 146 yX9_bright ∈ lw_ok := List.mem_filter.mpr ⟨List.mem_of_getElem? (wl_13_ok (1693, Cond.methodLink "LeakyLineLaw" 146 yX9_bright) (List.mem_of_getElem? (i := 78) rfl)), rfl⟩
set_option maxRecDepth 100000 in
theorem w_1694 : Cond.instanceMethod yX9_bright ∈ lw_ok := List.mem_filter.mpr ⟨List.mem_of_getElem? (wl_13_ok (1694, Cond.instanceMethod yX9_bright) (List.mem_of_getElem? (i := 79) rfl)), rfl⟩
set_option maxRecDepth 100000 in
theorem w_1695 : Cond.selects RX9 yX9_bright yX9_bright ∈ lw_ok := List.mem_filter.mpr ⟨List.mem_of_getElem? (wl_13_ok (1695, Cond.selects RX9 yX9_bright yX9_bright) (List.mem_of_getElem? (i := 80) rfl)), rfl⟩
set_option maxRecDepth 100000 in
theorem w_1696 : Cond.code yX9_bright cX9_bright 1 (some .int) ∈ lw_ok := List.mem_filter.mpr ⟨List.mem_of_getElem? (wl_13_ok (1696, Cond.code yX9_bright cX9_bright 1 (some .int)) (List.mem_of_getElem? (i := 81) rfl)), rfl⟩
set_option maxRecDepth 100000 in
theorem w_1697 : Cond.methodLink "LeakyLineLaw" 126 yX9_sum ∈ lw_ok := List.mem_filter.mpr ⟨List.mem_of_getElem? (wl_13_ok (1697, Cond.methodLink "LeakyLineLaw" 126 yX9_sum) (List.mem_of_getElem? (i := 82) rfl)), rfl⟩
set_option maxRecDepth 100000 in
theorem w_1698 : Cond.instanceMethod yX9_sum ∈ lw_ok := List.mem_filter.mpr ⟨List.mem_of_getElem? (wl_13_ok (1698, Cond.instanceMethod yX9_sum) (List.mem_of_getElem? (i := 83) rfl)), rfl⟩
set_option maxRecDepth 100000 in
theorem w_1699 : Cond.selects RX9 yX9_sum yX9_sum ∈ lw_ok := List.mem_filter.mpr ⟨List.mem_of_getElem? (wl_13_ok (1699, Cond.selects RX9 yX9_sum yX9_sum) (List.mem_of_getElem? (i := 84) rfl)), rfl⟩
set_option maxRecDepth 100000 in
theorem w_1700 : Cond.code yX9_sum cX9_sum 1 (some .int) ∈ lw_ok := List.mem_filter.mpr ⟨List.mem_of_getElem? (wl_13_ok (1700, Cond.code yX9_sum cX9_sum 1 (some .int)) (List.mem_of_getElem? (i := 85) rfl)), rfl⟩
set_option maxRecDepth 100000 in
theorem w_1701 : Cond.methodLink RX9 314 yX9_sumNow ∈ lw_ok := List.mem_filter.mpr ⟨List.mem_of_getElem? (wl_13_ok (1701, Cond.methodLink RX9 314 yX9_sumNow) (List.mem_of_getElem? (i := 86) rfl)), rfl⟩
set_option maxRecDepth 100000 in
theorem w_1703 : Cond.instanceMethod yX9_sumNow ∈ lw_ok := List.mem_filter.mpr ⟨List.mem_of_getElem? (wl_13_ok (1703, Cond.instanceMethod yX9_sumNow) (List.mem_of_getElem? (i := 87) rfl)), rfl⟩
set_option maxRecDepth 100000 in
theorem w_1704 : Cond.code yX9_sumNow cX9_sumNow 3 (some .int) ∈ lw_ok := List.mem_filter.mpr ⟨List.mem_of_getElem? (wl_13_ok (1704, Cond.code yX9_sumNow cX9_sumNow 3 (some .int)) (List.mem_of_getElem? (i := 88) rfl)), rfl⟩
set_option maxRecDepth 100000 in
theorem w_1705 : Cond.methodLink "LeakyLineLaw" 130 yX9_worst ∈ lw_ok := List.mem_filter.mpr ⟨List.mem_of_getElem? (wl_13_ok (1705, Cond.methodLink "LeakyLineLaw" 130 yX9_worst) (List.mem_of_getElem? (i := 89) rfl)), rfl⟩
set_option maxRecDepth 100000 in
theorem w_1706 : Cond.instanceMethod yX9_worst ∈ lw_ok := List.mem_filter.mpr ⟨List.mem_of_getElem? (wl_13_ok (1706, Cond.instanceMethod yX9_worst) (List.mem_of_getElem? (i := 90) rfl)), rfl⟩
set_option maxRecDepth 100000 in
theorem w_1707 : Cond.selects RX9 yX9_worst yX9_worst ∈ lw_ok := List.mem_filter.mpr ⟨List.mem_of_getElem? (wl_13_ok (1707, Cond.selects RX9 yX9_worst yX9_worst) (List.mem_of_getElem? (i := 91) rfl)), rfl⟩
set_option maxRecDepth 100000 in
theorem w_1708 : Cond.code yX9_worst cX9_worst 4 (some .int) ∈ lw_ok := List.mem_filter.mpr ⟨List.mem_of_getElem? (wl_13_ok (1708, Cond.code yX9_worst cX9_worst 4 (some .int)) (List.mem_of_getElem? (i := 92) rfl)), rfl⟩
set_option maxRecDepth 100000 in
theorem w_1709 : Cond.methodLink "LeakyLineLaw" 134 yX9_damp ∈ lw_ok := List.mem_filter.mpr ⟨List.mem_of_getElem? (wl_13_ok (1709, Cond.methodLink "LeakyLineLaw" 134 yX9_damp) (List.mem_of_getElem? (i := 93) rfl)), rfl⟩
set_option maxRecDepth 100000 in
theorem w_1710 : Cond.instanceMethod yX9_damp ∈ lw_ok := List.mem_filter.mpr ⟨List.mem_of_getElem? (wl_13_ok (1710, Cond.instanceMethod yX9_damp) (List.mem_of_getElem? (i := 94) rfl)), rfl⟩
set_option maxRecDepth 100000 in
theorem w_1711 : Cond.selects RX9 yX9_damp yX9_damp ∈ lw_ok := List.mem_filter.mpr ⟨List.mem_of_getElem? (wl_13_ok (1711, Cond.selects RX9 yX9_damp yX9_damp) (List.mem_of_getElem? (i := 95) rfl)), rfl⟩
set_option maxRecDepth 100000 in
theorem w_1712 : Cond.code yX9_damp cX9_damp 4 (some .int) ∈ lw_ok := List.mem_filter.mpr ⟨List.mem_of_getElem? (wl_13_ok (1712, Cond.code yX9_damp cX9_damp 4 (some .int)) (List.mem_of_getElem? (i := 96) rfl)), rfl⟩
set_option maxRecDepth 100000 in
theorem w_1713 : Cond.methodLink "LeakyLineLaw" 138 yX9_spell ∈ lw_ok := List.mem_filter.mpr ⟨List.mem_of_getElem? (wl_13_ok (1713, Cond.methodLink "LeakyLineLaw" 138 yX9_spell) (List.mem_of_getElem? (i := 97) rfl)), rfl⟩
set_option maxRecDepth 100000 in
theorem w_1714 : Cond.instanceMethod yX9_spell ∈ lw_ok := List.mem_filter.mpr ⟨List.mem_of_getElem? (wl_13_ok (1714, Cond.instanceMethod yX9_spell) (List.mem_of_getElem? (i := 98) rfl)), rfl⟩
set_option maxRecDepth 100000 in
theorem w_1715 : Cond.selects RX9 yX9_spell yX9_spell ∈ lw_ok := List.mem_filter.mpr ⟨List.mem_of_getElem? (wl_13_ok (1715, Cond.selects RX9 yX9_spell yX9_spell) (List.mem_of_getElem? (i := 99) rfl)), rfl⟩
def wl_14 : List (Nat × Cond) := [(1716, Cond.code yX9_spell cX9_spell 1 (some .int)), (1717, Cond.methodLink RX9 317 yX9_spellOf), (1719, Cond.instanceMethod yX9_spellOf), (1720, Cond.code yX9_spellOf cX9_spellOf 5 (some .int)), (1721, Cond.methodLink "LeakyLineLaw" 154 yX9_dry), (1722, Cond.instanceMethod yX9_dry), (1723, Cond.selects RX9 yX9_dry yX9_dry), (1724, Cond.code yX9_dry cX9_dry 1 (some .int)), (1725, Cond.methodLink "LeakyLineLaw" 142 yX9_margin), (1726, Cond.instanceMethod yX9_margin), (1727, Cond.selects RX9 yX9_margin yX9_margin), (1728, Cond.code yX9_margin cX9_margin 3 (some .int)), (1729, Cond.methodLink "LeakyLineLaw" 150 yX9_rises), (1730, Cond.instanceMethod yX9_rises), (1731, Cond.selects RX9 yX9_rises yX9_rises), (1732, Cond.code yX9_rises cX9_rises 4 (some .int)), (1733, Cond.methodLink "LeakyLineLaw" 158 yX9_ends), (1734, Cond.instanceMethod yX9_ends), (1735, Cond.selects RX9 yX9_ends yX9_ends), (1736, Cond.code yX9_ends cX9_ends 2 (some .int)), (1737, Cond.methodLink "LeakyLineLaw" 162 yX9_reach), (1738, Cond.instanceMethod yX9_reach), (1739, Cond.selects RX9 yX9_reach yX9_reach), (1740, Cond.code yX9_reach cX9_reach 4 (some .int)), (1741, Cond.methodLink "LeakyLineLaw" 166 yX9_both), (1742, Cond.instanceMethod yX9_both), (1743, Cond.selects RX9 yX9_both yX9_both), (1744, Cond.code yX9_both cX9_both 3 (some .int)), (1745, Cond.methodLink RX9 321 yX9_daysOf), (1747, Cond.instanceMethod yX9_daysOf), (1748, Cond.code yX9_daysOf cX9_daysOf 7 (some .int)), (1749, Cond.methodLink "LeakyLineLaw" 170 yX9_apart), (1750, Cond.instanceMethod yX9_apart), (1751, Cond.selects RX9 yX9_apart yX9_apart), (1752, Cond.code yX9_apart cX9_apart 3 (some .int)), (1753, Cond.methodLink "LeakyLineLaw" 174 yX9_half), (1754, Cond.instanceMethod yX9_half), (1755, Cond.selects RX9 yX9_half yX9_half), (1756, Cond.code yX9_half cX9_half 3 (some .int)), (1757, Cond.methodLink "LeakyLineLaw" 178 yX9_grounds), (1758, Cond.instanceMethod yX9_grounds), (1759, Cond.selects RX9 yX9_grounds yX9_grounds), (1760, Cond.code yX9_grounds cX9_grounds 4 (some .int)), (1761, Cond.methodLink "LeakyLineLaw" 182 yX9_steep), (1762, Cond.instanceMethod yX9_steep), (1763, Cond.selects RX9 yX9_steep yX9_steep), (1764, Cond.code yX9_steep cX9_steep 4 (some .int)), (1765, Cond.methodLink "LeakyLineLaw" 186 yX9_mute), (1766, Cond.instanceMethod yX9_mute), (1767, Cond.selects RX9 yX9_mute yX9_mute), (1768, Cond.code yX9_mute cX9_mute 3 (some .int)), (1769, Cond.methodLink "LeakyLineLaw" 190 yX9_changes), (1770, Cond.instanceMethod yX9_changes), (1771, Cond.selects RX9 yX9_changes yX9_changes), (1772, Cond.code yX9_changes cX9_changes 3 (some .int)), (1773, Cond.methodLink "LeakyLineLaw" 194 yX9_all), (1774, Cond.instanceMethod yX9_all), (1775, Cond.selects RX9 yX9_all yX9_all), (1776, Cond.code yX9_all cX9_all 1 (some .int)), (1777, Cond.methodLink RX9 325 yX9_worthOf), (1779, Cond.instanceMethod yX9_worthOf), (1780, Cond.code yX9_worthOf cX9_worthOf 2 (some .int)), (1781, Cond.methodLink "LeakyLineLaw" 198 yX9_without), (1782, Cond.instanceMethod yX9_without), (1783, Cond.selects RX9 yX9_without yX9_without), (1784, Cond.code yX9_without cX9_without 2 (some .int)), (1785, Cond.methodLink "LeakyLineLaw" 202 yX9_cupped), (1786, Cond.instanceMethod yX9_cupped), (1787, Cond.selects RX9 yX9_cupped yX9_cupped), (1788, Cond.code yX9_cupped cX9_cupped 3 (some .int)), (1789, Cond.methodLink "LeakyLineLaw" 206 yX9_snapped), (1790, Cond.instanceMethod yX9_snapped), (1791, Cond.selects RX9 yX9_snapped yX9_snapped), (1792, Cond.code yX9_snapped cX9_snapped 3 (some .int)), (1793, Cond.methodLink "LeakyLineLaw" 210 yX9_lack), (1794, Cond.instanceMethod yX9_lack), (1795, Cond.selects RX9 yX9_lack yX9_lack), (1796, Cond.code yX9_lack cX9_lack 5 (some .int)), (1797, Cond.methodLink "LeakyLineLaw" 214 yX9_loud), (1798, Cond.instanceMethod yX9_loud), (1799, Cond.selects RX9 yX9_loud yX9_loud), (1800, Cond.code yX9_loud cX9_loud 4 (some .int)), (1801, Cond.methodLink "LeakyLineLaw" 218 yX9_weakest), (1802, Cond.instanceMethod yX9_weakest), (1803, Cond.selects RX9 yX9_weakest yX9_weakest), (1804, Cond.code yX9_weakest cX9_weakest 1 (some .int)), (1805, Cond.methodLink RX9 328 yX9_stationBy), (1807, Cond.instanceMethod yX9_stationBy), (1808, Cond.code yX9_stationBy cX9_stationBy 7 (some .int)), (1809, Cond.methodLink "LeakyLineLaw" 222 yX9_strong), (1810, Cond.instanceMethod yX9_strong), (1811, Cond.selects RX9 yX9_strong yX9_strong), (1812, Cond.code yX9_strong cX9_strong 1 (some .int)), (1813, Cond.methodLink "LeakyLineLaw" 226 yX9_battery), (1814, Cond.instanceMethod yX9_battery), (1815, Cond.selects RX9 yX9_battery yX9_battery), (1816, Cond.code yX9_battery cX9_battery 2 (some .int)), (1817, Cond.methodLink RX9 334 yX9_batteryOf), (1819, Cond.instanceMethod yX9_batteryOf), (1820, Cond.code yX9_batteryOf cX9_batteryOf 4 (some .int))]
set_option maxRecDepth 100000 in
theorem wl_14_ok : ∀ x ∈ wl_14, lw_tbl[x.1]? = some x.2 := by decide +kernel
set_option maxRecDepth 100000 in
theorem w_1716 : Cond.code yX9_spell cX9_spell 1 (some .int) ∈ lw_ok := List.mem_filter.mpr ⟨List.mem_of_getElem? (wl_14_ok (1716, Cond.code yX9_spell cX9_spell 1 (some .int)) (List.mem_of_getElem? (i := 0) rfl)), rfl⟩
set_option maxRecDepth 100000 in
theorem w_1717 : Cond.methodLink RX9 317 yX9_spellOf ∈ lw_ok := List.mem_filter.mpr ⟨List.mem_of_getElem? (wl_14_ok (1717, Cond.methodLink RX9 317 yX9_spellOf) (List.mem_of_getElem? (i := 1) rfl)), rfl⟩
set_option maxRecDepth 100000 in
theorem w_1719 : Cond.instanceMethod yX9_spellOf ∈ lw_ok := List.mem_filter.mpr ⟨List.mem_of_getElem? (wl_14_ok (1719, Cond.instanceMethod yX9_spellOf) (List.mem_of_getElem? (i := 2) rfl)), rfl⟩
set_option maxRecDepth 100000 in
theorem w_1720 : Cond.code yX9_spellOf cX9_spellOf 5 (some .int) ∈ lw_ok := List.mem_filter.mpr ⟨List.mem_of_getElem? (wl_14_ok (1720, Cond.code yX9_spellOf cX9_spellOf 5 (some .int)) (List.mem_of_getElem? (i := 3) rfl)), rfl⟩
set_option maxRecDepth 100000 in
theorem w_1721 : Cond.methodLink "LeakyLineLaw" 154 yX9_dry ∈ lw_ok := List.mem_filter.mpr ⟨List.mem_of_getElem? (wl_14_ok (1721, Cond.methodLink "LeakyLineLaw" 154 yX9_dry) (List.mem_of_getElem? (i := 4) rfl)), rfl⟩
set_option maxRecDepth 100000 in
theorem w_1722 : Cond.instanceMethod yX9_dry ∈ lw_ok := List.mem_filter.mpr ⟨List.mem_of_getElem? (wl_14_ok (1722, Cond.instanceMethod yX9_dry) (List.mem_of_getElem? (i := 5) rfl)), rfl⟩
set_option maxRecDepth 100000 in
theorem w_1723 : Cond.selects RX9 yX9_dry yX9_dry ∈ lw_ok := List.mem_filter.mpr ⟨List.mem_of_getElem? (wl_14_ok (1723, Cond.selects RX9 yX9_dry yX9_dry) (List.mem_of_getElem? (i := 6) rfl)), rfl⟩
set_option maxRecDepth 100000 in
theorem w_1724 : Cond.code yX9_dry cX9_dry 1 (some .int) ∈ lw_ok := List.mem_filter.mpr ⟨List.mem_of_getElem? (wl_14_ok (1724, Cond.code yX9_dry cX9_dry 1 (some .int)) (List.mem_of_getElem? (i := 7) rfl)), rfl⟩
set_option maxRecDepth 100000 in
theorem w_1725 : Cond.methodLink "LeakyLineLaw" 142 yX9_margin ∈ lw_ok := List.mem_filter.mpr ⟨List.mem_of_getElem? (wl_14_ok (1725, Cond.methodLink "LeakyLineLaw" 142 yX9_margin) (List.mem_of_getElem? (i := 8) rfl)), rfl⟩
set_option maxRecDepth 100000 in
theorem w_1726 : Cond.instanceMethod yX9_margin ∈ lw_ok := List.mem_filter.mpr ⟨List.mem_of_getElem? (wl_14_ok (1726, Cond.instanceMethod yX9_margin) (List.mem_of_getElem? (i := 9) rfl)), rfl⟩
set_option maxRecDepth 100000 in
theorem w_1727 : Cond.selects RX9 yX9_margin yX9_margin ∈ lw_ok := List.mem_filter.mpr ⟨List.mem_of_getElem? (wl_14_ok (1727, Cond.selects RX9 yX9_margin yX9_margin) (List.mem_of_getElem? (i := 10) rfl)), rfl⟩
set_option maxRecDepth 100000 in
theorem w_1728 : Cond.code yX9_margin cX9_margin 3 (some .int) ∈ lw_ok := List.mem_filter.mpr ⟨List.mem_of_getElem? (wl_14_ok (1728, Cond.code yX9_margin cX9_margin 3 (some .int)) (List.mem_of_getElem? (i := 11) rfl)), rfl⟩
set_option maxRecDepth 100000 in
theorem w_1729 : Cond.methodLink "LeakyLineLaw" 150 yX9_rises ∈ lw_ok := List.mem_filter.mpr ⟨List.mem_of_getElem? (wl_14_ok (1729, Cond.methodLink "LeakyLineLaw" 150 yX9_rises) (List.mem_of_getElem? (i := 12) rfl)), rfl⟩
set_option maxRecDepth 100000 in
theorem w_1730 : Cond.instanceMethod yX9_rises ∈ lw_ok := List.mem_filter.mpr ⟨List.mem_of_getElem? (wl_14_ok (1730, Cond.instanceMethod yX9_rises) (List.mem_of_getElem? (i := 13) rfl)), rfl⟩
set_option maxRecDepth 100000 in
theorem w_1731 : Cond.selects RX9 yX9_rises yX9_rises ∈ lw_ok := List.mem_filter.mpr ⟨List.mem_of_getElem? (wl_14_ok (1731, Cond.selects RX9 yX9_rises yX9_rises) (List.mem_of_getElem? (i := 14) rfl)), rfl⟩
set_option maxRecDepth 100000 in
theorem w_1732 : Cond.code yX9_rises cX9_rises 4 (some .int) ∈ lw_ok := List.mem_filter.mpr ⟨List.mem_of_getElem? (wl_14_ok (1732, Cond.code yX9_rises cX9_rises 4 (some .int)) (List.mem_of_getElem? (i := 15) rfl)), rfl⟩
set_option maxRecDepth 100000 in
theorem w_1733 : Cond.methodLink "LeakyLineLaw" 158 yX9_ends ∈ lw_ok := List.mem_filter.mpr ⟨List.mem_of_getElem? (wl_14_ok (1733, Cond.methodLink "LeakyLineLaw" 158 yX9_ends) (List.mem_of_getElem? (i := 16) rfl)), rfl⟩
set_option maxRecDepth 100000 in
theorem w_1734 : Cond.instanceMethod yX9_ends ∈ lw_ok := List.mem_filter.mpr ⟨List.mem_of_getElem? (wl_14_ok (1734, Cond.instanceMethod yX9_ends) (List.mem_of_getElem? (i := 17) rfl)), rfl⟩
set_option maxRecDepth 100000 in
theorem w_1735 : Cond.selects RX9 yX9_ends yX9_ends ∈ lw_ok := List.mem_filter.mpr ⟨List.mem_of_getElem? (wl_14_ok (1735, Cond.selects RX9 yX9_ends yX9_ends) (List.mem_of_getElem? (i := 18) rfl)), rfl⟩
set_option maxRecDepth 100000 in
theorem w_1736 : Cond.code yX9_ends cX9_ends 2 (some .int) ∈ lw_ok := List.mem_filter.mpr ⟨List.mem_of_getElem? (wl_14_ok (1736, Cond.code yX9_ends cX9_ends 2 (some .int)) (List.mem_of_getElem? (i := 19) rfl)), rfl⟩
set_option maxRecDepth 100000 in
theorem w_1737 : Cond.methodLink "LeakyLineLaw" 162 yX9_reach ∈ lw_ok := List.mem_filter.mpr ⟨List.mem_of_getElem? (wl_14_ok (1737, Cond.methodLink "LeakyLineLaw" 162 yX9_reach) (List.mem_of_getElem? (i := 20) rfl)), rfl⟩
set_option maxRecDepth 100000 in
theorem w_1738 : Cond.instanceMethod yX9_reach ∈ lw_ok := List.mem_filter.mpr ⟨List.mem_of_getElem? (wl_14_ok (1738, Cond.instanceMethod yX9_reach) (List.mem_of_getElem? (i := 21) rfl)), rfl⟩
set_option maxRecDepth 100000 in
theorem w_1739 : Cond.selects RX9 yX9_reach yX9_reach ∈ lw_ok := List.mem_filter.mpr ⟨List.mem_of_getElem? (wl_14_ok (1739, Cond.selects RX9 yX9_reach yX9_reach) (List.mem_of_getElem? (i := 22) rfl)), rfl⟩
set_option maxRecDepth 100000 in
theorem w_1740 : Cond.code yX9_reach cX9_reach 4 (some .int) ∈ lw_ok := List.mem_filter.mpr ⟨List.mem_of_getElem? (wl_14_ok (1740, Cond.code yX9_reach cX9_reach 4 (some .int)) (List.mem_of_getElem? (i := 23) rfl)), rfl⟩
set_option maxRecDepth 100000 in
theorem w_1741 : Cond.methodLink "LeakyLineLaw" 166 yX9_both ∈ lw_ok := List.mem_filter.mpr ⟨List.mem_of_getElem? (wl_14_ok (1741, Cond.methodLink "LeakyLineLaw" 166 yX9_both) (List.mem_of_getElem? (i := 24) rfl)), rfl⟩
set_option maxRecDepth 100000 in
theorem w_1742 : Cond.instanceMethod yX9_both ∈ lw_ok := List.mem_filter.mpr ⟨List.mem_of_getElem? (wl_14_ok (1742, Cond.instanceMethod yX9_both) (List.mem_of_getElem? (i := 25) rfl)), rfl⟩
set_option maxRecDepth 100000 in
theorem w_1743 : Cond.selects RX9 yX9_both yX9_both ∈ lw_ok := List.mem_filter.mpr ⟨List.mem_of_getElem? (wl_14_ok (1743, Cond.selects RX9 yX9_both yX9_both) (List.mem_of_getElem? (i := 26) rfl)), rfl⟩
set_option maxRecDepth 100000 in
theorem w_1744 : Cond.code yX9_both cX9_both 3 (some .int) ∈ lw_ok := List.mem_filter.mpr ⟨List.mem_of_getElem? (wl_14_ok (1744, Cond.code yX9_both cX9_both 3 (some .int)) (List.mem_of_getElem? (i := 27) rfl)), rfl⟩
set_option maxRecDepth 100000 in
theorem w_1745 : Cond.methodLink RX9 321 yX9_daysOf ∈ lw_ok := List.mem_filter.mpr ⟨List.mem_of_getElem? (wl_14_ok (1745, Cond.methodLink RX9 321 yX9_daysOf) (List.mem_of_getElem? (i := 28) rfl)), rfl⟩
set_option maxRecDepth 100000 in
theorem w_1747 : Cond.instanceMethod yX9_daysOf ∈ lw_ok := List.mem_filter.mpr ⟨List.mem_of_getElem? (wl_14_ok (1747, Cond.instanceMethod yX9_daysOf) (List.mem_of_getElem? (i := 29) rfl)), rfl⟩
set_option maxRecDepth 100000 in
theorem w_1748 : Cond.code yX9_daysOf cX9_daysOf 7 (some .int) ∈ lw_ok := List.mem_filter.mpr ⟨List.mem_of_getElem? (wl_14_ok (1748, Cond.code yX9_daysOf cX9_daysOf 7 (some .int)) (List.mem_of_getElem? (i := 30) rfl)), rfl⟩
set_option maxRecDepth 100000 in
theorem w_1749 : Cond.methodLink "LeakyLineLaw" 170 yX9_apart ∈ lw_ok := List.mem_filter.mpr ⟨List.mem_of_getElem? (wl_14_ok (1749, Cond.methodLink "LeakyLineLaw" 170 yX9_apart) (List.mem_of_getElem? (i := 31) rfl)), rfl⟩
set_option maxRecDepth 100000 in
theorem w_1750 : Cond.instanceMethod yX9_apart ∈ lw_ok := List.mem_filter.mpr ⟨List.mem_of_getElem? (wl_14_ok (1750, Cond.instanceMethod yX9_apart) (List.mem_of_getElem? (i := 32) rfl)), rfl⟩
set_option maxRecDepth 100000 in
theorem w_1751 : Cond.selects RX9 yX9_apart yX9_apart ∈ lw_ok := List.mem_filter.mpr ⟨List.mem_of_getElem? (wl_14_ok (1751, Cond.selects RX9 yX9_apart yX9_apart) (List.mem_of_getElem? (i := 33) rfl)), rfl⟩
set_option maxRecDepth 100000 in
theorem w_1752 : Cond.code yX9_apart cX9_apart 3 (some .int) ∈ lw_ok := List.mem_filter.mpr ⟨List.mem_of_getElem? (wl_14_ok (1752, Cond.code yX9_apart cX9_apart 3 (some .int)) (List.mem_of_getElem? (i := 34) rfl)), rfl⟩
set_option maxRecDepth 100000 in
theorem w_1753 : Cond.methodLink "LeakyLineLaw" 174 yX9_half ∈ lw_ok := List.mem_filter.mpr ⟨List.mem_of_getElem? (wl_14_ok (1753, Cond.methodLink "LeakyLineLaw" 174 yX9_half) (List.mem_of_getElem? (i := 35) rfl)), rfl⟩
set_option maxRecDepth 100000 in
theorem w_1754 : Cond.instanceMethod yX9_half ∈ lw_ok := List.mem_filter.mpr ⟨List.mem_of_getElem? (wl_14_ok (1754, Cond.instanceMethod yX9_half) (List.mem_of_getElem? (i := 36) rfl)), rfl⟩
set_option maxRecDepth 100000 in
theorem w_1755 : Cond.selects RX9 yX9_half yX9_half ∈ lw_ok := List.mem_filter.mpr ⟨List.mem_of_getElem? (wl_14_ok (1755, Cond.selects RX9 yX9_half yX9_half) (List.mem_of_getElem? (i := 37) rfl)), rfl⟩
set_option maxRecDepth 100000 in
theorem w_1756 : Cond.code yX9_half cX9_half 3 (some .int) ∈ lw_ok := List.mem_filter.mpr ⟨List.mem_of_getElem? (wl_14_ok (1756, Cond.code yX9_half cX9_half 3 (some .int)) (List.mem_of_getElem? (i := 38) rfl)), rfl⟩
set_option maxRecDepth 100000 in
theorem w_1757 : Cond.methodLink "LeakyLineLaw" 178 yX9_grounds ∈ lw_ok := List.mem_filter.mpr ⟨List.mem_of_getElem? (wl_14_ok (1757, Cond.methodLink "LeakyLineLaw" 178 yX9_grounds) (List.mem_of_getElem? (i := 39) rfl)), rfl⟩
set_option maxRecDepth 100000 in
theorem w_1758 : Cond.instanceMethod yX9_grounds ∈ lw_ok := List.mem_filter.mpr ⟨List.mem_of_getElem? (wl_14_ok (1758, Cond.instanceMethod yX9_grounds) (List.mem_of_getElem? (i := 40) rfl)), rfl⟩
set_option maxRecDepth 100000 in
theorem w_1759 : Cond.selects RX9 yX9_grounds yX9_grounds ∈ lw_ok := List.mem_filter.mpr ⟨List.mem_of_getElem? (wl_14_ok (1759, Cond.selects RX9 yX9_grounds yX9_grounds) (List.mem_of_getElem? (i := 41) rfl)), rfl⟩
set_option maxRecDepth 100000 in
theorem w_1760 : Cond.code yX9_grounds cX9_grounds 4 (some .int) ∈ lw_ok := List.mem_filter.mpr ⟨List.mem_of_getElem? (wl_14_ok (1760, Cond.code yX9_grounds cX9_grounds 4 (some .int)) (List.mem_of_getElem? (i := 42) rfl)), rfl⟩
set_option maxRecDepth 100000 in
theorem w_1761 : Cond.methodLink "LeakyLineLaw" 182 yX9_steep ∈ lw_ok := List.mem_filter.mpr ⟨List.mem_of_getElem? (wl_14_ok (1761, Cond.methodLink "LeakyLineLaw" 182 yX9_steep) (List.mem_of_getElem? (i := 43) rfl)), rfl⟩
set_option maxRecDepth 100000 in
theorem w_1762 : Cond.instanceMethod yX9_steep ∈ lw_ok := List.mem_filter.mpr ⟨List.mem_of_getElem? (wl_14_ok (1762, Cond.instanceMethod yX9_steep) (List.mem_of_getElem? (i := 44) rfl)), rfl⟩
set_option maxRecDepth 100000 in
theorem w_1763 : Cond.selects RX9 yX9_steep yX9_steep ∈ lw_ok := List.mem_filter.mpr ⟨List.mem_of_getElem? (wl_14_ok (1763, Cond.selects RX9 yX9_steep yX9_steep) (List.mem_of_getElem? (i := 45) rfl)), rfl⟩
set_option maxRecDepth 100000 in
theorem w_1764 : Cond.code yX9_steep cX9_steep 4 (some .int) ∈ lw_ok := List.mem_filter.mpr ⟨List.mem_of_getElem? (wl_14_ok (1764, Cond.code yX9_steep cX9_steep 4 (some .int)) (List.mem_of_getElem? (i := 46) rfl)), rfl⟩
set_option maxRecDepth 100000 in
theorem w_1765 : Cond.methodLink "LeakyLineLaw" 186 yX9_mute ∈ lw_ok := List.mem_filter.mpr ⟨List.mem_of_getElem? (wl_14_ok (1765, Cond.methodLink "LeakyLineLaw" 186 yX9_mute) (List.mem_of_getElem? (i := 47) rfl)), rfl⟩
set_option maxRecDepth 100000 in
theorem w_1766 : Cond.instanceMethod yX9_mute ∈ lw_ok := List.mem_filter.mpr ⟨List.mem_of_getElem? (wl_14_ok (1766, Cond.instanceMethod yX9_mute) (List.mem_of_getElem? (i := 48) rfl)), rfl⟩
set_option maxRecDepth 100000 in
theorem w_1767 : Cond.selects RX9 yX9_mute yX9_mute ∈ lw_ok := List.mem_filter.mpr ⟨List.mem_of_getElem? (wl_14_ok (1767, Cond.selects RX9 yX9_mute yX9_mute) (List.mem_of_getElem? (i := 49) rfl)), rfl⟩
set_option maxRecDepth 100000 in
theorem w_1768 : Cond.code yX9_mute cX9_mute 3 (some .int) ∈ lw_ok := List.mem_filter.mpr ⟨List.mem_of_getElem? (wl_14_ok (1768, Cond.code yX9_mute cX9_mute 3 (some .int)) (List.mem_of_getElem? (i := 50) rfl)), rfl⟩
set_option maxRecDepth 100000 in
theorem w_1769 : Cond.methodLink "LeakyLineLaw" 190 yX9_changes ∈ lw_ok := List.mem_filter.mpr ⟨List.mem_of_getElem? (wl_14_ok (1769, Cond.methodLink "LeakyLineLaw" 190 yX9_changes) (List.mem_of_getElem? (i := 51) rfl)), rfl⟩
set_option maxRecDepth 100000 in
theorem w_1770 : Cond.instanceMethod yX9_changes ∈ lw_ok := List.mem_filter.mpr ⟨List.mem_of_getElem? (wl_14_ok (1770, Cond.instanceMethod yX9_changes) (List.mem_of_getElem? (i := 52) rfl)), rfl⟩
set_option maxRecDepth 100000 in
theorem w_1771 : Cond.selects RX9 yX9_changes yX9_changes ∈ lw_ok := List.mem_filter.mpr ⟨List.mem_of_getElem? (wl_14_ok (1771, Cond.selects RX9 yX9_changes yX9_changes) (List.mem_of_getElem? (i := 53) rfl)), rfl⟩
set_option maxRecDepth 100000 in
theorem w_1772 : Cond.code yX9_changes cX9_changes 3 (some .int) ∈ lw_ok := List.mem_filter.mpr ⟨List.mem_of_getElem? (wl_14_ok (1772, Cond.code yX9_changes cX9_changes 3 (some .int)) (List.mem_of_getElem? (i := 54) rfl)), rfl⟩
set_option maxRecDepth 100000 in
theorem w_1773 : Cond.methodLink "LeakyLineLaw" 194 yX9_all ∈ lw_ok := List.mem_filter.mpr ⟨List.mem_of_getElem? (wl_14_ok (1773, Cond.methodLink "LeakyLineLaw" 194 yX9_all) (List.mem_of_getElem? (i := 55) rfl)), rfl⟩
set_option maxRecDepth 100000 in
theorem w_1774 : Cond.instanceMethod yX9_all ∈ lw_ok := List.mem_filter.mpr ⟨List.mem_of_getElem? (wl_14_ok (1774, Cond.instanceMethod yX9_all) (List.mem_of_getElem? (i := 56) rfl)), rfl⟩
set_option maxRecDepth 100000 in
theorem w_1775 : Cond.selects RX9 yX9_all yX9_all ∈ lw_ok := List.mem_filter.mpr ⟨List.mem_of_getElem? (wl_14_ok (1775, Cond.selects RX9 yX9_all yX9_all) (List.mem_of_getElem? (i := 57) rfl)), rfl⟩
set_option maxRecDepth 100000 in
theorem w_1776 : Cond.code yX9_all cX9_all 1 (some .int) ∈ lw_ok := List.mem_filter.mpr ⟨List.mem_of_getElem? (wl_14_ok (1776, Cond.code yX9_all cX9_all 1 (some .int)) (List.mem_of_getElem? (i := 58) rfl)), rfl⟩
set_option maxRecDepth 100000 in
theorem w_1777 : Cond.methodLink RX9 325 yX9_worthOf ∈ lw_ok := List.mem_filter.mpr ⟨List.mem_of_getElem? (wl_14_ok (1777, Cond.methodLink RX9 325 yX9_worthOf) (List.mem_of_getElem? (i := 59) rfl)), rfl⟩
set_option maxRecDepth 100000 in
theorem w_1779 : Cond.instanceMethod yX9_worthOf ∈ lw_ok := List.mem_filter.mpr ⟨List.mem_of_getElem? (wl_14_ok (1779, Cond.instanceMethod yX9_worthOf) (List.mem_of_getElem? (i := 60) rfl)), rfl⟩
set_option maxRecDepth 100000 in
theorem w_1780 : Cond.code yX9_worthOf cX9_worthOf 2 (some .int) ∈ lw_ok := List.mem_filter.mpr ⟨List.mem_of_getElem? (wl_14_ok (1780, Cond.code yX9_worthOf cX9_worthOf 2 (some .int)) (List.mem_of_getElem? (i := 61) rfl)), rfl⟩
set_option maxRecDepth 100000 in
theorem w_1781 : Cond.methodLink "LeakyLineLaw" 198 yX9_without ∈ lw_ok := List.mem_filter.mpr ⟨List.mem_of_getElem? (wl_14_ok (1781, Cond.methodLink "LeakyLineLaw" 198 yX9_without) (List.mem_of_getElem? (i := 62) rfl)), rfl⟩
set_option maxRecDepth 100000 in
theorem w_1782 : Cond.instanceMethod yX9_without ∈ lw_ok := List.mem_filter.mpr ⟨List.mem_of_getElem? (wl_14_ok (1782, Cond.instanceMethod yX9_without) (List.mem_of_getElem? (i := 63) rfl)), rfl⟩
set_option maxRecDepth 100000 in
theorem w_1783 : Cond.selects RX9 yX9_without yX9_without ∈ lw_ok := List.mem_filter.mpr ⟨List.mem_of_getElem? (wl_14_ok (1783, Cond.selects RX9 yX9_without yX9_without) (List.mem_of_getElem? (i := 64) rfl)), rfl⟩
set_option maxRecDepth 100000 in
theorem w_1784 : Cond.code yX9_without cX9_without 2 (some .int) ∈ lw_ok := List.mem_filter.mpr ⟨List.mem_of_getElem? (wl_14_ok (1784, Cond.code yX9_without cX9_without 2 (some .int)) (List.mem_of_getElem? (i := 65) rfl)), rfl⟩
set_option maxRecDepth 100000 in
theorem w_1785 : Cond.methodLink "LeakyLineLaw" 202 yX9_cupped ∈ lw_ok := List.mem_filter.mpr ⟨List.mem_of_getElem? (wl_14_ok (1785, Cond.methodLink "LeakyLineLaw" 202 yX9_cupped) (List.mem_of_getElem? (i := 66) rfl)), rfl⟩
set_option maxRecDepth 100000 in
theorem w_1786 : Cond.instanceMethod yX9_cupped ∈ lw_ok := List.mem_filter.mpr ⟨List.mem_of_getElem? (wl_14_ok (1786, Cond.instanceMethod yX9_cupped) (List.mem_of_getElem? (i := 67) rfl)), rfl⟩
set_option maxRecDepth 100000 in
theorem w_1787 : Cond.selects RX9 yX9_cupped yX9_cupped ∈ lw_ok := List.mem_filter.mpr ⟨List.mem_of_getElem? (wl_14_ok (1787, Cond.selects RX9 yX9_cupped yX9_cupped) (List.mem_of_getElem? (i := 68) rfl)), rfl⟩
set_option maxRecDepth 100000 in
theorem w_1788 : Cond.code yX9_cupped cX9_cupped 3 (some .int) ∈ lw_ok := List.mem_filter.mpr ⟨List.mem_of_getElem? (wl_14_ok (1788, Cond.code yX9_cupped cX9_cupped 3 (some .int)) (List.mem_of_getElem? (i := 69) rfl)), rfl⟩
set_option maxRecDepth 100000 in
theorem w_1789 : Cond.methodLink "LeakyLineLaw" 206 yX9_snapped ∈ lw_ok := List.mem_filter.mpr ⟨List.mem_of_getElem? (wl_14_ok (1789, Cond.methodLink "LeakyLineLaw" 206 yX9_snapped) (List.mem_of_getElem? (i := 70) rfl)), rfl⟩
set_option maxRecDepth 100000 in
theorem w_1790 : Cond.instanceMethod yX9_snapped ∈ lw_ok := List.mem_filter.mpr ⟨List.mem_of_getElem? (wl_14_ok (1790, Cond.instanceMethod yX9_snapped) (List.mem_of_getElem? (i := 71) rfl)), rfl⟩
set_option maxRecDepth 100000 in
theorem w_1791 : Cond.selects RX9 yX9_snapped yX9_snapped ∈ lw_ok := List.mem_filter.mpr ⟨List.mem_of_getElem? (wl_14_ok (1791, Cond.selects RX9 yX9_snapped yX9_snapped) (List.mem_of_getElem? (i := 72) rfl)), rfl⟩
set_option maxRecDepth 100000 in
theorem w_1792 : Cond.code yX9_snapped cX9_snapped 3 (some .int) ∈ lw_ok := List.mem_filter.mpr ⟨List.mem_of_getElem? (wl_14_ok (1792, Cond.code yX9_snapped cX9_snapped 3 (some .int)) (List.mem_of_getElem? (i := 73) rfl)), rfl⟩
set_option maxRecDepth 100000 in
theorem w_1793 : Cond.methodLink "LeakyLineLaw" 210 yX9_lack ∈ lw_ok := List.mem_filter.mpr ⟨List.mem_of_getElem? (wl_14_ok (1793, Cond.methodLink "LeakyLineLaw" 210 yX9_lack) (List.mem_of_getElem? (i := 74) rfl)), rfl⟩
set_option maxRecDepth 100000 in
theorem w_1794 : Cond.instanceMethod yX9_lack ∈ lw_ok := List.mem_filter.mpr ⟨List.mem_of_getElem? (wl_14_ok (1794, Cond.instanceMethod yX9_lack) (List.mem_of_getElem? (i := 75) rfl)), rfl⟩
set_option maxRecDepth 100000 in
theorem w_1795 : Cond.selects RX9 yX9_lack yX9_lack ∈ lw_ok := List.mem_filter.mpr ⟨List.mem_of_getElem? (wl_14_ok (1795, Cond.selects RX9 yX9_lack yX9_lack) (List.mem_of_getElem? (i := 76) rfl)), rfl⟩
set_option maxRecDepth 100000 in
theorem w_1796 : Cond.code yX9_lack cX9_lack 5 (some .int) ∈ lw_ok := List.mem_filter.mpr ⟨List.mem_of_getElem? (wl_14_ok (1796, Cond.code yX9_lack cX9_lack 5 (some .int)) (List.mem_of_getElem? (i := 77) rfl)), rfl⟩
set_option maxRecDepth 100000 in
theorem w_1797 : Cond.methodLink "LeakyLineLaw" 214 yX9_loud ∈ lw_ok := List.mem_filter.mpr ⟨List.mem_of_getElem? (wl_14_ok (1797, Cond.methodLink "LeakyLineLaw" 214 yX9_loud) (List.mem_of_getElem? (i := 78) rfl)), rfl⟩
set_option maxRecDepth 100000 in
theorem w_1798 : Cond.instanceMethod yX9_loud ∈ lw_ok := List.mem_filter.mpr ⟨List.mem_of_getElem? (wl_14_ok (1798, Cond.instanceMethod yX9_loud) (List.mem_of_getElem? (i := 79) rfl)), rfl⟩
set_option maxRecDepth 100000 in
theorem w_1799 : Cond.selects RX9 yX9_loud yX9_loud ∈ lw_ok := List.mem_filter.mpr ⟨List.mem_of_getElem? (wl_14_ok (1799, Cond.selects RX9 yX9_loud yX9_loud) (List.mem_of_getElem? (i := 80) rfl)), rfl⟩
set_option maxRecDepth 100000 in
theorem w_1800 : Cond.code yX9_loud cX9_loud 4 (some .int) ∈ lw_ok := List.mem_filter.mpr ⟨List.mem_of_getElem? (wl_14_ok (1800, Cond.code yX9_loud cX9_loud 4 (some .int)) (List.mem_of_getElem? (i := 81) rfl)), rfl⟩
set_option maxRecDepth 100000 in
theorem w_1801 : Cond.methodLink "LeakyLineLaw" 218 yX9_weakest ∈ lw_ok := List.mem_filter.mpr ⟨List.mem_of_getElem? (wl_14_ok (1801, Cond.methodLink "LeakyLineLaw" 218 yX9_weakest) (List.mem_of_getElem? (i := 82) rfl)), rfl⟩
set_option maxRecDepth 100000 in
theorem w_1802 : Cond.instanceMethod yX9_weakest ∈ lw_ok := List.mem_filter.mpr ⟨List.mem_of_getElem? (wl_14_ok (1802, Cond.instanceMethod yX9_weakest) (List.mem_of_getElem? (i := 83) rfl)), rfl⟩
set_option maxRecDepth 100000 in
theorem w_1803 : Cond.selects RX9 yX9_weakest yX9_weakest ∈ lw_ok := List.mem_filter.mpr ⟨List.mem_of_getElem? (wl_14_ok (1803, Cond.selects RX9 yX9_weakest yX9_weakest) (List.mem_of_getElem? (i := 84) rfl)), rfl⟩
set_option maxRecDepth 100000 in
theorem w_1804 : Cond.code yX9_weakest cX9_weakest 1 (some .int) ∈ lw_ok := List.mem_filter.mpr ⟨List.mem_of_getElem? (wl_14_ok (1804, Cond.code yX9_weakest cX9_weakest 1 (some .int)) (List.mem_of_getElem? (i := 85) rfl)), rfl⟩
set_option maxRecDepth 100000 in
theorem w_1805 : Cond.methodLink RX9 328 yX9_stationBy ∈ lw_ok := List.mem_filter.mpr ⟨List.mem_of_getElem? (wl_14_ok (1805, Cond.methodLink RX9 328 yX9_stationBy) (List.mem_of_getElem? (i := 86) rfl)), rfl⟩
set_option maxRecDepth 100000 in
theorem w_1807 : Cond.instanceMethod yX9_stationBy ∈ lw_ok := List.mem_filter.mpr ⟨List.mem_of_getElem? (wl_14_ok (1807, Cond.instanceMethod yX9_stationBy) (List.mem_of_getElem? (i := 87) rfl)), rfl⟩
set_option maxRecDepth 100000 in
theorem w_1808 : Cond.code yX9_stationBy cX9_stationBy 7 (some .int) ∈ lw_ok := List.mem_filter.mpr ⟨List.mem_of_getElem? (wl_14_ok (1808, Cond.code yX9_stationBy cX9_stationBy 7 (some .int)) (List.mem_of_getElem? (i := 88) rfl)), rfl⟩
set_option maxRecDepth 100000 in
theorem w_1809 : Cond.methodLink "LeakyLineLaw" 222 yX9_strong ∈ lw_ok := List.mem_filter.mpr ⟨List.mem_of_getElem? (wl_14_ok (1809, Cond.methodLink "LeakyLineLaw" 222 yX9_strong) (List.mem_of_getElem? (i := 89) rfl)), rfl⟩
set_option maxRecDepth 100000 in
theorem w_1810 : Cond.instanceMethod yX9_strong ∈ lw_ok := List.mem_filter.mpr ⟨List.mem_of_getElem? (wl_14_ok (1810, Cond.instanceMethod yX9_strong) (List.mem_of_getElem? (i := 90) rfl)), rfl⟩
set_option maxRecDepth 100000 in
theorem w_1811 : Cond.selects RX9 yX9_strong yX9_strong ∈ lw_ok := List.mem_filter.mpr ⟨List.mem_of_getElem? (wl_14_ok (1811, Cond.selects RX9 yX9_strong yX9_strong) (List.mem_of_getElem? (i := 91) rfl)), rfl⟩
set_option maxRecDepth 100000 in
theorem w_1812 : Cond.code yX9_strong cX9_strong 1 (some .int) ∈ lw_ok := List.mem_filter.mpr ⟨List.mem_of_getElem? (wl_14_ok (1812, Cond.code yX9_strong cX9_strong 1 (some .int)) (List.mem_of_getElem? (i := 92) rfl)), rfl⟩
set_option maxRecDepth 100000 in
theorem w_1813 : Cond.methodLink "LeakyLineLaw" 226 yX9_battery ∈ lw_ok := List.mem_filter.mpr ⟨List.mem_of_getElem? (wl_14_ok (1813, Cond.methodLink "LeakyLineLaw" 226 yX9_battery) (List.mem_of_getElem? (i := 93) rfl)), rfl⟩
set_option maxRecDepth 100000 in
theorem w_1814 : Cond.instanceMethod yX9_battery ∈ lw_ok := List.mem_filter.mpr ⟨List.mem_of_getElem? (wl_14_ok (1814, Cond.instanceMethod yX9_battery) (List.mem_of_getElem? (i := 94) rfl)), rfl⟩
set_option maxRecDepth 100000 in
theorem w_1815 : Cond.selects RX9 yX9_battery yX9_battery ∈ lw_ok := List.mem_filter.mpr ⟨List.mem_of_getElem? (wl_14_ok (1815, Cond.selects RX9 yX9_battery yX9_battery) (List.mem_of_getElem? (i := 95) rfl)), rfl⟩
set_option maxRecDepth 100000 in
theorem w_1816 : Cond.code yX9_battery cX9_battery 2 (some .int) ∈ lw_ok := List.mem_filter.mpr ⟨List.mem_of_getElem? (wl_14_ok (1816, Cond.code yX9_battery cX9_battery 2 (some .int)) (List.mem_of_getElem? (i := 96) rfl)), rfl⟩
set_option maxRecDepth 100000 in
theorem w_1817 : Cond.methodLink RX9 334 yX9_batteryOf ∈ lw_ok := List.mem_filter.mpr ⟨List.mem_of_getElem? (wl_14_ok (1817, Cond.methodLink RX9 334 yX9_batteryOf) (List.mem_of_getElem? (i := 97) rfl)), rfl⟩
set_option maxRecDepth 100000 in
theorem w_1819 : Cond.instanceMethod yX9_batteryOf ∈ lw_ok := List.mem_filter.mpr ⟨List.mem_of_getElem? (wl_14_ok (1819, Cond.instanceMethod yX9_batteryOf) (List.mem_of_getElem? (i := 98) rfl)), rfl⟩
set_option maxRecDepth 100000 in
theorem w_1820 : Cond.code yX9_batteryOf cX9_batteryOf 4 (some .int) ∈ lw_ok := List.mem_filter.mpr ⟨List.mem_of_getElem? (wl_14_ok (1820, Cond.code yX9_batteryOf cX9_batteryOf 4 (some .int)) (List.mem_of_getElem? (i := 99) rfl)), rfl⟩
def wl_15 : List (Nat × Cond) := [(1821, Cond.methodLink RX9 331 yX9_isClear), (1823, Cond.instanceMethod yX9_isClear), (1824, Cond.code yX9_isClear cX9_isClear 4 (some .boolean)), (1825, Cond.methodLink "LeakyLineLaw" 230 yX9_batteries), (1826, Cond.instanceMethod yX9_batteries), (1827, Cond.selects RX9 yX9_batteries yX9_batteries), (1828, Cond.code yX9_batteries cX9_batteries 1 (some .int)), (1829, Cond.methodLink "LeakyLineLaw" 234 yX9_cure), (1830, Cond.instanceMethod yX9_cure), (1831, Cond.selects RX9 yX9_cure yX9_cure), (1832, Cond.code yX9_cure cX9_cure 3 (some .int)), (1833, Cond.methodLink RX9 337 yX9_cureOf), (1835, Cond.instanceMethod yX9_cureOf), (1836, Cond.code yX9_cureOf cX9_cureOf 4 (some .int)), (1837, Cond.methodLink "LeakyLineLaw" 238 yX9_cures), (1838, Cond.instanceMethod yX9_cures), (1839, Cond.selects RX9 yX9_cures yX9_cures), (1840, Cond.code yX9_cures cX9_cures 2 (some .int)), (1841, Cond.methodLink "LeakyLineLaw" 242 yX9_best), (1842, Cond.instanceMethod yX9_best), (1843, Cond.selects RX9 yX9_best yX9_best), (1844, Cond.code yX9_best cX9_best 5 (some .int)), (1845, Cond.methodLink "LeakyLineLaw" 246 yX9_thick), (1846, Cond.instanceMethod yX9_thick), (1847, Cond.selects RX9 yX9_thick yX9_thick), (1848, Cond.code yX9_thick cX9_thick 5 (some .int)), (1849, Cond.methodLink "LeakyLineLaw" 250 yX9_fits), (1850, Cond.instanceMethod yX9_fits), (1851, Cond.selects RX9 yX9_fits yX9_fits), (1852, Cond.code yX9_fits cX9_fits 4 (some .int)), (1853, Cond.methodLink RX9 358 yX9_whyNot), (1855, Cond.instanceMethod yX9_whyNot), (1856, Cond.code yX9_whyNot cX9_whyNot 5 (some .int)), (1857, Cond.methodLink RX9 362 yX9_laysSeen), (1859, Cond.instanceMethod yX9_laysSeen), (1860, Cond.code yX9_laysSeen cX9_laysSeen 5 none), (1861, Cond.methodLink RX9 346 yX9_isLeak), (1863, Cond.instanceMethod yX9_isLeak), (1864, Cond.code yX9_isLeak cX9_isLeak 4 (some .boolean)), (1865, Cond.methodLink RX9 340 yX9_isSo), (1867, Cond.instanceMethod yX9_isSo), (1868, Cond.code yX9_isSo cX9_isSo 8 (some .boolean)), (1869, Cond.methodLink RX9 355 yX9_worstAt), (1871, Cond.instanceMethod yX9_worstAt), (1872, Cond.code yX9_worstAt cX9_worstAt 6 (some .int)), (1873, Cond.methodLink "LeakyLineLaw" 254 yX9_low), (1874, Cond.instanceMethod yX9_low), (1875, Cond.selects RX9 yX9_low yX9_low), (1876, Cond.code yX9_low cX9_low 5 (some .int)), (1877, Cond.methodLink "LeakyLineLaw" 258 yX9_high), (1878, Cond.instanceMethod yX9_high), (1879, Cond.selects RX9 yX9_high yX9_high), (1880, Cond.code yX9_high cX9_high 5 (some .int)), (1881, Cond.methodLink "LeakyLineLaw" 262 yX9_ask), (1882, Cond.instanceMethod yX9_ask), (1883, Cond.selects RX9 yX9_ask yX9_ask), (1884, Cond.code yX9_ask cX9_ask 4 (some .int)), (1885, Cond.methodLink "LeakyLineLaw" 266 yX9_leaves), (1886, Cond.instanceMethod yX9_leaves), (1887, Cond.selects RX9 yX9_leaves yX9_leaves), (1888, Cond.code yX9_leaves cX9_leaves 4 (some .int)), (1889, Cond.methodLink "LeakyLineLaw" 270 yX9_spots), (1890, Cond.instanceMethod yX9_spots), (1891, Cond.selects RX9 yX9_spots yX9_spots), (1892, Cond.code yX9_spots cX9_spots 6 (some .int)), (1893, Cond.methodLink "LeakyLineLaw" 274 yX9_breaks), (1894, Cond.instanceMethod yX9_breaks), (1895, Cond.selects RX9 yX9_breaks yX9_breaks), (1896, Cond.code yX9_breaks cX9_breaks 5 (some .int)), (1897, Cond.methodLink "LeakyLineLaw" 278 yX9_laws), (1898, Cond.instanceMethod yX9_laws), (1899, Cond.selects RX9 yX9_laws yX9_laws), (1900, Cond.code yX9_laws cX9_laws 5 (some .int)), (1901, Cond.methodLink "LeakyLineLaw" 282 yX9_by), (1902, Cond.instanceMethod yX9_by), (1903, Cond.selects RX9 yX9_by yX9_by), (1904, Cond.code yX9_by cX9_by 2 (some .int)), (1905, Cond.methodLink RX9 365 yX9_sumBy), (1907, Cond.instanceMethod yX9_sumBy), (1908, Cond.code yX9_sumBy cX9_sumBy 2 (some .int)), (1909, Cond.methodLink "LeakyLineLaw" 286 yX9_law), (1910, Cond.instanceMethod yX9_law), (1911, Cond.selects RX9 yX9_law yX9_law), (1912, Cond.code yX9_law cX9_law 3 (some .int)), (1913, Cond.methodLink "LeakyLineLaw" 290 yX9_worth), (1914, Cond.instanceMethod yX9_worth), (1915, Cond.selects RX9 yX9_worth yX9_worth), (1916, Cond.code yX9_worth cX9_worth 2 (some .int)), (1917, Cond.methodLink "LeakyLineLaw" 294 yX9_share), (1918, Cond.instanceMethod yX9_share), (1919, Cond.selects RX9 yX9_share yX9_share), (1920, Cond.code yX9_share cX9_share 6 (some .int)), (1921, Cond.constant RX9 371 (-1000000)), (1922, Cond.methodLink RX9 368 yX9_times), (1923, Cond.static yX9_times), (1924, Cond.code yX9_times cX9_times 1 (some .int)), (1925, Cond.methodLink "LeakyLineLaw" 298 yX9_rests), (1926, Cond.instanceMethod yX9_rests), (1927, Cond.selects RX9 yX9_rests yX9_rests), (1928, Cond.code yX9_rests cX9_rests 8 (some .int))]
set_option maxRecDepth 100000 in
theorem wl_15_ok : ∀ x ∈ wl_15, lw_tbl[x.1]? = some x.2 := by decide +kernel
set_option maxRecDepth 100000 in
theorem w_1821 : Cond.methodLink RX9 331 yX9_isClear ∈ lw_ok := List.mem_filter.mpr ⟨List.mem_of_getElem? (wl_15_ok (1821, Cond.methodLink RX9 331 yX9_isClear) (List.mem_of_getElem? (i := 0) rfl)), rfl⟩
set_option maxRecDepth 100000 in
theorem w_1823 : Cond.instanceMethod yX9_isClear ∈ lw_ok := List.mem_filter.mpr ⟨List.mem_of_getElem? (wl_15_ok (1823, Cond.instanceMethod yX9_isClear) (List.mem_of_getElem? (i := 1) rfl)), rfl⟩
set_option maxRecDepth 100000 in
theorem w_1824 : Cond.code yX9_isClear cX9_isClear 4 (some .boolean) ∈ lw_ok := List.mem_filter.mpr ⟨List.mem_of_getElem? (wl_15_ok (1824, Cond.code yX9_isClear cX9_isClear 4 (some .boolean)) (List.mem_of_getElem? (i := 2) rfl)), rfl⟩
set_option maxRecDepth 100000 in
theorem w_1825 : Cond.methodLink "LeakyLineLaw" 230 yX9_batteries ∈ lw_ok := List.mem_filter.mpr ⟨List.mem_of_getElem? (wl_15_ok (1825, Cond.methodLink "LeakyLineLaw" 230 yX9_batteries) (List.mem_of_getElem? (i := 3) rfl)), rfl⟩
set_option maxRecDepth 100000 in
theorem w_1826 : Cond.instanceMethod yX9_batteries ∈ lw_ok := List.mem_filter.mpr ⟨List.mem_of_getElem? (wl_15_ok (1826, Cond.instanceMethod yX9_batteries) (List.mem_of_getElem? (i := 4) rfl)), rfl⟩
set_option maxRecDepth 100000 in
theorem w_1827 : Cond.selects RX9 yX9_batteries yX9_batteries ∈ lw_ok := List.mem_filter.mpr ⟨List.mem_of_getElem? (wl_15_ok (1827, Cond.selects RX9 yX9_batteries yX9_batteries) (List.mem_of_getElem? (i := 5) rfl)), rfl⟩
set_option maxRecDepth 100000 in
theorem w_1828 : Cond.code yX9_batteries cX9_batteries 1 (some .int) ∈ lw_ok := List.mem_filter.mpr ⟨List.mem_of_getElem? (wl_15_ok (1828, Cond.code yX9_batteries cX9_batteries 1 (some .int)) (List.mem_of_getElem? (i := 6) rfl)), rfl⟩
set_option maxRecDepth 100000 in
theorem w_1829 : Cond.methodLink "LeakyLineLaw" 234 yX9_cure ∈ lw_ok := List.mem_filter.mpr ⟨List.mem_of_getElem? (wl_15_ok (1829, Cond.methodLink "LeakyLineLaw" 234 yX9_cure) (List.mem_of_getElem? (i := 7) rfl)), rfl⟩
set_option maxRecDepth 100000 in
theorem w_1830 : Cond.instanceMethod yX9_cure ∈ lw_ok := List.mem_filter.mpr ⟨List.mem_of_getElem? (wl_15_ok (1830, Cond.instanceMethod yX9_cure) (List.mem_of_getElem? (i := 8) rfl)), rfl⟩
set_option maxRecDepth 100000 in
theorem w_1831 : Cond.selects RX9 yX9_cure yX9_cure ∈ lw_ok := List.mem_filter.mpr ⟨List.mem_of_getElem? (wl_15_ok (1831, Cond.selects RX9 yX9_cure yX9_cure) (List.mem_of_getElem? (i := 9) rfl)), rfl⟩
set_option maxRecDepth 100000 in
theorem w_1832 : Cond.code yX9_cure cX9_cure 3 (some .int) ∈ lw_ok := List.mem_filter.mpr ⟨List.mem_of_getElem? (wl_15_ok (1832, Cond.code yX9_cure cX9_cure 3 (some .int)) (List.mem_of_getElem? (i := 10) rfl)), rfl⟩
set_option maxRecDepth 100000 in
theorem w_1833 : Cond.methodLink RX9 337 yX9_cureOf ∈ lw_ok := List.mem_filter.mpr ⟨List.mem_of_getElem? (wl_15_ok (1833, Cond.methodLink RX9 337 yX9_cureOf) (List.mem_of_getElem? (i := 11) rfl)), rfl⟩
set_option maxRecDepth 100000 in
theorem w_1835 : Cond.instanceMethod yX9_cureOf ∈ lw_ok := List.mem_filter.mpr ⟨List.mem_of_getElem? (wl_15_ok (1835, Cond.instanceMethod yX9_cureOf) (List.mem_of_getElem? (i := 12) rfl)), rfl⟩
set_option maxRecDepth 100000 in
theorem w_1836 : Cond.code yX9_cureOf cX9_cureOf 4 (some .int) ∈ lw_ok := List.mem_filter.mpr ⟨List.mem_of_getElem? (wl_15_ok (1836, Cond.code yX9_cureOf cX9_cureOf 4 (some .int)) (List.mem_of_getElem? (i := 13) rfl)), rfl⟩
set_option maxRecDepth 100000 in
theorem w_1837 : Cond.methodLink "LeakyLineLaw" 238 yX9_cures ∈ lw_ok := List.mem_filter.mpr ⟨List.mem_of_getElem? (wl_15_ok (1837, Cond.methodLink "LeakyLineLaw" 238 yX9_cures) (List.mem_of_getElem? (i := 14) rfl)), rfl⟩
set_option maxRecDepth 100000 in
theorem w_1838 : Cond.instanceMethod yX9_cures ∈ lw_ok := List.mem_filter.mpr ⟨List.mem_of_getElem? (wl_15_ok (1838, Cond.instanceMethod yX9_cures) (List.mem_of_getElem? (i := 15) rfl)), rfl⟩
set_option maxRecDepth 100000 in
theorem w_1839 : Cond.selects RX9 yX9_cures yX9_cures ∈ lw_ok := List.mem_filter.mpr ⟨List.mem_of_getElem? (wl_15_ok (1839, Cond.selects RX9 yX9_cures yX9_cures) (List.mem_of_getElem? (i := 16) rfl)), rfl⟩
set_option maxRecDepth 100000 in
theorem w_1840 : Cond.code yX9_cures cX9_cures 2 (some .int) ∈ lw_ok := List.mem_filter.mpr ⟨List.mem_of_getElem? (wl_15_ok (1840, Cond.code yX9_cures cX9_cures 2 (some .int)) (List.mem_of_getElem? (i := 17) rfl)), rfl⟩
set_option maxRecDepth 100000 in
theorem w_1841 : Cond.methodLink "LeakyLineLaw" 242 yX9_best ∈ lw_ok := List.mem_filter.mpr ⟨List.mem_of_getElem? (wl_15_ok (1841, Cond.methodLink "LeakyLineLaw" 242 yX9_best) (List.mem_of_getElem? (i := 18) rfl)), rfl⟩
set_option maxRecDepth 100000 in
theorem w_1842 : Cond.instanceMethod yX9_best ∈ lw_ok := List.mem_filter.mpr ⟨List.mem_of_getElem? (wl_15_ok (1842, Cond.instanceMethod yX9_best) (List.mem_of_getElem? (i := 19) rfl)), rfl⟩
set_option maxRecDepth 100000 in
theorem w_1843 : Cond.selects RX9 yX9_best yX9_best ∈ lw_ok := List.mem_filter.mpr ⟨List.mem_of_getElem? (wl_15_ok (1843, Cond.selects RX9 yX9_best yX9_best) (List.mem_of_getElem? (i := 20) rfl)), rfl⟩
set_option maxRecDepth 100000 in
theorem w_1844 : Cond.code yX9_best cX9_best 5 (some .int) ∈ lw_ok := List.mem_filter.mpr ⟨List.mem_of_getElem? (wl_15_ok (1844, Cond.code yX9_best cX9_best 5 (some .int)) (List.mem_of_getElem? (i := 21) rfl)), rfl⟩
set_option maxRecDepth 100000 in
theorem w_1845 : Cond.methodLink "LeakyLineLaw" 246 yX9_thick ∈ lw_ok := List.mem_filter.mpr ⟨List.mem_of_getElem? (wl_15_ok (1845, Cond.methodLink "LeakyLineLaw" 246 yX9_thick) (List.mem_of_getElem? (i := 22) rfl)), rfl⟩
set_option maxRecDepth 100000 in
theorem w_1846 : Cond.instanceMethod yX9_thick ∈ lw_ok := List.mem_filter.mpr ⟨List.mem_of_getElem? (wl_15_ok (1846, Cond.instanceMethod yX9_thick) (List.mem_of_getElem? (i := 23) rfl)), rfl⟩
set_option maxRecDepth 100000 in
theorem w_1847 : Cond.selects RX9 yX9_thick yX9_thick ∈ lw_ok := List.mem_filter.mpr ⟨List.mem_of_getElem? (wl_15_ok (1847, Cond.selects RX9 yX9_thick yX9_thick) (List.mem_of_getElem? (i := 24) rfl)), rfl⟩
set_option maxRecDepth 100000 in
theorem w_1848 : Cond.code yX9_thick cX9_thick 5 (some .int) ∈ lw_ok := List.mem_filter.mpr ⟨List.mem_of_getElem? (wl_15_ok (1848, Cond.code yX9_thick cX9_thick 5 (some .int)) (List.mem_of_getElem? (i := 25) rfl)), rfl⟩
set_option maxRecDepth 100000 in
theorem w_1849 : Cond.methodLink "LeakyLineLaw" 250 yX9_fits ∈ lw_ok := List.mem_filter.mpr ⟨List.mem_of_getElem? (wl_15_ok (1849, Cond.methodLink "LeakyLineLaw" 250 yX9_fits) (List.mem_of_getElem? (i := 26) rfl)), rfl⟩
set_option maxRecDepth 100000 in
theorem w_1850 : Cond.instanceMethod yX9_fits ∈ lw_ok := List.mem_filter.mpr ⟨List.mem_of_getElem? (wl_15_ok (1850, Cond.instanceMethod yX9_fits) (List.mem_of_getElem? (i := 27) rfl)), rfl⟩
set_option maxRecDepth 100000 in
theorem w_1851 : Cond.selects RX9 yX9_fits yX9_fits ∈ lw_ok := List.mem_filter.mpr ⟨List.mem_of_getElem? (wl_15_ok (1851, Cond.selects RX9 yX9_fits yX9_fits) (List.mem_of_getElem? (i := 28) rfl)), rfl⟩
set_option maxRecDepth 100000 in
theorem w_1852 : Cond.code yX9_fits cX9_fits 4 (some .int) ∈ lw_ok := List.mem_filter.mpr ⟨List.mem_of_getElem? (wl_15_ok (1852, Cond.code yX9_fits cX9_fits 4 (some .int)) (List.mem_of_getElem? (i := 29) rfl)), rfl⟩
set_option maxRecDepth 100000 in
theorem w_1853 : Cond.methodLink RX9 358 yX9_whyNot ∈ lw_ok := List.mem_filter.mpr ⟨List.mem_of_getElem? (wl_15_ok (1853, Cond.methodLink RX9 358 yX9_whyNot) (List.mem_of_getElem? (i := 30) rfl)), rfl⟩
set_option maxRecDepth 100000 in
theorem w_1855 : Cond.instanceMethod yX9_whyNot ∈ lw_ok := List.mem_filter.mpr ⟨List.mem_of_getElem? (wl_15_ok (1855, Cond.instanceMethod yX9_whyNot) (List.mem_of_getElem? (i := 31) rfl)), rfl⟩
set_option maxRecDepth 100000 in
theorem w_1856 : Cond.code yX9_whyNot cX9_whyNot 5 (some .int) ∈ lw_ok := List.mem_filter.mpr ⟨List.mem_of_getElem? (wl_15_ok (1856, Cond.code yX9_whyNot cX9_whyNot 5 (some .int)) (List.mem_of_getElem? (i := 32) rfl)), rfl⟩
set_option maxRecDepth 100000 in
theorem w_1857 : Cond.methodLink RX9 362 yX9_laysSeen ∈ lw_ok := List.mem_filter.mpr ⟨List.mem_of_getElem? (wl_15_ok (1857, Cond.methodLink RX9 362 yX9_laysSeen) (List.mem_of_getElem? (i := 33) rfl)), rfl⟩
set_option maxRecDepth 100000 in
theorem w_1859 : Cond.instanceMethod yX9_laysSeen ∈ lw_ok := List.mem_filter.mpr ⟨List.mem_of_getElem? (wl_15_ok (1859, Cond.instanceMethod yX9_laysSeen) (List.mem_of_getElem? (i := 34) rfl)), rfl⟩
set_option maxRecDepth 100000 in
theorem w_1860 : Cond.code yX9_laysSeen cX9_laysSeen 5 none ∈ lw_ok := List.mem_filter.mpr ⟨List.mem_of_getElem? (wl_15_ok (1860, Cond.code yX9_laysSeen cX9_laysSeen 5 none) (List.mem_of_getElem? (i := 35) rfl)), rfl⟩
set_option maxRecDepth 100000 in
theorem w_1861 : Cond.methodLink RX9 346 yX9_isLeak ∈ lw_ok := List.mem_filter.mpr ⟨List.mem_of_getElem? (wl_15_ok (1861, Cond.methodLink RX9 346 yX9_isLeak) (List.mem_of_getElem? (i := 36) rfl)), rfl⟩
set_option maxRecDepth 100000 in
theorem w_1863 : Cond.instanceMethod yX9_isLeak ∈ lw_ok := List.mem_filter.mpr ⟨List.mem_of_getElem? (wl_15_ok (1863, Cond.instanceMethod yX9_isLeak) (List.mem_of_getElem? (i := 37) rfl)), rfl⟩
set_option maxRecDepth 100000 in
theorem w_1864 : Cond.code yX9_isLeak cX9_isLeak 4 (some .boolean) ∈ lw_ok := List.mem_filter.mpr ⟨List.mem_of_getElem? (wl_15_ok (1864, Cond.code yX9_isLeak cX9_isLeak 4 (some .boolean)) (List.mem_of_getElem? (i := 38) rfl)), rfl⟩
set_option maxRecDepth 100000 in
theorem w_1865 : Cond.methodLink RX9 340 yX9_isSo ∈ lw_ok := List.mem_filter.mpr ⟨List.mem_of_getElem? (wl_15_ok (1865, Cond.methodLink RX9 340 yX9_isSo) (List.mem_of_getElem? (i := 39) rfl)), rfl⟩
set_option maxRecDepth 100000 in
theorem w_1867 : Cond.instanceMethod yX9_isSo ∈ lw_ok := List.mem_filter.mpr ⟨List.mem_of_getElem? (wl_15_ok (1867, Cond.instanceMethod yX9_isSo) (List.mem_of_getElem? (i := 40) rfl)), rfl⟩
set_option maxRecDepth 100000 in
theorem w_1868 : Cond.code yX9_isSo cX9_isSo 8 (some .boolean) ∈ lw_ok := List.mem_filter.mpr ⟨List.mem_of_getElem? (wl_15_ok (1868, Cond.code yX9_isSo cX9_isSo 8 (some .boolean)) (List.mem_of_getElem? (i := 41) rfl)), rfl⟩
set_option maxRecDepth 100000 in
theorem w_1869 : Cond.methodLink RX9 355 yX9_worstAt ∈ lw_ok := List.mem_filter.mpr ⟨List.mem_of_getElem? (wl_15_ok (1869, Cond.methodLink RX9 355 yX9_worstAt) (List.mem_of_getElem? (i := 42) rfl)), rfl⟩
set_option maxRecDepth 100000 in
theorem w_1871 : Cond.instanceMethod yX9_worstAt ∈ lw_ok := List.mem_filter.mpr ⟨List.mem_of_getElem? (wl_15_ok (1871, Cond.instanceMethod yX9_worstAt) (List.mem_of_getElem? (i := 43) rfl)), rfl⟩
set_option maxRecDepth 100000 in
theorem w_1872 : Cond.code yX9_worstAt cX9_worstAt 6 (some .int) ∈ lw_ok := List.mem_filter.mpr ⟨List.mem_of_getElem? (wl_15_ok (1872, Cond.code yX9_worstAt cX9_worstAt 6 (some .int)) (List.mem_of_getElem? (i := 44) rfl)), rfl⟩
set_option maxRecDepth 100000 in
theorem w_1873 : Cond.methodLink "LeakyLineLaw" 254 yX9_low ∈ lw_ok := List.mem_filter.mpr ⟨List.mem_of_getElem? (wl_15_ok (1873, Cond.methodLink "LeakyLineLaw" 254 yX9_low) (List.mem_of_getElem? (i := 45) rfl)), rfl⟩
set_option maxRecDepth 100000 in
theorem w_1874 : Cond.instanceMethod yX9_low ∈ lw_ok := List.mem_filter.mpr ⟨List.mem_of_getElem? (wl_15_ok (1874, Cond.instanceMethod yX9_low) (List.mem_of_getElem? (i := 46) rfl)), rfl⟩
set_option maxRecDepth 100000 in
theorem w_1875 : Cond.selects RX9 yX9_low yX9_low ∈ lw_ok := List.mem_filter.mpr ⟨List.mem_of_getElem? (wl_15_ok (1875, Cond.selects RX9 yX9_low yX9_low) (List.mem_of_getElem? (i := 47) rfl)), rfl⟩
set_option maxRecDepth 100000 in
theorem w_1876 : Cond.code yX9_low cX9_low 5 (some .int) ∈ lw_ok := List.mem_filter.mpr ⟨List.mem_of_getElem? (wl_15_ok (1876, Cond.code yX9_low cX9_low 5 (some .int)) (List.mem_of_getElem? (i := 48) rfl)), rfl⟩
set_option maxRecDepth 100000 in
theorem w_1877 : Cond.methodLink "LeakyLineLaw" 258 yX9_high ∈ lw_ok := List.mem_filter.mpr ⟨List.mem_of_getElem? (wl_15_ok (1877, Cond.methodLink "LeakyLineLaw" 258 yX9_high) (List.mem_of_getElem? (i := 49) rfl)), rfl⟩
set_option maxRecDepth 100000 in
theorem w_1878 : Cond.instanceMethod yX9_high ∈ lw_ok := List.mem_filter.mpr ⟨List.mem_of_getElem? (wl_15_ok (1878, Cond.instanceMethod yX9_high) (List.mem_of_getElem? (i := 50) rfl)), rfl⟩
set_option maxRecDepth 100000 in
theorem w_1879 : Cond.selects RX9 yX9_high yX9_high ∈ lw_ok := List.mem_filter.mpr ⟨List.mem_of_getElem? (wl_15_ok (1879, Cond.selects RX9 yX9_high yX9_high) (List.mem_of_getElem? (i := 51) rfl)), rfl⟩
set_option maxRecDepth 100000 in
theorem w_1880 : Cond.code yX9_high cX9_high 5 (some .int) ∈ lw_ok := List.mem_filter.mpr ⟨List.mem_of_getElem? (wl_15_ok (1880, Cond.code yX9_high cX9_high 5 (some .int)) (List.mem_of_getElem? (i := 52) rfl)), rfl⟩
set_option maxRecDepth 100000 in
theorem w_1881 : Cond.methodLink "LeakyLineLaw" 262 yX9_ask ∈ lw_ok := List.mem_filter.mpr ⟨List.mem_of_getElem? (wl_15_ok (1881, Cond.methodLink "LeakyLineLaw" 262 yX9_ask) (List.mem_of_getElem? (i := 53) rfl)), rfl⟩
set_option maxRecDepth 100000 in
theorem w_1882 : Cond.instanceMethod yX9_ask ∈ lw_ok := List.mem_filter.mpr ⟨List.mem_of_getElem? (wl_15_ok (1882, Cond.instanceMethod yX9_ask) (List.mem_of_getElem? (i := 54) rfl)), rfl⟩
set_option maxRecDepth 100000 in
theorem w_1883 : Cond.selects RX9 yX9_ask yX9_ask ∈ lw_ok := List.mem_filter.mpr ⟨List.mem_of_getElem? (wl_15_ok (1883, Cond.selects RX9 yX9_ask yX9_ask) (List.mem_of_getElem? (i := 55) rfl)), rfl⟩
set_option maxRecDepth 100000 in
theorem w_1884 : Cond.code yX9_ask cX9_ask 4 (some .int) ∈ lw_ok := List.mem_filter.mpr ⟨List.mem_of_getElem? (wl_15_ok (1884, Cond.code yX9_ask cX9_ask 4 (some .int)) (List.mem_of_getElem? (i := 56) rfl)), rfl⟩
set_option maxRecDepth 100000 in
theorem w_1885 : Cond.methodLink "LeakyLineLaw" 266 yX9_leaves ∈ lw_ok := List.mem_filter.mpr ⟨List.mem_of_getElem? (wl_15_ok (1885, Cond.methodLink "LeakyLineLaw" 266 yX9_leaves) (List.mem_of_getElem? (i := 57) rfl)), rfl⟩
set_option maxRecDepth 100000 in
theorem w_1886 : Cond.instanceMethod yX9_leaves ∈ lw_ok := List.mem_filter.mpr ⟨List.mem_of_getElem? (wl_15_ok (1886, Cond.instanceMethod yX9_leaves) (List.mem_of_getElem? (i := 58) rfl)), rfl⟩
set_option maxRecDepth 100000 in
theorem w_1887 : Cond.selects RX9 yX9_leaves yX9_leaves ∈ lw_ok := List.mem_filter.mpr ⟨List.mem_of_getElem? (wl_15_ok (1887, Cond.selects RX9 yX9_leaves yX9_leaves) (List.mem_of_getElem? (i := 59) rfl)), rfl⟩
set_option maxRecDepth 100000 in
theorem w_1888 : Cond.code yX9_leaves cX9_leaves 4 (some .int) ∈ lw_ok := List.mem_filter.mpr ⟨List.mem_of_getElem? (wl_15_ok (1888, Cond.code yX9_leaves cX9_leaves 4 (some .int)) (List.mem_of_getElem? (i := 60) rfl)), rfl⟩
set_option maxRecDepth 100000 in
theorem w_1889 : Cond.methodLink "LeakyLineLaw" 270 yX9_spots ∈ lw_ok := List.mem_filter.mpr ⟨List.mem_of_getElem? (wl_15_ok (1889, Cond.methodLink "LeakyLineLaw" 270 yX9_spots) (List.mem_of_getElem? (i := 61) rfl)), rfl⟩
set_option maxRecDepth 100000 in
theorem w_1890 : Cond.instanceMethod yX9_spots ∈ lw_ok := List.mem_filter.mpr ⟨List.mem_of_getElem? (wl_15_ok (1890, Cond.instanceMethod yX9_spots) (List.mem_of_getElem? (i := 62) rfl)), rfl⟩
set_option maxRecDepth 100000 in
theorem w_1891 : Cond.selects RX9 yX9_spots yX9_spots ∈ lw_ok := List.mem_filter.mpr ⟨List.mem_of_getElem? (wl_15_ok (1891, Cond.selects RX9 yX9_spots yX9_spots) (List.mem_of_getElem? (i := 63) rfl)), rfl⟩
set_option maxRecDepth 100000 in
theorem w_1892 : Cond.code yX9_spots cX9_spots 6 (some .int) ∈ lw_ok := List.mem_filter.mpr ⟨List.mem_of_getElem? (wl_15_ok (1892, Cond.code yX9_spots cX9_spots 6 (some .int)) (List.mem_of_getElem? (i := 64) rfl)), rfl⟩
set_option maxRecDepth 100000 in
theorem w_1893 : Cond.methodLink "LeakyLineLaw" 274 yX9_breaks ∈ lw_ok := List.mem_filter.mpr ⟨List.mem_of_getElem? (wl_15_ok (1893, Cond.methodLink "LeakyLineLaw" 274 yX9_breaks) (List.mem_of_getElem? (i := 65) rfl)), rfl⟩
set_option maxRecDepth 100000 in
theorem w_1894 : Cond.instanceMethod yX9_breaks ∈ lw_ok := List.mem_filter.mpr ⟨List.mem_of_getElem? (wl_15_ok (1894, Cond.instanceMethod yX9_breaks) (List.mem_of_getElem? (i := 66) rfl)), rfl⟩
set_option maxRecDepth 100000 in
theorem w_1895 : Cond.selects RX9 yX9_breaks yX9_breaks ∈ lw_ok := List.mem_filter.mpr ⟨List.mem_of_getElem? (wl_15_ok (1895, Cond.selects RX9 yX9_breaks yX9_breaks) (List.mem_of_getElem? (i := 67) rfl)), rfl⟩
set_option maxRecDepth 100000 in
theorem w_1896 : Cond.code yX9_breaks cX9_breaks 5 (some .int) ∈ lw_ok := List.mem_filter.mpr ⟨List.mem_of_getElem? (wl_15_ok (1896, Cond.code yX9_breaks cX9_breaks 5 (some .int)) (List.mem_of_getElem? (i := 68) rfl)), rfl⟩
set_option maxRecDepth 100000 in
theorem w_1897 : Cond.methodLink "LeakyLineLaw" 278 yX9_laws ∈ lw_ok := List.mem_filter.mpr ⟨List.mem_of_getElem? (wl_15_ok (1897, Cond.methodLink "LeakyLineLaw" 278 yX9_laws) (List.mem_of_getElem? (i := 69) rfl)), rfl⟩
set_option maxRecDepth 100000 in
theorem w_1898 : Cond.instanceMethod yX9_laws ∈ lw_ok := List.mem_filter.mpr ⟨List.mem_of_getElem? (wl_15_ok (1898, Cond.instanceMethod yX9_laws) (List.mem_of_getElem? (i := 70) rfl)), rfl⟩
set_option maxRecDepth 100000 in
theorem w_1899 : Cond.selects RX9 yX9_laws yX9_laws ∈ lw_ok := List.mem_filter.mpr ⟨List.mem_of_getElem? (wl_15_ok (1899, Cond.selects RX9 yX9_laws yX9_laws) (List.mem_of_getElem? (i := 71) rfl)), rfl⟩
set_option maxRecDepth 100000 in
theorem w_1900 : Cond.code yX9_laws cX9_laws 5 (some .int) ∈ lw_ok := List.mem_filter.mpr ⟨List.mem_of_getElem? (wl_15_ok (1900, Cond.code yX9_laws cX9_laws 5 (some .int)) (List.mem_of_getElem? (i := 72) rfl)), rfl⟩
set_option maxRecDepth 100000 in
theorem w_1901 : Cond.methodLink "LeakyLineLaw" 282 yX9_by ∈ lw_ok := List.mem_filter.mpr ⟨List.mem_of_getElem? (wl_15_ok (1901, Cond.methodLink "LeakyLineLaw" 282 yX9_by) (List.mem_of_getElem? (i := 73) rfl)), rfl⟩
set_option maxRecDepth 100000 in
theorem w_1902 : Cond.instanceMethod yX9_by ∈ lw_ok := List.mem_filter.mpr ⟨List.mem_of_getElem? (wl_15_ok (1902, Cond.instanceMethod yX9_by) (List.mem_of_getElem? (i := 74) rfl)), rfl⟩
set_option maxRecDepth 100000 in
theorem w_1903 : Cond.selects RX9 yX9_by yX9_by ∈ lw_ok := List.mem_filter.mpr ⟨List.mem_of_getElem? (wl_15_ok (1903, Cond.selects RX9 yX9_by yX9_by) (List.mem_of_getElem? (i := 75) rfl)), rfl⟩
set_option maxRecDepth 100000 in
theorem w_1904 : Cond.code yX9_by cX9_by 2 (some .int) ∈ lw_ok := List.mem_filter.mpr ⟨List.mem_of_getElem? (wl_15_ok (1904, Cond.code yX9_by cX9_by 2 (some .int)) (List.mem_of_getElem? (i := 76) rfl)), rfl⟩
set_option maxRecDepth 100000 in
theorem w_1905 : Cond.methodLink RX9 365 yX9_sumBy ∈ lw_ok := List.mem_filter.mpr ⟨List.mem_of_getElem? (wl_15_ok (1905, Cond.methodLink RX9 365 yX9_sumBy) (List.mem_of_getElem? (i := 77) rfl)), rfl⟩
set_option maxRecDepth 100000 in
theorem w_1907 : Cond.instanceMethod yX9_sumBy ∈ lw_ok := List.mem_filter.mpr ⟨List.mem_of_getElem? (wl_15_ok (1907, Cond.instanceMethod yX9_sumBy) (List.mem_of_getElem? (i := 78) rfl)), rfl⟩
set_option maxRecDepth 100000 in
theorem w_1908 : Cond.code yX9_sumBy cX9_sumBy 2 (some .int) ∈ lw_ok := List.mem_filter.mpr ⟨List.mem_of_getElem? (wl_15_ok (1908, Cond.code yX9_sumBy cX9_sumBy 2 (some .int)) (List.mem_of_getElem? (i := 79) rfl)), rfl⟩
set_option maxRecDepth 100000 in
theorem w_1909 : Cond.methodLink "LeakyLineLaw" 286 yX9_law ∈ lw_ok := List.mem_filter.mpr ⟨List.mem_of_getElem? (wl_15_ok (1909, Cond.methodLink "LeakyLineLaw" 286 yX9_law) (List.mem_of_getElem? (i := 80) rfl)), rfl⟩
set_option maxRecDepth 100000 in
theorem w_1910 : Cond.instanceMethod yX9_law ∈ lw_ok := List.mem_filter.mpr ⟨List.mem_of_getElem? (wl_15_ok (1910, Cond.instanceMethod yX9_law) (List.mem_of_getElem? (i := 81) rfl)), rfl⟩
set_option maxRecDepth 100000 in
theorem w_1911 : Cond.selects RX9 yX9_law yX9_law ∈ lw_ok := List.mem_filter.mpr ⟨List.mem_of_getElem? (wl_15_ok (1911, Cond.selects RX9 yX9_law yX9_law) (List.mem_of_getElem? (i := 82) rfl)), rfl⟩
set_option maxRecDepth 100000 in
theorem w_1912 : Cond.code yX9_law cX9_law 3 (some .int) ∈ lw_ok := List.mem_filter.mpr ⟨List.mem_of_getElem? (wl_15_ok (1912, Cond.code yX9_law cX9_law 3 (some .int)) (List.mem_of_getElem? (i := 83) rfl)), rfl⟩
set_option maxRecDepth 100000 in
theorem w_1913 : Cond.methodLink "LeakyLineLaw" 290 yX9_worth ∈ lw_ok := List.mem_filter.mpr ⟨List.mem_of_getElem? (wl_15_ok (1913, Cond.methodLink "LeakyLineLaw" 290 yX9_worth) (List.mem_of_getElem? (i := 84) rfl)), rfl⟩
set_option maxRecDepth 100000 in
theorem w_1914 : Cond.instanceMethod yX9_worth ∈ lw_ok := List.mem_filter.mpr ⟨List.mem_of_getElem? (wl_15_ok (1914, Cond.instanceMethod yX9_worth) (List.mem_of_getElem? (i := 85) rfl)), rfl⟩
set_option maxRecDepth 100000 in
theorem w_1915 : Cond.selects RX9 yX9_worth yX9_worth ∈ lw_ok := List.mem_filter.mpr ⟨List.mem_of_getElem? (wl_15_ok (1915, Cond.selects RX9 yX9_worth yX9_worth) (List.mem_of_getElem? (i := 86) rfl)), rfl⟩
set_option maxRecDepth 100000 in
theorem w_1916 : Cond.code yX9_worth cX9_worth 2 (some .int) ∈ lw_ok := List.mem_filter.mpr ⟨List.mem_of_getElem? (wl_15_ok (1916, Cond.code yX9_worth cX9_worth 2 (some .int)) (List.mem_of_getElem? (i := 87) rfl)), rfl⟩
set_option maxRecDepth 100000 in
theorem w_1917 : Cond.methodLink "LeakyLineLaw" 294 yX9_share ∈ lw_ok := List.mem_filter.mpr ⟨List.mem_of_getElem? (wl_15_ok (1917, Cond.methodLink "LeakyLineLaw" 294 yX9_share) (List.mem_of_getElem? (i := 88) rfl)), rfl⟩
set_option maxRecDepth 100000 in
theorem w_1918 : Cond.instanceMethod yX9_share ∈ lw_ok := List.mem_filter.mpr ⟨List.mem_of_getElem? (wl_15_ok (1918, Cond.instanceMethod yX9_share) (List.mem_of_getElem? (i := 89) rfl)), rfl⟩
set_option maxRecDepth 100000 in
theorem w_1919 : Cond.selects RX9 yX9_share yX9_share ∈ lw_ok := List.mem_filter.mpr ⟨List.mem_of_getElem? (wl_15_ok (1919, Cond.selects RX9 yX9_share yX9_share) (List.mem_of_getElem? (i := 90) rfl)), rfl⟩
set_option maxRecDepth 100000 in
theorem w_1920 : Cond.code yX9_share cX9_share 6 (some .int) ∈ lw_ok := List.mem_filter.mpr ⟨List.mem_of_getElem? (wl_15_ok (1920, Cond.code yX9_share cX9_share 6 (some .int)) (List.mem_of_getElem? (i := 91) rfl)), rfl⟩
set_option maxRecDepth 100000 in
theorem w_1921 : Cond.constant RX9 371 (-1000000) ∈ lw_ok := List.mem_filter.mpr ⟨List.mem_of_getElem? (wl_15_ok (1921, Cond.constant RX9 371 (-1000000)) (List.mem_of_getElem? (i := 92) rfl)), rfl⟩
set_option maxRecDepth 100000 in
theorem w_1922 : Cond.methodLink RX9 368 yX9_times ∈ lw_ok := List.mem_filter.mpr ⟨List.mem_of_getElem? (wl_15_ok (1922, Cond.methodLink RX9 368 yX9_times) (List.mem_of_getElem? (i := 93) rfl)), rfl⟩
set_option maxRecDepth 100000 in
theorem w_1923 : Cond.static yX9_times ∈ lw_ok := List.mem_filter.mpr ⟨List.mem_of_getElem? (wl_15_ok (1923, Cond.static yX9_times) (List.mem_of_getElem? (i := 94) rfl)), rfl⟩
set_option maxRecDepth 100000 in
theorem w_1924 : Cond.code yX9_times cX9_times 1 (some .int) ∈ lw_ok := List.mem_filter.mpr ⟨List.mem_of_getElem? (wl_15_ok (1924, Cond.code yX9_times cX9_times 1 (some .int)) (List.mem_of_getElem? (i := 95) rfl)), rfl⟩
set_option maxRecDepth 100000 in
theorem w_1925 : Cond.methodLink "LeakyLineLaw" 298 yX9_rests ∈ lw_ok := List.mem_filter.mpr ⟨List.mem_of_getElem? (wl_15_ok (1925, Cond.methodLink "LeakyLineLaw" 298 yX9_rests) (List.mem_of_getElem? (i := 96) rfl)), rfl⟩
set_option maxRecDepth 100000 in
theorem w_1926 : Cond.instanceMethod yX9_rests ∈ lw_ok := List.mem_filter.mpr ⟨List.mem_of_getElem? (wl_15_ok (1926, Cond.instanceMethod yX9_rests) (List.mem_of_getElem? (i := 97) rfl)), rfl⟩
set_option maxRecDepth 100000 in
theorem w_1927 : Cond.selects RX9 yX9_rests yX9_rests ∈ lw_ok := List.mem_filter.mpr ⟨List.mem_of_getElem? (wl_15_ok (1927, Cond.selects RX9 yX9_rests yX9_rests) (List.mem_of_getElem? (i := 98) rfl)), rfl⟩
set_option maxRecDepth 100000 in
theorem w_1928 : Cond.code yX9_rests cX9_rests 8 (some .int) ∈ lw_ok := List.mem_filter.mpr ⟨List.mem_of_getElem? (wl_15_ok (1928, Cond.code yX9_rests cX9_rests 8 (some .int)) (List.mem_of_getElem? (i := 99) rfl)), rfl⟩
def wl_16 : List (Nat × Cond) := [(1929, Cond.methodLink RX9 372 yX9_areTwo), (1931, Cond.instanceMethod yX9_areTwo), (1932, Cond.code yX9_areTwo cX9_areTwo 3 (some .boolean)), (1933, Cond.methodLink RX9 375 yX9_getsBy), (1935, Cond.instanceMethod yX9_getsBy), (1936, Cond.code yX9_getsBy cX9_getsBy 8 (some .int)), (1937, Cond.methodLink "LeakyLineLaw" 303 yX9_gets), (1938, Cond.instanceMethod yX9_gets), (1939, Cond.selects RX9 yX9_gets yX9_gets), (1940, Cond.code yX9_gets cX9_gets 5 (some .int)), (1941, Cond.methodLink "LeakyLineLaw" 308 yX9_chance), (1942, Cond.instanceMethod yX9_chance), (1943, Cond.selects RX9 yX9_chance yX9_chance), (1944, Cond.code yX9_chance cX9_chance 4 (some .int)), (1945, Cond.methodLink RX9 384 yX9_isSoon), (1947, Cond.instanceMethod yX9_isSoon), (1948, Cond.code yX9_isSoon cX9_isSoon 2 (some .boolean)), (1949, Cond.methodLink RX9 387 yX9_weightOf), (1951, Cond.instanceMethod yX9_weightOf), (1952, Cond.code yX9_weightOf cX9_weightOf 9 (some .long)), (1953, Cond.methodLink RX9 379 yX9_power), (1954, Cond.static yX9_power), (1955, Cond.code yX9_power cX9_power 3 (some .long)), (1956, Cond.constantLong RX9 382 10), (1957, Cond.methodLink "LeakyLineLaw" 312 yX9_mean), (1958, Cond.instanceMethod yX9_mean), (1959, Cond.selects RX9 yX9_mean yX9_mean), (1960, Cond.code yX9_mean cX9_mean 3 (some .long)), (1961, Cond.methodLink "LeakyLineLaw" 332 yX9_drawn), (1962, Cond.instanceMethod yX9_drawn), (1963, Cond.selects RX9 yX9_drawn yX9_drawn), (1964, Cond.code yX9_drawn cX9_drawn 3 (some .int)), (1965, Cond.methodLink RX9 401 yX9_isSeed), (1966, Cond.static yX9_isSeed), (1967, Cond.code yX9_isSeed cX9_isSeed 1 (some .boolean)), (1968, Cond.constantLong RX9 399 2000000000), (1969, Cond.methodLink RX9 404 yX9_draws), (1971, Cond.instanceMethod yX9_draws), (1972, Cond.code yX9_draws cX9_draws 6 none), (1973, Cond.constantLong RX9 391 1103515245), (1974, Cond.constantLong RX9 393 12345), (1975, Cond.constantLong RX9 395 2147483648), (1976, Cond.constantLong RX9 397 65536), (1977, Cond.methodLink "LeakyLineLaw" 336 yX9_luck), (1978, Cond.instanceMethod yX9_luck), (1979, Cond.selects RX9 yX9_luck yX9_luck), (1980, Cond.code yX9_luck cX9_luck 6 (some .int)), (1981, Cond.constantLong RX9 407 20), (1982, Cond.methodLink "LeakyLineLaw" 316 yX9_cups), (1983, Cond.instanceMethod yX9_cups), (1984, Cond.selects RX9 yX9_cups yX9_cups), (1985, Cond.code yX9_cups cX9_cups 3 (some .int)), (1986, Cond.methodLink RX9 409 yX9_does), (1988, Cond.instanceMethod yX9_does), (1989, Cond.code yX9_does cX9_does 5 none), (1990, Cond.methodLink "LeakyLineLaw" 320 yX9_snaps), (1991, Cond.instanceMethod yX9_snaps), (1992, Cond.selects RX9 yX9_snaps yX9_snaps), (1993, Cond.code yX9_snaps cX9_snaps 3 (some .int)), (1994, Cond.methodLink "LeakyLineLaw" 324 yX9_undo), (1995, Cond.instanceMethod yX9_undo), (1996, Cond.selects RX9 yX9_undo yX9_undo), (1997, Cond.code yX9_undo cX9_undo 1 (some .int)), (1998, Cond.methodLink "LeakyLineLaw" 328 yX9_anew), (1999, Cond.instanceMethod yX9_anew), (2000, Cond.selects RX9 yX9_anew yX9_anew), (2001, Cond.code yX9_anew cX9_anew 2 (some .int)), (2002, Cond.methodLink "LeakyLineLaw" 340 yX9_rate), (2003, Cond.instanceMethod yX9_rate), (2004, Cond.selects RX9 yX9_rate yX9_rate), (2005, Cond.code yX9_rate cX9_rate 4 (some .int)), (2006, Cond.constantLong RX9 413 60), (2007, Cond.methodLink "LeakyLineLaw" 344 yX9_count), (2008, Cond.instanceMethod yX9_count), (2009, Cond.selects RX9 yX9_count yX9_count), (2010, Cond.code yX9_count cX9_count 4 (some .int)), (2011, Cond.constantLong RX9 415 6), (2012, Cond.methodLink "LeakyLineLaw" 348 yX9_image), (2013, Cond.instanceMethod yX9_image), (2014, Cond.selects RX9 yX9_image yX9_image), (2015, Cond.code yX9_image cX9_image 2 (some .int)), (2016, Cond.methodLink "LeakyLineLaw" 352 yX9_back), (2017, Cond.instanceMethod yX9_back), (2018, Cond.selects RX9 yX9_back yX9_back), (2019, Cond.code yX9_back cX9_back 2 (some .int)), (2020, Cond.constantLong "LeakyLineLaw" 357 4294967295), (2021, Cond.fieldLink RJ0 9 "java/lang/String" "value" "[B"), (2022, Cond.fieldLink RJ0 15 "java/lang/String" "coder" "B")]
set_option maxRecDepth 100000 in
theorem wl_16_ok : ∀ x ∈ wl_16, lw_tbl[x.1]? = some x.2 := by decide +kernel
set_option maxRecDepth 100000 in
theorem w_1929 : Cond.methodLink RX9 372 yX9_areTwo ∈ lw_ok := List.mem_filter.mpr ⟨List.mem_of_getElem? (wl_16_ok (1929, Cond.methodLink RX9 372 yX9_areTwo) (List.mem_of_getElem? (i := 0) rfl)), rfl⟩
set_option maxRecDepth 100000 in
theorem w_1931 : Cond.instanceMethod yX9_areTwo ∈ lw_ok := List.mem_filter.mpr ⟨List.mem_of_getElem? (wl_16_ok (1931, Cond.instanceMethod yX9_areTwo) (List.mem_of_getElem? (i := 1) rfl)), rfl⟩
set_option maxRecDepth 100000 in
theorem w_1932 : Cond.code yX9_areTwo cX9_areTwo 3 (some .boolean) ∈ lw_ok := List.mem_filter.mpr ⟨List.mem_of_getElem? (wl_16_ok (1932, Cond.code yX9_areTwo cX9_areTwo 3 (some .boolean)) (List.mem_of_getElem? (i := 2) rfl)), rfl⟩
set_option maxRecDepth 100000 in
theorem w_1933 : Cond.methodLink RX9 375 yX9_getsBy ∈ lw_ok := List.mem_filter.mpr ⟨List.mem_of_getElem? (wl_16_ok (1933, Cond.methodLink RX9 375 yX9_getsBy) (List.mem_of_getElem? (i := 3) rfl)), rfl⟩
set_option maxRecDepth 100000 in
theorem w_1935 : Cond.instanceMethod yX9_getsBy ∈ lw_ok := List.mem_filter.mpr ⟨List.mem_of_getElem? (wl_16_ok (1935, Cond.instanceMethod yX9_getsBy) (List.mem_of_getElem? (i := 4) rfl)), rfl⟩
set_option maxRecDepth 100000 in
theorem w_1936 : Cond.code yX9_getsBy cX9_getsBy 8 (some .int) ∈ lw_ok := List.mem_filter.mpr ⟨List.mem_of_getElem? (wl_16_ok (1936, Cond.code yX9_getsBy cX9_getsBy 8 (some .int)) (List.mem_of_getElem? (i := 5) rfl)), rfl⟩
set_option maxRecDepth 100000 in
theorem w_1937 : Cond.methodLink "LeakyLineLaw" 303 yX9_gets ∈ lw_ok := List.mem_filter.mpr ⟨List.mem_of_getElem? (wl_16_ok (1937, Cond.methodLink "LeakyLineLaw" 303 yX9_gets) (List.mem_of_getElem? (i := 6) rfl)), rfl⟩
set_option maxRecDepth 100000 in
theorem w_1938 : Cond.instanceMethod yX9_gets ∈ lw_ok := List.mem_filter.mpr ⟨List.mem_of_getElem? (wl_16_ok (1938, Cond.instanceMethod yX9_gets) (List.mem_of_getElem? (i := 7) rfl)), rfl⟩
set_option maxRecDepth 100000 in
theorem w_1939 : Cond.selects RX9 yX9_gets yX9_gets ∈ lw_ok := List.mem_filter.mpr ⟨List.mem_of_getElem? (wl_16_ok (1939, Cond.selects RX9 yX9_gets yX9_gets) (List.mem_of_getElem? (i := 8) rfl)), rfl⟩
set_option maxRecDepth 100000 in
theorem w_1940 : Cond.code yX9_gets cX9_gets 5 (some .int) ∈ lw_ok := List.mem_filter.mpr ⟨List.mem_of_getElem? (wl_16_ok (1940, Cond.code yX9_gets cX9_gets 5 (some .int)) (List.mem_of_getElem? (i := 9) rfl)), rfl⟩
set_option maxRecDepth 100000 in
theorem w_1941 : Cond.methodLink "LeakyLineLaw" 308 yX9_chance ∈ lw_ok := List.mem_filter.mpr ⟨List.mem_of_getElem? (wl_16_ok (1941, Cond.methodLink "LeakyLineLaw" 308 yX9_chance) (List.mem_of_getElem? (i := 10) rfl)), rfl⟩
set_option maxRecDepth 100000 in
theorem w_1942 : Cond.instanceMethod yX9_chance ∈ lw_ok := List.mem_filter.mpr ⟨List.mem_of_getElem? (wl_16_ok (1942, Cond.instanceMethod yX9_chance) (List.mem_of_getElem? (i := 11) rfl)), rfl⟩
set_option maxRecDepth 100000 in
theorem w_1943 : Cond.selects RX9 yX9_chance yX9_chance ∈ lw_ok := List.mem_filter.mpr ⟨List.mem_of_getElem? (wl_16_ok (1943, Cond.selects RX9 yX9_chance yX9_chance) (List.mem_of_getElem? (i := 12) rfl)), rfl⟩
set_option maxRecDepth 100000 in
theorem w_1944 : Cond.code yX9_chance cX9_chance 4 (some .int) ∈ lw_ok := List.mem_filter.mpr ⟨List.mem_of_getElem? (wl_16_ok (1944, Cond.code yX9_chance cX9_chance 4 (some .int)) (List.mem_of_getElem? (i := 13) rfl)), rfl⟩
set_option maxRecDepth 100000 in
theorem w_1945 : Cond.methodLink RX9 384 yX9_isSoon ∈ lw_ok := List.mem_filter.mpr ⟨List.mem_of_getElem? (wl_16_ok (1945, Cond.methodLink RX9 384 yX9_isSoon) (List.mem_of_getElem? (i := 14) rfl)), rfl⟩
set_option maxRecDepth 100000 in
theorem w_1947 : Cond.instanceMethod yX9_isSoon ∈ lw_ok := List.mem_filter.mpr ⟨List.mem_of_getElem? (wl_16_ok (1947, Cond.instanceMethod yX9_isSoon) (List.mem_of_getElem? (i := 15) rfl)), rfl⟩
set_option maxRecDepth 100000 in
theorem w_1948 : Cond.code yX9_isSoon cX9_isSoon 2 (some .boolean) ∈ lw_ok := List.mem_filter.mpr ⟨List.mem_of_getElem? (wl_16_ok (1948, Cond.code yX9_isSoon cX9_isSoon 2 (some .boolean)) (List.mem_of_getElem? (i := 16) rfl)), rfl⟩
set_option maxRecDepth 100000 in
theorem w_1949 : Cond.methodLink RX9 387 yX9_weightOf ∈ lw_ok := List.mem_filter.mpr ⟨List.mem_of_getElem? (wl_16_ok (1949, Cond.methodLink RX9 387 yX9_weightOf) (List.mem_of_getElem? (i := 17) rfl)), rfl⟩
set_option maxRecDepth 100000 in
theorem w_1951 : Cond.instanceMethod yX9_weightOf ∈ lw_ok := List.mem_filter.mpr ⟨List.mem_of_getElem? (wl_16_ok (1951, Cond.instanceMethod yX9_weightOf) (List.mem_of_getElem? (i := 18) rfl)), rfl⟩
set_option maxRecDepth 100000 in
theorem w_1952 : Cond.code yX9_weightOf cX9_weightOf 9 (some .long) ∈ lw_ok := List.mem_filter.mpr ⟨List.mem_of_getElem? (wl_16_ok (1952, Cond.code yX9_weightOf cX9_weightOf 9 (some .long)) (List.mem_of_getElem? (i := 19) rfl)), rfl⟩
set_option maxRecDepth 100000 in
theorem w_1953 : Cond.methodLink RX9 379 yX9_power ∈ lw_ok := List.mem_filter.mpr ⟨List.mem_of_getElem? (wl_16_ok (1953, Cond.methodLink RX9 379 yX9_power) (List.mem_of_getElem? (i := 20) rfl)), rfl⟩
set_option maxRecDepth 100000 in
theorem w_1954 : Cond.static yX9_power ∈ lw_ok := List.mem_filter.mpr ⟨List.mem_of_getElem? (wl_16_ok (1954, Cond.static yX9_power) (List.mem_of_getElem? (i := 21) rfl)), rfl⟩
set_option maxRecDepth 100000 in
theorem w_1955 : Cond.code yX9_power cX9_power 3 (some .long) ∈ lw_ok := List.mem_filter.mpr ⟨List.mem_of_getElem? (wl_16_ok (1955, Cond.code yX9_power cX9_power 3 (some .long)) (List.mem_of_getElem? (i := 22) rfl)), rfl⟩
set_option maxRecDepth 100000 in
theorem w_1956 : Cond.constantLong RX9 382 10 ∈ lw_ok := List.mem_filter.mpr ⟨List.mem_of_getElem? (wl_16_ok (1956, Cond.constantLong RX9 382 10) (List.mem_of_getElem? (i := 23) rfl)), rfl⟩
set_option maxRecDepth 100000 in
theorem w_1957 : Cond.methodLink "LeakyLineLaw" 312 yX9_mean ∈ lw_ok := List.mem_filter.mpr ⟨List.mem_of_getElem? (wl_16_ok (1957, Cond.methodLink "LeakyLineLaw" 312 yX9_mean) (List.mem_of_getElem? (i := 24) rfl)), rfl⟩
set_option maxRecDepth 100000 in
theorem w_1958 : Cond.instanceMethod yX9_mean ∈ lw_ok := List.mem_filter.mpr ⟨List.mem_of_getElem? (wl_16_ok (1958, Cond.instanceMethod yX9_mean) (List.mem_of_getElem? (i := 25) rfl)), rfl⟩
set_option maxRecDepth 100000 in
theorem w_1959 : Cond.selects RX9 yX9_mean yX9_mean ∈ lw_ok := List.mem_filter.mpr ⟨List.mem_of_getElem? (wl_16_ok (1959, Cond.selects RX9 yX9_mean yX9_mean) (List.mem_of_getElem? (i := 26) rfl)), rfl⟩
set_option maxRecDepth 100000 in
theorem w_1960 : Cond.code yX9_mean cX9_mean 3 (some .long) ∈ lw_ok := List.mem_filter.mpr ⟨List.mem_of_getElem? (wl_16_ok (1960, Cond.code yX9_mean cX9_mean 3 (some .long)) (List.mem_of_getElem? (i := 27) rfl)), rfl⟩
set_option maxRecDepth 100000 in
theorem w_1961 : Cond.methodLink "LeakyLineLaw" 332 yX9_drawn ∈ lw_ok := List.mem_filter.mpr ⟨List.mem_of_getElem? (wl_16_ok (1961, Cond.methodLink "LeakyLineLaw" 332 yX9_drawn) (List.mem_of_getElem? (i := 28) rfl)), rfl⟩
set_option maxRecDepth 100000 in
theorem w_1962 : Cond.instanceMethod yX9_drawn ∈ lw_ok := List.mem_filter.mpr ⟨List.mem_of_getElem? (wl_16_ok (1962, Cond.instanceMethod yX9_drawn) (List.mem_of_getElem? (i := 29) rfl)), rfl⟩
set_option maxRecDepth 100000 in
theorem w_1963 : Cond.selects RX9 yX9_drawn yX9_drawn ∈ lw_ok := List.mem_filter.mpr ⟨List.mem_of_getElem? (wl_16_ok (1963, Cond.selects RX9 yX9_drawn yX9_drawn) (List.mem_of_getElem? (i := 30) rfl)), rfl⟩
set_option maxRecDepth 100000 in
theorem w_1964 : Cond.code yX9_drawn cX9_drawn 3 (some .int) ∈ lw_ok := List.mem_filter.mpr ⟨List.mem_of_getElem? (wl_16_ok (1964, Cond.code yX9_drawn cX9_drawn 3 (some .int)) (List.mem_of_getElem? (i := 31) rfl)), rfl⟩
set_option maxRecDepth 100000 in
theorem w_1965 : Cond.methodLink RX9 401 yX9_isSeed ∈ lw_ok := List.mem_filter.mpr ⟨List.mem_of_getElem? (wl_16_ok (1965, Cond.methodLink RX9 401 yX9_isSeed) (List.mem_of_getElem? (i := 32) rfl)), rfl⟩
set_option maxRecDepth 100000 in
theorem w_1966 : Cond.static yX9_isSeed ∈ lw_ok := List.mem_filter.mpr ⟨List.mem_of_getElem? (wl_16_ok (1966, Cond.static yX9_isSeed) (List.mem_of_getElem? (i := 33) rfl)), rfl⟩
set_option maxRecDepth 100000 in
theorem w_1967 : Cond.code yX9_isSeed cX9_isSeed 1 (some .boolean) ∈ lw_ok := List.mem_filter.mpr ⟨List.mem_of_getElem? (wl_16_ok (1967, Cond.code yX9_isSeed cX9_isSeed 1 (some .boolean)) (List.mem_of_getElem? (i := 34) rfl)), rfl⟩
set_option maxRecDepth 100000 in
theorem w_1968 : Cond.constantLong RX9 399 2000000000 ∈ lw_ok := List.mem_filter.mpr ⟨List.mem_of_getElem? (wl_16_ok (1968, Cond.constantLong RX9 399 2000000000) (List.mem_of_getElem? (i := 35) rfl)), rfl⟩
set_option maxRecDepth 100000 in
theorem w_1969 : Cond.methodLink RX9 404 yX9_draws ∈ lw_ok := List.mem_filter.mpr ⟨List.mem_of_getElem? (wl_16_ok (1969, Cond.methodLink RX9 404 yX9_draws) (List.mem_of_getElem? (i := 36) rfl)), rfl⟩
set_option maxRecDepth 100000 in
theorem w_1971 : Cond.instanceMethod yX9_draws ∈ lw_ok := List.mem_filter.mpr ⟨List.mem_of_getElem? (wl_16_ok (1971, Cond.instanceMethod yX9_draws) (List.mem_of_getElem? (i := 37) rfl)), rfl⟩
set_option maxRecDepth 100000 in
theorem w_1972 : Cond.code yX9_draws cX9_draws 6 none ∈ lw_ok := List.mem_filter.mpr ⟨List.mem_of_getElem? (wl_16_ok (1972, Cond.code yX9_draws cX9_draws 6 none) (List.mem_of_getElem? (i := 38) rfl)), rfl⟩
set_option maxRecDepth 100000 in
theorem w_1973 : Cond.constantLong RX9 391 1103515245 ∈ lw_ok := List.mem_filter.mpr ⟨List.mem_of_getElem? (wl_16_ok (1973, Cond.constantLong RX9 391 1103515245) (List.mem_of_getElem? (i := 39) rfl)), rfl⟩
set_option maxRecDepth 100000 in
theorem w_1974 : Cond.constantLong RX9 393 12345 ∈ lw_ok := List.mem_filter.mpr ⟨List.mem_of_getElem? (wl_16_ok (1974, Cond.constantLong RX9 393 12345) (List.mem_of_getElem? (i := 40) rfl)), rfl⟩
set_option maxRecDepth 100000 in
theorem w_1975 : Cond.constantLong RX9 395 2147483648 ∈ lw_ok := List.mem_filter.mpr ⟨List.mem_of_getElem? (wl_16_ok (1975, Cond.constantLong RX9 395 2147483648) (List.mem_of_getElem? (i := 41) rfl)), rfl⟩
set_option maxRecDepth 100000 in
theorem w_1976 : Cond.constantLong RX9 397 65536 ∈ lw_ok := List.mem_filter.mpr ⟨List.mem_of_getElem? (wl_16_ok (1976, Cond.constantLong RX9 397 65536) (List.mem_of_getElem? (i := 42) rfl)), rfl⟩
set_option maxRecDepth 100000 in
theorem w_1977 : Cond.methodLink "LeakyLineLaw" 336 yX9_luck ∈ lw_ok := List.mem_filter.mpr ⟨List.mem_of_getElem? (wl_16_ok (1977, Cond.methodLink "LeakyLineLaw" 336 yX9_luck) (List.mem_of_getElem? (i := 43) rfl)), rfl⟩
set_option maxRecDepth 100000 in
theorem w_1978 : Cond.instanceMethod yX9_luck ∈ lw_ok := List.mem_filter.mpr ⟨List.mem_of_getElem? (wl_16_ok (1978, Cond.instanceMethod yX9_luck) (List.mem_of_getElem? (i := 44) rfl)), rfl⟩
set_option maxRecDepth 100000 in
theorem w_1979 : Cond.selects RX9 yX9_luck yX9_luck ∈ lw_ok := List.mem_filter.mpr ⟨List.mem_of_getElem? (wl_16_ok (1979, Cond.selects RX9 yX9_luck yX9_luck) (List.mem_of_getElem? (i := 45) rfl)), rfl⟩
set_option maxRecDepth 100000 in
theorem w_1980 : Cond.code yX9_luck cX9_luck 6 (some .int) ∈ lw_ok := List.mem_filter.mpr ⟨List.mem_of_getElem? (wl_16_ok (1980, Cond.code yX9_luck cX9_luck 6 (some .int)) (List.mem_of_getElem? (i := 46) rfl)), rfl⟩
set_option maxRecDepth 100000 in
theorem w_1981 : Cond.constantLong RX9 407 20 ∈ lw_ok := List.mem_filter.mpr ⟨List.mem_of_getElem? (wl_16_ok (1981, Cond.constantLong RX9 407 20) (List.mem_of_getElem? (i := 47) rfl)), rfl⟩
set_option maxRecDepth 100000 in
theorem w_1982 : Cond.methodLink "LeakyLineLaw" 316 yX9_cups ∈ lw_ok := List.mem_filter.mpr ⟨List.mem_of_getElem? (wl_16_ok (1982, Cond.methodLink "LeakyLineLaw" 316 yX9_cups) (List.mem_of_getElem? (i := 48) rfl)), rfl⟩
set_option maxRecDepth 100000 in
theorem w_1983 : Cond.instanceMethod yX9_cups ∈ lw_ok := List.mem_filter.mpr ⟨List.mem_of_getElem? (wl_16_ok (1983, Cond.instanceMethod yX9_cups) (List.mem_of_getElem? (i := 49) rfl)), rfl⟩
set_option maxRecDepth 100000 in
theorem w_1984 : Cond.selects RX9 yX9_cups yX9_cups ∈ lw_ok := List.mem_filter.mpr ⟨List.mem_of_getElem? (wl_16_ok (1984, Cond.selects RX9 yX9_cups yX9_cups) (List.mem_of_getElem? (i := 50) rfl)), rfl⟩
set_option maxRecDepth 100000 in
theorem w_1985 : Cond.code yX9_cups cX9_cups 3 (some .int) ∈ lw_ok := List.mem_filter.mpr ⟨List.mem_of_getElem? (wl_16_ok (1985, Cond.code yX9_cups cX9_cups 3 (some .int)) (List.mem_of_getElem? (i := 51) rfl)), rfl⟩
set_option maxRecDepth 100000 in
theorem w_1986 : Cond.methodLink RX9 409 yX9_does ∈ lw_ok := List.mem_filter.mpr ⟨List.mem_of_getElem? (wl_16_ok (1986, Cond.methodLink RX9 409 yX9_does) (List.mem_of_getElem? (i := 52) rfl)), rfl⟩
set_option maxRecDepth 100000 in
theorem w_1988 : Cond.instanceMethod yX9_does ∈ lw_ok := List.mem_filter.mpr ⟨List.mem_of_getElem? (wl_16_ok (1988, Cond.instanceMethod yX9_does) (List.mem_of_getElem? (i := 53) rfl)), rfl⟩
set_option maxRecDepth 100000 in
theorem w_1989 : Cond.code yX9_does cX9_does 5 none ∈ lw_ok := List.mem_filter.mpr ⟨List.mem_of_getElem? (wl_16_ok (1989, Cond.code yX9_does cX9_does 5 none) (List.mem_of_getElem? (i := 54) rfl)), rfl⟩
set_option maxRecDepth 100000 in
theorem w_1990 : Cond.methodLink "LeakyLineLaw" 320 yX9_snaps ∈ lw_ok := List.mem_filter.mpr ⟨List.mem_of_getElem? (wl_16_ok (1990, Cond.methodLink "LeakyLineLaw" 320 yX9_snaps) (List.mem_of_getElem? (i := 55) rfl)), rfl⟩
set_option maxRecDepth 100000 in
theorem w_1991 : Cond.instanceMethod yX9_snaps ∈ lw_ok := List.mem_filter.mpr ⟨List.mem_of_getElem? (wl_16_ok (1991, Cond.instanceMethod yX9_snaps) (List.mem_of_getElem? (i := 56) rfl)), rfl⟩
set_option maxRecDepth 100000 in
theorem w_1992 : Cond.selects RX9 yX9_snaps yX9_snaps ∈ lw_ok := List.mem_filter.mpr ⟨List.mem_of_getElem? (wl_16_ok (1992, Cond.selects RX9 yX9_snaps yX9_snaps) (List.mem_of_getElem? (i := 57) rfl)), rfl⟩
set_option maxRecDepth 100000 in
theorem w_1993 : Cond.code yX9_snaps cX9_snaps 3 (some .int) ∈ lw_ok := List.mem_filter.mpr ⟨List.mem_of_getElem? (wl_16_ok (1993, Cond.code yX9_snaps cX9_snaps 3 (some .int)) (List.mem_of_getElem? (i := 58) rfl)), rfl⟩
set_option maxRecDepth 100000 in
theorem w_1994 : Cond.methodLink "LeakyLineLaw" 324 yX9_undo ∈ lw_ok := List.mem_filter.mpr ⟨List.mem_of_getElem? (wl_16_ok (1994, Cond.methodLink "LeakyLineLaw" 324 yX9_undo) (List.mem_of_getElem? (i := 59) rfl)), rfl⟩
set_option maxRecDepth 100000 in
theorem w_1995 : Cond.instanceMethod yX9_undo ∈ lw_ok := List.mem_filter.mpr ⟨List.mem_of_getElem? (wl_16_ok (1995, Cond.instanceMethod yX9_undo) (List.mem_of_getElem? (i := 60) rfl)), rfl⟩
set_option maxRecDepth 100000 in
theorem w_1996 : Cond.selects RX9 yX9_undo yX9_undo ∈ lw_ok := List.mem_filter.mpr ⟨List.mem_of_getElem? (wl_16_ok (1996, Cond.selects RX9 yX9_undo yX9_undo) (List.mem_of_getElem? (i := 61) rfl)), rfl⟩
set_option maxRecDepth 100000 in
theorem w_1997 : Cond.code yX9_undo cX9_undo 1 (some .int) ∈ lw_ok := List.mem_filter.mpr ⟨List.mem_of_getElem? (wl_16_ok (1997, Cond.code yX9_undo cX9_undo 1 (some .int)) (List.mem_of_getElem? (i := 62) rfl)), rfl⟩
set_option maxRecDepth 100000 in
theorem w_1998 : Cond.methodLink "LeakyLineLaw" 328 yX9_anew ∈ lw_ok := List.mem_filter.mpr ⟨List.mem_of_getElem? (wl_16_ok (1998, Cond.methodLink "LeakyLineLaw" 328 yX9_anew) (List.mem_of_getElem? (i := 63) rfl)), rfl⟩
set_option maxRecDepth 100000 in
theorem w_1999 : Cond.instanceMethod yX9_anew ∈ lw_ok := List.mem_filter.mpr ⟨List.mem_of_getElem? (wl_16_ok (1999, Cond.instanceMethod yX9_anew) (List.mem_of_getElem? (i := 64) rfl)), rfl⟩
set_option maxRecDepth 100000 in
theorem w_2000 : Cond.selects RX9 yX9_anew yX9_anew ∈ lw_ok := List.mem_filter.mpr ⟨List.mem_of_getElem? (wl_16_ok (2000, Cond.selects RX9 yX9_anew yX9_anew) (List.mem_of_getElem? (i := 65) rfl)), rfl⟩
set_option maxRecDepth 100000 in
theorem w_2001 : Cond.code yX9_anew cX9_anew 2 (some .int) ∈ lw_ok := List.mem_filter.mpr ⟨List.mem_of_getElem? (wl_16_ok (2001, Cond.code yX9_anew cX9_anew 2 (some .int)) (List.mem_of_getElem? (i := 66) rfl)), rfl⟩
set_option maxRecDepth 100000 in
theorem w_2002 : Cond.methodLink "LeakyLineLaw" 340 yX9_rate ∈ lw_ok := List.mem_filter.mpr ⟨List.mem_of_getElem? (wl_16_ok (2002, Cond.methodLink "LeakyLineLaw" 340 yX9_rate) (List.mem_of_getElem? (i := 67) rfl)), rfl⟩
set_option maxRecDepth 100000 in
theorem w_2003 : Cond.instanceMethod yX9_rate ∈ lw_ok := List.mem_filter.mpr ⟨List.mem_of_getElem? (wl_16_ok (2003, Cond.instanceMethod yX9_rate) (List.mem_of_getElem? (i := 68) rfl)), rfl⟩
set_option maxRecDepth 100000 in
theorem w_2004 : Cond.selects RX9 yX9_rate yX9_rate ∈ lw_ok := List.mem_filter.mpr ⟨List.mem_of_getElem? (wl_16_ok (2004, Cond.selects RX9 yX9_rate yX9_rate) (List.mem_of_getElem? (i := 69) rfl)), rfl⟩
set_option maxRecDepth 100000 in
theorem w_2005 : Cond.code yX9_rate cX9_rate 4 (some .int) ∈ lw_ok := List.mem_filter.mpr ⟨List.mem_of_getElem? (wl_16_ok (2005, Cond.code yX9_rate cX9_rate 4 (some .int)) (List.mem_of_getElem? (i := 70) rfl)), rfl⟩
set_option maxRecDepth 100000 in
theorem w_2006 : Cond.constantLong RX9 413 60 ∈ lw_ok := List.mem_filter.mpr ⟨List.mem_of_getElem? (wl_16_ok (2006, Cond.constantLong RX9 413 60) (List.mem_of_getElem? (i := 71) rfl)), rfl⟩
set_option maxRecDepth 100000 in
theorem w_2007 : Cond.methodLink "LeakyLineLaw" 344 yX9_count ∈ lw_ok := List.mem_filter.mpr ⟨List.mem_of_getElem? (wl_16_ok (2007, Cond.methodLink "LeakyLineLaw" 344 yX9_count) (List.mem_of_getElem? (i := 72) rfl)), rfl⟩
set_option maxRecDepth 100000 in
theorem w_2008 : Cond.instanceMethod yX9_count ∈ lw_ok := List.mem_filter.mpr ⟨List.mem_of_getElem? (wl_16_ok (2008, Cond.instanceMethod yX9_count) (List.mem_of_getElem? (i := 73) rfl)), rfl⟩
set_option maxRecDepth 100000 in
theorem w_2009 : Cond.selects RX9 yX9_count yX9_count ∈ lw_ok := List.mem_filter.mpr ⟨List.mem_of_getElem? (wl_16_ok (2009, Cond.selects RX9 yX9_count yX9_count) (List.mem_of_getElem? (i := 74) rfl)), rfl⟩
set_option maxRecDepth 100000 in
theorem w_2010 : Cond.code yX9_count cX9_count 4 (some .int) ∈ lw_ok := List.mem_filter.mpr ⟨List.mem_of_getElem? (wl_16_ok (2010, Cond.code yX9_count cX9_count 4 (some .int)) (List.mem_of_getElem? (i := 75) rfl)), rfl⟩
set_option maxRecDepth 100000 in
theorem w_2011 : Cond.constantLong RX9 415 6 ∈ lw_ok := List.mem_filter.mpr ⟨List.mem_of_getElem? (wl_16_ok (2011, Cond.constantLong RX9 415 6) (List.mem_of_getElem? (i := 76) rfl)), rfl⟩
set_option maxRecDepth 100000 in
theorem w_2012 : Cond.methodLink "LeakyLineLaw" 348 yX9_image ∈ lw_ok := List.mem_filter.mpr ⟨List.mem_of_getElem? (wl_16_ok (2012, Cond.methodLink "LeakyLineLaw" 348 yX9_image) (List.mem_of_getElem? (i := 77) rfl)), rfl⟩
set_option maxRecDepth 100000 in
theorem w_2013 : Cond.instanceMethod yX9_image ∈ lw_ok := List.mem_filter.mpr ⟨List.mem_of_getElem? (wl_16_ok (2013, Cond.instanceMethod yX9_image) (List.mem_of_getElem? (i := 78) rfl)), rfl⟩
set_option maxRecDepth 100000 in
theorem w_2014 : Cond.selects RX9 yX9_image yX9_image ∈ lw_ok := List.mem_filter.mpr ⟨List.mem_of_getElem? (wl_16_ok (2014, Cond.selects RX9 yX9_image yX9_image) (List.mem_of_getElem? (i := 79) rfl)), rfl⟩
set_option maxRecDepth 100000 in
theorem w_2015 : Cond.code yX9_image cX9_image 2 (some .int) ∈ lw_ok := List.mem_filter.mpr ⟨List.mem_of_getElem? (wl_16_ok (2015, Cond.code yX9_image cX9_image 2 (some .int)) (List.mem_of_getElem? (i := 80) rfl)), rfl⟩
set_option maxRecDepth 100000 in
theorem w_2016 : Cond.methodLink "LeakyLineLaw" 352 yX9_back ∈ lw_ok := List.mem_filter.mpr ⟨List.mem_of_getElem? (wl_16_ok (2016, Cond.methodLink "LeakyLineLaw" 352 yX9_back) (List.mem_of_getElem? (i := 81) rfl)), rfl⟩
set_option maxRecDepth 100000 in
theorem w_2017 : Cond.instanceMethod yX9_back ∈ lw_ok := List.mem_filter.mpr ⟨List.mem_of_getElem? (wl_16_ok (2017, Cond.instanceMethod yX9_back) (List.mem_of_getElem? (i := 82) rfl)), rfl⟩
set_option maxRecDepth 100000 in
theorem w_2018 : Cond.selects RX9 yX9_back yX9_back ∈ lw_ok := List.mem_filter.mpr ⟨List.mem_of_getElem? (wl_16_ok (2018, Cond.selects RX9 yX9_back yX9_back) (List.mem_of_getElem? (i := 83) rfl)), rfl⟩
set_option maxRecDepth 100000 in
theorem w_2019 : Cond.code yX9_back cX9_back 2 (some .int) ∈ lw_ok := List.mem_filter.mpr ⟨List.mem_of_getElem? (wl_16_ok (2019, Cond.code yX9_back cX9_back 2 (some .int)) (List.mem_of_getElem? (i := 84) rfl)), rfl⟩
set_option maxRecDepth 100000 in
theorem w_2020 : Cond.constantLong "LeakyLineLaw" 357 4294967295 ∈ lw_ok := List.mem_filter.mpr ⟨List.mem_of_getElem? (wl_16_ok (2020, Cond.constantLong "LeakyLineLaw" 357 4294967295) (List.mem_of_getElem? (i := 85) rfl)), rfl⟩
set_option maxRecDepth 100000 in
theorem w_2021 : Cond.fieldLink RJ0 9 "java/lang/String" "value" "[B" ∈ lw_ok := List.mem_filter.mpr ⟨List.mem_of_getElem? (wl_16_ok (2021, Cond.fieldLink RJ0 9 "java/lang/String" "value" "[B") (List.mem_of_getElem? (i := 86) rfl)), rfl⟩
set_option maxRecDepth 100000 in
theorem w_2022 : Cond.fieldLink RJ0 15 "java/lang/String" "coder" "B" ∈ lw_ok := List.mem_filter.mpr ⟨List.mem_of_getElem? (wl_16_ok (2022, Cond.fieldLink RJ0 15 "java/lang/String" "coder" "B") (List.mem_of_getElem? (i := 87) rfl)), rfl⟩
def NW (U : State) : Prop := va_Nw (Cond.methodLinkNest RX8 9 yX5_init "LeakyLine") U ∧ va_Nw (Cond.methodLinkNest RX8 18 yX7_init "LeakyLine") U ∧ va_Nw (Cond.methodLinkNest RX8 25 yX6_init "LeakyLine") U ∧ va_Nw (Cond.methodLinkNest RX8 32 yX2_init "LeakyLine") U ∧ va_Nw (Cond.methodLinkNest RX8 46 yX3_init "LeakyLine") U ∧ va_Nw (Cond.methodLinkNest RX8 53 yX4_init "LeakyLine") U ∧ va_Nw (Cond.methodLinkNest RX8 60 yX1_init "LeakyLine") U ∧ va_Nw (Cond.methodLinkNest RX8 67 yX0_init "LeakyLine") U ∧ va_Nw (Cond.methodLinkNest RX4 47 yX8_hasBit "LeakyLine") U ∧ va_AO "LeakyLine$Line" U
theorem NW.n9 {U : State} (h : NW U) : va_Nw (Cond.methodLinkNest RX8 9 yX5_init "LeakyLine") U := h.1
theorem NW.n18 {U : State} (h : NW U) : va_Nw (Cond.methodLinkNest RX8 18 yX7_init "LeakyLine") U := h.2.1
theorem NW.n25 {U : State} (h : NW U) : va_Nw (Cond.methodLinkNest RX8 25 yX6_init "LeakyLine") U := h.2.2.1
theorem NW.n32 {U : State} (h : NW U) : va_Nw (Cond.methodLinkNest RX8 32 yX2_init "LeakyLine") U := h.2.2.2.1
theorem NW.n46 {U : State} (h : NW U) : va_Nw (Cond.methodLinkNest RX8 46 yX3_init "LeakyLine") U := h.2.2.2.2.1
theorem NW.n53 {U : State} (h : NW U) : va_Nw (Cond.methodLinkNest RX8 53 yX4_init "LeakyLine") U := h.2.2.2.2.2.1
theorem NW.n60 {U : State} (h : NW U) : va_Nw (Cond.methodLinkNest RX8 60 yX1_init "LeakyLine") U := h.2.2.2.2.2.2.1
theorem NW.n67 {U : State} (h : NW U) : va_Nw (Cond.methodLinkNest RX8 67 yX0_init "LeakyLine") U := h.2.2.2.2.2.2.2.1
theorem NW.n47 {U : State} (h : NW U) : va_Nw (Cond.methodLinkNest RX4 47 yX8_hasBit "LeakyLine") U := h.2.2.2.2.2.2.2.2.1
theorem NW.ao {U : State} (h : NW U) : va_AO "LeakyLine$Line" U := h.2.2.2.2.2.2.2.2.2
theorem NW.same {u U : State} (e : u.vm = U.vm) (h : NW u) : NW U := ⟨va_Nw.same rfl e h.n9, va_Nw.same rfl e h.n18, va_Nw.same rfl e h.n25, va_Nw.same rfl e h.n32, va_Nw.same rfl e h.n46, va_Nw.same rfl e h.n53, va_Nw.same rfl e h.n60, va_Nw.same rfl e h.n67, va_Nw.same rfl e h.n47, h.ao.moved (by rw [e]; exact Vm.Alike.refl U.vm)⟩
theorem NW.warm {s U : State} (hW : s.WarmedH U.vm) (h : NW s) : NW U := ⟨va_Nw.warmM hW h.n9, va_Nw.warmM hW h.n18, va_Nw.warmM hW h.n25, va_Nw.warmM hW h.n32, va_Nw.warmM hW h.n46, va_Nw.warmM hW h.n53, va_Nw.warmM hW h.n60, va_Nw.warmM hW h.n67, va_Nw.warmM hW h.n47, h.ao.moved hW.alike⟩
theorem fbQn {D : va_G} {cl : List vw_C} {ws : va_W} {tys : List (ClassId × FieldType)} {av : List Value} {sz : Nat} : FrameBlind (va_Pc av (fun U => U.heap.size = sz ∧ va_P D cl ws U.heap ∧ va_K D cl tys U ∧ va_D (fun _ => True) ws ∧ NW U)) := fun a U g mk q => by
  obtain ⟨q0, q1, qP, qK, qD, qN⟩ := q
  exact ⟨q0, q1, qP, va_K.moved (u := U) (U := U.calling g mk a) (Vm.Alike.refl U.vm) qK, qD, NW.same (u := U) (U := U.calling g mk a) rfl qN⟩
theorem pSQn {D : va_G} {cl : List vw_C} {ws : va_W} {tys : List (ClassId × FieldType)} {As : List Value} {s : State} {H : Heap} {A : Nat → Prop} (hN : NW s) (hK : va_K D cl tys s) (hP : va_P D cl ws H) (hD : va_D A ws) : PreS s H (va_Pc As (fun U => U.heap.size = H.size ∧ va_P D cl ws U.heap ∧ va_K D cl tys U ∧ va_D (fun _ => True) ws ∧ NW U)) As := ⟨fbQn, fun U hU hW => ⟨rfl, by rw [hU], by rw [hU]; exact hP, va_K.moved hW.alike hK, hD.weaken (fun _ _ _ _ => trivial), hN.warm hW⟩⟩
theorem pVQn {D : va_G} {cl : List vw_C} {ws : va_W} {tys : List (ClassId × FieldType)} {As : List Value} {s : State} {H : Heap} {A : Nat → Prop} {a q0 ci : Nat} {fs : List Value} {r : vw_C} (hN : NW s) (hK : va_K D cl tys s) (hP : va_P D cl ws H) (hD : va_D A ws) (hc : cl[ci]? = some r) (he : ws[q0]? = some (a, .inr (ci, fs))) : PreV s H r.1 a (va_Pc (.ref a :: As) (fun U => U.heap.size = H.size ∧ va_P D cl ws U.heap ∧ va_K D cl tys U ∧ va_D (fun _ => True) ws ∧ NW U)) As := ⟨fbQn, va_recv hK hP hc he, fun U hU hW => ⟨rfl, by rw [hU], by rw [hU]; exact hP, va_K.moved hW.alike hK, hD.weaken (fun _ _ _ _ => trivial), hN.warm hW⟩⟩
theorem fbSn {D : va_G} {cl : List vw_C} {ws : va_W} {tys : List (ClassId × FieldType)} {av : List Value} : FrameBlind (va_Pc av (fun U => va_P D cl ws U.heap ∧ va_K D cl tys U ∧ NW U)) := fun a U g mk q => by
  obtain ⟨q0, qP, qK, qN⟩ := q
  exact ⟨q0, qP, va_K.moved (u := U) (U := U.calling g mk a) (Vm.Alike.refl U.vm) qK, NW.same (u := U) (U := U.calling g mk a) rfl qN⟩
theorem pSSn {D : va_G} {cl : List vw_C} {ws : va_W} {tys : List (ClassId × FieldType)} {As : List Value} {s : State} {H : Heap} (hN : NW s) (hK : va_K D cl tys s) (hP : va_P D cl ws H) : PreS s H (va_Pc As (fun U => va_P D cl ws U.heap ∧ va_K D cl tys U ∧ NW U)) As := ⟨fbSn, fun U hU hW => ⟨rfl, by rw [hU]; exact hP, va_K.moved hW.alike hK, hN.warm hW⟩⟩
theorem pVSn {D : va_G} {cl : List vw_C} {ws : va_W} {tys : List (ClassId × FieldType)} {As : List Value} {s : State} {H : Heap} {a q0 ci : Nat} {fs : List Value} {r : vw_C} (hN : NW s) (hK : va_K D cl tys s) (hP : va_P D cl ws H) (hc : cl[ci]? = some r) (he : ws[q0]? = some (a, .inr (ci, fs))) : PreV s H r.1 a (va_Pc (.ref a :: As) (fun U => va_P D cl ws U.heap ∧ va_K D cl tys U ∧ NW U)) As := ⟨fbSn, va_recv hK hP hc he, fun U hU hW => ⟨rfl, by rw [hU]; exact hP, va_K.moved hW.alike hK, hN.warm hW⟩⟩
theorem callSiN {p : Program} {l : Launch} {e : Env} {R : Room} {s : State} {m : MethodId} {args : Array Value} {below : List Frame} {meth : Method} {c : Code} {H : Heap} {locs : List Loc} {cells slots : Nat} {Q : State → Prop} {pc : Nat} {ls : Array Slot} {rest st0 : List Value} {a : Array Value} {post : Int32 → Prop} (hr : va_Run p l e R s m args below meth c H locs cells slots 0 0 (F0 m pc ls st0) rest (vp_Si post a) (fun _ => False)) (kk : ∀ r : Int32, post r → W p l e R s m args below meth c H locs cells slots Q (F0 m (pc + 3) ls (.int r :: rest))) : W p l e R s m args below meth c H locs cells slots Q (F0 m pc ls st0) := by
  intro T hT X
  obtain ⟨v, st₀, t, T', L, h0, X', hL, e1, e2, ⟨r, hv, hp, hh⟩, st⟩ := hr T hT X
  cases hv
  obtain ⟨t2, a1, b1⟩ := kk r hp T' (by rw [e1, hh, h0]) (Stand.forget X' (fun q h => (hL q h).elim))
  exact ⟨t2, st t2 a1, b1⟩
theorem w_mathmin : Cond.code Lib.Math.min.name Lib.Math.min.code 2 (some .int) ∈ lw_ok := List.mem_filter.mpr ⟨List.mem_of_getElem? (i := 535) (by decide +kernel), rfl⟩
theorem w_mathmax : Cond.code Lib.Math.max.name Lib.Math.max.code 2 (some .int) ∈ lw_ok := List.mem_filter.mpr ⟨List.mem_of_getElem? (i := 541) (by decide +kernel), rfl⟩
theorem w_mathmaxl : Cond.code Lib.MathLoose.max_long.x Lib.MathLoose.max_long.code 4 (some .long) ∈ lw_ok := List.mem_filter.mpr ⟨List.mem_of_getElem? (i := 992) (by decide +kernel), rfl⟩
theorem w_mathabsl : Cond.code Lib.MathLoose.abs_long.x Lib.MathLoose.abs_long.code 2 (some .long) ∈ lw_ok := List.mem_filter.mpr ⟨List.mem_of_getElem? (i := 720) (by decide +kernel), rfl⟩
