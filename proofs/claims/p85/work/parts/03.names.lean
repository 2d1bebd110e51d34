abbrev cJ0_charAt_5068e : ByteArray := prog_14_method_56_code
def yJ0_charAt_5068e : MethodName := ⟨RJ0, "charAt", "(I)C"⟩
abbrev cJ0_checkIndex_df160 : ByteArray := prog_14_method_155_code
def yJ0_checkIndex_df160 : MethodName := ⟨RJ0, "checkIndex", "(II)V"⟩
abbrev cJ0_coder_7d493 : ByteArray := prog_14_method_152_code
def yJ0_coder_7d493 : MethodName := ⟨RJ0, "coder", "()B"⟩
abbrev cJ0_isLatin1_aae02 : ByteArray := prog_14_method_154_code
def yJ0_isLatin1_aae02 : MethodName := ⟨RJ0, "isLatin1", "()Z"⟩
abbrev cJ0_length_8abf5 : ByteArray := prog_14_method_54_code
def yJ0_length_8abf5 : MethodName := ⟨RJ0, "length", "()I"⟩
abbrev cJ1_charAt_3b067 : ByteArray := prog_15_method_2_code
def yJ1_charAt_3b067 : MethodName := ⟨RJ1, "charAt", "([BI)C"⟩
abbrev cJ2_charAt_3b067 : ByteArray := prog_16_method_83_code
def yJ2_charAt_3b067 : MethodName := ⟨RJ2, "charAt", "([BI)C"⟩
abbrev cJ2_checkIndex_2214a : ByteArray := prog_16_method_91_code
def yJ2_checkIndex_2214a : MethodName := ⟨RJ2, "checkIndex", "(I[B)V"⟩
abbrev cJ2_getChar_3b067 : ByteArray := prog_16_method_5_code
def yJ2_getChar_3b067 : MethodName := ⟨RJ2, "getChar", "([BI)C"⟩
abbrev cJ2_length_9d52b : ByteArray := prog_16_method_6_code
def yJ2_length_9d52b : MethodName := ⟨RJ2, "length", "([B)I"⟩
abbrev cJ3_checkIndex_8e157 : ByteArray := prog_19_method_11_code
def yJ3_checkIndex_8e157 : MethodName := ⟨RJ3, "checkIndex", "(IILjava/util/function/BiFunction;)I"⟩
abbrev cJ6_bitCount_0f7a4 : ByteArray := prog_12_method_49_code
def yJ6_bitCount_0f7a4 : MethodName := ⟨RJ6, "bitCount", "(I)I"⟩
abbrev cJ6_numberOfLeadingZeros_0f7a4 : ByteArray := prog_12_method_47_code
def yJ6_numberOfLeadingZeros_0f7a4 : MethodName := ⟨RJ6, "numberOfLeadingZeros", "(I)I"⟩
abbrev cJ6_numberOfTrailingZeros_0f7a4 : ByteArray := prog_12_method_48_code
def yJ6_numberOfTrailingZeros_0f7a4 : MethodName := ⟨RJ6, "numberOfTrailingZeros", "(I)I"⟩
abbrev cJ7_fill_53178 : ByteArray := prog_18_method_103_code
def yJ7_fill_53178 : MethodName := ⟨RJ7, "fill", "([II)V"⟩
abbrev cJ7_fill_bad5a : ByteArray := prog_18_method_102_code
def yJ7_fill_bad5a : MethodName := ⟨RJ7, "fill", "([JIIJ)V"⟩
abbrev cJ7_rangeCheck_23922 : ByteArray := prog_18_method_30_code
def yJ7_rangeCheck_23922 : MethodName := ⟨RJ7, "rangeCheck", "(III)V"⟩
abbrev cJ9_abs_067f4 : ByteArray := prog_13_method_61_code
def yJ9_abs_067f4 : MethodName := ⟨RJ9, "abs", "(J)J"⟩
abbrev cJ9_max_7cf53 : ByteArray := prog_13_method_65_code
def yJ9_max_7cf53 : MethodName := ⟨RJ9, "max", "(II)I"⟩
abbrev cJ9_max_f86c9 : ByteArray := prog_13_method_66_code
def yJ9_max_f86c9 : MethodName := ⟨RJ9, "max", "(JJ)J"⟩
abbrev cJ9_min_7cf53 : ByteArray := prog_13_method_69_code
def yJ9_min_7cf53 : MethodName := ⟨RJ9, "min", "(II)I"⟩
abbrev cX0_commonDivisor : ByteArray := prog_2_method_4_code
def yX0_commonDivisor : MethodName := ⟨RX0, "commonDivisor", "(JJ)J"⟩
abbrev cX0_init : ByteArray := prog_2_method_1_code
def yX0_init : MethodName := ⟨RX0, "<init>", "()V"⟩
abbrev cX0_part : ByteArray := prog_2_method_3_code
def yX0_part : MethodName := ⟨RX0, "part", "(I)J"⟩
abbrev cX0_set : ByteArray := prog_2_method_2_code
def yX0_set : MethodName := ⟨RX0, "set", "(JJ)V"⟩
abbrev cX1_fallOver : ByteArray := prog_3_method_5_code
def yX1_fallOver : MethodName := ⟨RX1, "fallOver", "(I)J"⟩
abbrev cX1_firstAmps : ByteArray := prog_3_method_3_code
def yX1_firstAmps : MethodName := ⟨RX1, "firstAmps", "()J"⟩
abbrev cX1_init : ByteArray := prog_3_method_1_code
def yX1_init : MethodName := ⟨RX1, "<init>", "()V"⟩
abbrev cX1_isEnough : ByteArray := prog_3_method_7_code
def yX1_isEnough : MethodName := ⟨RX1, "isEnough", "(IJJ)Z"⟩
abbrev cX1_leaksMore : ByteArray := prog_3_method_6_code
def yX1_leaksMore : MethodName := ⟨RX1, "leaksMore", "(II)Z"⟩
abbrev cX1_readsInto : ByteArray := prog_3_method_4_code
def yX1_readsInto : MethodName := ⟨RX1, "readsInto", "(LLeakyLine$Fraction;)V"⟩
abbrev cX1_settle : ByteArray := prog_3_method_2_code
def yX1_settle : MethodName := ⟨RX1, "settle", "(LLeakyLine$Line;LLeakyLine$Supposed;I)V"⟩
abbrev cX2_act : ByteArray := prog_4_method_4_code
def yX2_act : MethodName := ⟨RX2, "act", "(III)V"⟩
abbrev cX2_firstSnap : ByteArray := prog_4_method_8_code
def yX2_firstSnap : MethodName := ⟨RX2, "firstSnap", "(I)I"⟩
abbrev cX2_init : ByteArray := prog_4_method_1_code
def yX2_init : MethodName := ⟨RX2, "<init>", "()V"⟩
abbrev cX2_isBroken : ByteArray := prog_4_method_9_code
def yX2_isBroken : MethodName := ⟨RX2, "isBroken", "(II)Z"⟩
abbrev cX2_keepActs : ByteArray := prog_4_method_5_code
def yX2_keepActs : MethodName := ⟨RX2, "keepActs", "(I)V"⟩
abbrev cX2_latestCup : ByteArray := prog_4_method_7_code
def yX2_latestCup : MethodName := ⟨RX2, "latestCup", "(II)I"⟩
abbrev cX2_stationBits : ByteArray := prog_4_method_6_code
def yX2_stationBits : MethodName := ⟨RX2, "stationBits", "()I"⟩
abbrev cX2_take : ByteArray := prog_4_method_3_code
def yX2_take : MethodName := ⟨RX2, "take", "(LLeakyLine$Line;)V"⟩
abbrev cX2_wipe : ByteArray := prog_4_method_2_code
def yX2_wipe : MethodName := ⟨RX2, "wipe", "()V"⟩
abbrev cX3_at : ByteArray := prog_5_method_5_code
def yX3_at : MethodName := ⟨RX3, "at", "(II)J"⟩
abbrev cX3_copy : ByteArray := prog_5_method_8_code
def yX3_copy : MethodName := ⟨RX3, "copy", "(IIIII)V"⟩
abbrev cX3_cut : ByteArray := prog_5_method_9_code
def yX3_cut : MethodName := ⟨RX3, "cut", "(IJ)J"⟩
abbrev cX3_has : ByteArray := prog_5_method_2_code
def yX3_has : MethodName := ⟨RX3, "has", "(I)Z"⟩
abbrev cX3_holds : ByteArray := prog_5_method_7_code
def yX3_holds : MethodName := ⟨RX3, "holds", "(III)Z"⟩
abbrev cX3_init : ByteArray := prog_5_method_1_code
def yX3_init : MethodName := ⟨RX3, "<init>", "()V"⟩
abbrev cX3_lay : ByteArray := prog_5_method_4_code
def yX3_lay : MethodName := ⟨RX3, "lay", "(III)V"⟩
abbrev cX3_put : ByteArray := prog_5_method_6_code
def yX3_put : MethodName := ⟨RX3, "put", "(IIJ)V"⟩
abbrev cX3_used : ByteArray := prog_5_method_3_code
def yX3_used : MethodName := ⟨RX3, "used", "()I"⟩
abbrev cX4_asTold : ByteArray := prog_6_method_2_code
def yX4_asTold : MethodName := ⟨RX4, "asTold", "(LLeakyLine$Line;)V"⟩
abbrev cX4_halved : ByteArray := prog_6_method_7_code
def yX4_halved : MethodName := ⟨RX4, "halved", "(I)I"⟩
abbrev cX4_init : ByteArray := prog_6_method_1_code
def yX4_init : MethodName := ⟨RX4, "<init>", "()V"⟩
abbrev cX4_isWet : ByteArray := prog_6_method_5_code
def yX4_isWet : MethodName := ⟨RX4, "isWet", "(I)Z"⟩
abbrev cX4_leadingOn : ByteArray := prog_6_method_4_code
def yX4_leadingOn : MethodName := ⟨RX4, "leadingOn", "(LLeakyLine$Line;I)I"⟩
abbrev cX4_leakOn : ByteArray := prog_6_method_3_code
def yX4_leakOn : MethodName := ⟨RX4, "leakOn", "(LLeakyLine$Line;II)I"⟩
abbrev cX4_wetDays : ByteArray := prog_6_method_6_code
def yX4_wetDays : MethodName := ⟨RX4, "wetDays", "(II)I"⟩
abbrev cX5_append : ByteArray := prog_7_method_2_code
def yX5_append : MethodName := ⟨RX5, "append", "(I)V"⟩
abbrev cX5_at : ByteArray := prog_7_method_3_code
def yX5_at : MethodName := ⟨RX5, "at", "(I)I"⟩
abbrev cX5_init : ByteArray := prog_7_method_1_code
def yX5_init : MethodName := ⟨RX5, "<init>", "()V"⟩
abbrev cX6_fail : ByteArray := prog_8_method_10_code
def yX6_fail : MethodName := ⟨RX6, "fail", "(I)Z"⟩
abbrev cX6_init : ByteArray := prog_8_method_1_code
def yX6_init : MethodName := ⟨RX6, "<init>", "()V"⟩
abbrev cX6_isSign : ByteArray := prog_8_method_9_code
def yX6_isSign : MethodName := ⟨RX6, "isSign", "()Z"⟩
abbrev cX6_read : ByteArray := prog_8_method_2_code
def yX6_read : MethodName := ⟨RX6, "read", "(LLeakyLine$Tokens;LLeakyLine$Line;)V"⟩
abbrev cX6_readHead : ByteArray := prog_8_method_4_code
def yX6_readHead : MethodName := ⟨RX6, "readHead", "(LLeakyLine$Tokens;LLeakyLine$Line;)Z"⟩
abbrev cX6_readLine : ByteArray := prog_8_method_3_code
def yX6_readLine : MethodName := ⟨RX6, "readLine", "(LLeakyLine$Tokens;LLeakyLine$Line;)Z"⟩
abbrev cX6_readNumber : ByteArray := prog_8_method_8_code
def yX6_readNumber : MethodName := ⟨RX6, "readNumber", "(LLeakyLine$Tokens;II)Z"⟩
abbrev cX6_readPair : ByteArray := prog_8_method_7_code
def yX6_readPair : MethodName := ⟨RX6, "readPair", "(LLeakyLine$Tokens;III)Z"⟩
abbrev cX6_readSpan : ByteArray := prog_8_method_5_code
def yX6_readSpan : MethodName := ⟨RX6, "readSpan", "(LLeakyLine$Tokens;LLeakyLine$Line;)Z"⟩
abbrev cX6_readWet : ByteArray := prog_8_method_6_code
def yX6_readWet : MethodName := ⟨RX6, "readWet", "(LLeakyLine$Tokens;LLeakyLine$Line;)Z"⟩
abbrev cX6_step : ByteArray := prog_8_method_11_code
def yX6_step : MethodName := ⟨RX6, "step", "(LLeakyLine$Tokens;)V"⟩
abbrev cX7_add : ByteArray := prog_9_method_3_code
def yX7_add : MethodName := ⟨RX7, "add", "(III)V"⟩
abbrev cX7_ifWord : ByteArray := prog_9_method_8_code
def yX7_ifWord : MethodName := ⟨RX7, "ifWord", "(LLeakyLine$Tape;IILjava/lang/String;I)I"⟩
abbrev cX7_init : ByteArray := prog_9_method_1_code
def yX7_init : MethodName := ⟨RX7, "<init>", "()V"⟩
abbrev cX7_isBlank : ByteArray := prog_9_method_10_code
def yX7_isBlank : MethodName := ⟨RX7, "isBlank", "(I)Z"⟩
abbrev cX7_isDigit : ByteArray := prog_9_method_12_code
def yX7_isDigit : MethodName := ⟨RX7, "isDigit", "(I)Z"⟩
abbrev cX7_isLetter : ByteArray := prog_9_method_11_code
def yX7_isLetter : MethodName := ⟨RX7, "isLetter", "(I)Z"⟩
abbrev cX7_isWord : ByteArray := prog_9_method_9_code
def yX7_isWord : MethodName := ⟨RX7, "isWord", "(LLeakyLine$Tape;IILjava/lang/String;)Z"⟩
abbrev cX7_numberEnd : ByteArray := prog_9_method_5_code
def yX7_numberEnd : MethodName := ⟨RX7, "numberEnd", "(LLeakyLine$Tape;I)I"⟩
abbrev cX7_scan : ByteArray := prog_9_method_2_code
def yX7_scan : MethodName := ⟨RX7, "scan", "(LLeakyLine$Tape;)V"⟩
abbrev cX7_valueOf : ByteArray := prog_9_method_6_code
def yX7_valueOf : MethodName := ⟨RX7, "valueOf", "(LLeakyLine$Tape;II)I"⟩
abbrev cX7_wordEnd : ByteArray := prog_9_method_4_code
def yX7_wordEnd : MethodName := ⟨RX7, "wordEnd", "(LLeakyLine$Tape;I)I"⟩
abbrev cX7_wordKind : ByteArray := prog_9_method_7_code
def yX7_wordKind : MethodName := ⟨RX7, "wordKind", "(LLeakyLine$Tape;II)I"⟩
abbrev cX8_alikeFrom : ByteArray := prog_1_method_125_code
def yX8_alikeFrom : MethodName := ⟨RX8, "alikeFrom", "(II)I"⟩
abbrev cX8_all : ByteArray := prog_1_method_45_code
def yX8_all : MethodName := ⟨RX8, "all", "()I"⟩
abbrev cX8_allDays : ByteArray := prog_1_method_96_code
def yX8_allDays : MethodName := ⟨RX8, "allDays", "()I"⟩
abbrev cX8_allPoles : ByteArray := prog_1_method_97_code
def yX8_allPoles : MethodName := ⟨RX8, "allPoles", "()I"⟩
abbrev cX8_amps : ByteArray := prog_1_method_12_code
def yX8_amps : MethodName := ⟨RX8, "amps", "(II)J"⟩
abbrev cX8_anew : ByteArray := prog_1_method_78_code
def yX8_anew : MethodName := ⟨RX8, "anew", "()I"⟩
abbrev cX8_apart : ByteArray := prog_1_method_39_code
def yX8_apart : MethodName := ⟨RX8, "apart", "(II)I"⟩
abbrev cX8_ask : ByteArray := prog_1_method_62_code
def yX8_ask : MethodName := ⟨RX8, "ask", "(II)I"⟩
abbrev cX8_back : ByteArray := prog_1_method_84_code
def yX8_back : MethodName := ⟨RX8, "back", "(I)I"⟩
abbrev cX8_batteries : ByteArray := prog_1_method_54_code
def yX8_batteries : MethodName := ⟨RX8, "batteries", "()I"⟩
abbrev cX8_battery : ByteArray := prog_1_method_53_code
def yX8_battery : MethodName := ⟨RX8, "battery", "(I)I"⟩
abbrev cX8_best : ByteArray := prog_1_method_57_code
def yX8_best : MethodName := ⟨RX8, "best", "()I"⟩
abbrev cX8_both : ByteArray := prog_1_method_38_code
def yX8_both : MethodName := ⟨RX8, "both", "(II)I"⟩
abbrev cX8_breaks : ByteArray := prog_1_method_65_code
def yX8_breaks : MethodName := ⟨RX8, "breaks", "(I)I"⟩
abbrev cX8_bright : ByteArray := prog_1_method_33_code
def yX8_bright : MethodName := ⟨RX8, "bright", "()I"⟩
abbrev cX8_by : ByteArray := prog_1_method_67_code
def yX8_by : MethodName := ⟨RX8, "by", "(I)I"⟩
abbrev cX8_chance : ByteArray := prog_1_method_73_code
def yX8_chance : MethodName := ⟨RX8, "chance", "(III)I"⟩
abbrev cX8_changes : ByteArray := prog_1_method_44_code
def yX8_changes : MethodName := ⟨RX8, "changes", "()I"⟩
abbrev cX8_clear : ByteArray := prog_1_method_25_code
def yX8_clear : MethodName := ⟨RX8, "clear", "()I"⟩
abbrev cX8_clearDays : ByteArray := prog_1_method_111_code
def yX8_clearDays : MethodName := ⟨RX8, "clearDays", "()I"⟩
abbrev cX8_count : ByteArray := prog_1_method_82_code
def yX8_count : MethodName := ⟨RX8, "count", "(I)I"⟩
abbrev cX8_cupped : ByteArray := prog_1_method_47_code
def yX8_cupped : MethodName := ⟨RX8, "cupped", "(II)I"⟩
abbrev cX8_cups : ByteArray := prog_1_method_75_code
def yX8_cups : MethodName := ⟨RX8, "cups", "(II)I"⟩
abbrev cX8_cure : ByteArray := prog_1_method_55_code
def yX8_cure : MethodName := ⟨RX8, "cure", "(I)I"⟩
abbrev cX8_cures : ByteArray := prog_1_method_56_code
def yX8_cures : MethodName := ⟨RX8, "cures", "(I)I"⟩
abbrev cX8_damp : ByteArray := prog_1_method_30_code
def yX8_damp : MethodName := ⟨RX8, "damp", "(II)I"⟩
abbrev cX8_dayToAsk : ByteArray := prog_1_method_122_code
def yX8_dayToAsk : MethodName := ⟨RX8, "dayToAsk", "(II)I"⟩
abbrev cX8_daysHeard : ByteArray := prog_1_method_109_code
def yX8_daysHeard : MethodName := ⟨RX8, "daysHeard", "(I)I"⟩
abbrev cX8_deaf : ByteArray := prog_1_method_22_code
def yX8_deaf : MethodName := ⟨RX8, "deaf", "(I)I"⟩
abbrev cX8_dim : ByteArray := prog_1_method_27_code
def yX8_dim : MethodName := ⟨RX8, "dim", "()I"⟩
abbrev cX8_drawn : ByteArray := prog_1_method_79_code
def yX8_drawn : MethodName := ⟨RX8, "drawn", "(II)I"⟩
abbrev cX8_dry : ByteArray := prog_1_method_35_code
def yX8_dry : MethodName := ⟨RX8, "dry", "()I"⟩
abbrev cX8_earth : ByteArray := prog_1_method_16_code
def yX8_earth : MethodName := ⟨RX8, "earth", "(III)J"⟩
abbrev cX8_end : ByteArray := prog_1_method_3_code
def yX8_end : MethodName := ⟨RX8, "end", "(I)I"⟩
abbrev cX8_ends : ByteArray := prog_1_method_36_code
def yX8_ends : MethodName := ⟨RX8, "ends", "(I)I"⟩
abbrev cX8_factorial : ByteArray := prog_1_method_101_code
def yX8_factorial : MethodName := ⟨RX8, "factorial", "(I)J"⟩
abbrev cX8_faint : ByteArray := prog_1_method_20_code
def yX8_faint : MethodName := ⟨RX8, "faint", "(I)I"⟩
abbrev cX8_falls : ByteArray := prog_1_method_15_code
def yX8_falls : MethodName := ⟨RX8, "falls", "(III)J"⟩
abbrev cX8_fault : ByteArray := prog_1_method_5_code
def yX8_fault : MethodName := ⟨RX8, "fault", "(I)I"⟩
abbrev cX8_feed : ByteArray := prog_1_method_2_code
def yX8_feed : MethodName := ⟨RX8, "feed", "(IIIII)I"⟩
abbrev cX8_firstByDays : ByteArray := prog_1_method_112_code
def yX8_firstByDays : MethodName := ⟨RX8, "firstByDays", "(I)I"⟩
abbrev cX8_fits : ByteArray := prog_1_method_59_code
def yX8_fits : MethodName := ⟨RX8, "fits", "(II)I"⟩
abbrev cX8_fittingLeaks : ByteArray := prog_1_method_121_code
def yX8_fittingLeaks : MethodName := ⟨RX8, "fittingLeaks", "(II)I"⟩
abbrev cX8_flips : ByteArray := prog_1_method_24_code
def yX8_flips : MethodName := ⟨RX8, "flips", "(I)I"⟩
abbrev cX8_gainOf : ByteArray := prog_1_method_127_code
def yX8_gainOf : MethodName := ⟨RX8, "gainOf", "(II)I"⟩
abbrev cX8_gets : ByteArray := prog_1_method_72_code
def yX8_gets : MethodName := ⟨RX8, "gets", "(IIII)I"⟩
abbrev cX8_grounds : ByteArray := prog_1_method_41_code
def yX8_grounds : MethodName := ⟨RX8, "grounds", "(I)I"⟩
abbrev cX8_half : ByteArray := prog_1_method_40_code
def yX8_half : MethodName := ⟨RX8, "half", "(I)I"⟩
abbrev cX8_hasBit : ByteArray := prog_1_method_98_code
def yX8_hasBit : MethodName := ⟨RX8, "hasBit", "(II)Z"⟩
abbrev cX8_heardBits : ByteArray := prog_1_method_106_code
def yX8_heardBits : MethodName := ⟨RX8, "heardBits", "(I)I"⟩
abbrev cX8_heardByChance : ByteArray := prog_1_method_128_code
def yX8_heardByChance : MethodName := ⟨RX8, "heardByChance", "(II)J"⟩
abbrev cX8_heardByDraws : ByteArray := prog_1_method_130_code
def yX8_heardByDraws : MethodName := ⟨RX8, "heardByDraws", "(I)I"⟩
abbrev cX8_heardByLaw : ByteArray := prog_1_method_115_code
def yX8_heardByLaw : MethodName := ⟨RX8, "heardByLaw", "(I)I"⟩
abbrev cX8_heardDaysOf : ByteArray := prog_1_method_113_code
def yX8_heardDaysOf : MethodName := ⟨RX8, "heardDaysOf", "(I)I"⟩
abbrev cX8_heardInAll : ByteArray := prog_1_method_108_code
def yX8_heardInAll : MethodName := ⟨RX8, "heardInAll", "()I"⟩
abbrev cX8_hearingDays : ByteArray := prog_1_method_110_code
def yX8_hearingDays : MethodName := ⟨RX8, "hearingDays", "(I)I"⟩
abbrev cX8_hears : ByteArray := prog_1_method_18_code
def yX8_hears : MethodName := ⟨RX8, "hears", "(I)I"⟩
abbrev cX8_high : ByteArray := prog_1_method_61_code
def yX8_high : MethodName := ⟨RX8, "high", "(II)I"⟩
abbrev cX8_highestBit : ByteArray := prog_1_method_99_code
def yX8_highestBit : MethodName := ⟨RX8, "highestBit", "(I)I"⟩
abbrev cX8_image : ByteArray := prog_1_method_83_code
def yX8_image : MethodName := ⟨RX8, "image", "(I)I"⟩
abbrev cX8_init : ByteArray := prog_1_method_1_code
def yX8_init : MethodName := ⟨RX8, "<init>", "()V"⟩
abbrev cX8_isAsSeen : ByteArray := prog_1_method_120_code
def yX8_isAsSeen : MethodName := ⟨RX8, "isAsSeen", "(I)Z"⟩
abbrev cX8_isChanceDay : ByteArray := prog_1_method_90_code
def yX8_isChanceDay : MethodName := ⟨RX8, "isChanceDay", "(I)Z"⟩
abbrev cX8_isDay : ByteArray := prog_1_method_89_code
def yX8_isDay : MethodName := ⟨RX8, "isDay", "(I)Z"⟩
abbrev cX8_isPart : ByteArray := prog_1_method_93_code
def yX8_isPart : MethodName := ⟨RX8, "isPart", "(I)Z"⟩
abbrev cX8_isPole : ByteArray := prog_1_method_91_code
def yX8_isPole : MethodName := ⟨RX8, "isPole", "(I)Z"⟩
abbrev cX8_isSeed : ByteArray := prog_1_method_94_code
def yX8_isSeed : MethodName := ⟨RX8, "isSeed", "(I)Z"⟩
abbrev cX8_isSlot : ByteArray := prog_1_method_95_code
def yX8_isSlot : MethodName := ⟨RX8, "isSlot", "(I)Z"⟩
abbrev cX8_isStation : ByteArray := prog_1_method_92_code
def yX8_isStation : MethodName := ⟨RX8, "isStation", "(I)Z"⟩
abbrev cX8_isTold : ByteArray := prog_1_method_88_code
def yX8_isTold : MethodName := ⟨RX8, "isTold", "()Z"⟩
abbrev cX8_joined : ByteArray := prog_1_method_10_code
def yX8_joined : MethodName := ⟨RX8, "joined", "(I)I"⟩
abbrev cX8_lack : ByteArray := prog_1_method_49_code
def yX8_lack : MethodName := ⟨RX8, "lack", "(I)I"⟩
abbrev cX8_last : ByteArray := prog_1_method_26_code
def yX8_last : MethodName := ⟨RX8, "last", "()I"⟩
abbrev cX8_law : ByteArray := prog_1_method_68_code
def yX8_law : MethodName := ⟨RX8, "law", "()I"⟩
abbrev cX8_laws : ByteArray := prog_1_method_66_code
def yX8_laws : MethodName := ⟨RX8, "laws", "(I)I"⟩
abbrev cX8_leak : ByteArray := prog_1_method_9_code
def yX8_leak : MethodName := ⟨RX8, "leak", "(II)I"⟩
abbrev cX8_leastBattery : ByteArray := prog_1_method_116_code
def yX8_leastBattery : MethodName := ⟨RX8, "leastBattery", "()I"⟩
abbrev cX8_leastCure : ByteArray := prog_1_method_117_code
def yX8_leastCure : MethodName := ⟨RX8, "leastCure", "(I)I"⟩
abbrev cX8_leaves : ByteArray := prog_1_method_63_code
def yX8_leaves : MethodName := ⟨RX8, "leaves", "(II)I"⟩
abbrev cX8_leftAtWorst : ByteArray := prog_1_method_123_code
def yX8_leftAtWorst : MethodName := ⟨RX8, "leftAtWorst", "(III)I"⟩
abbrev cX8_listenAsTold : ByteArray := prog_1_method_107_code
def yX8_listenAsTold : MethodName := ⟨RX8, "listenAsTold", "()V"⟩
abbrev cX8_longest : ByteArray := prog_1_method_23_code
def yX8_longest : MethodName := ⟨RX8, "longest", "(I)I"⟩
abbrev cX8_longestRun : ByteArray := prog_1_method_100_code
def yX8_longestRun : MethodName := ⟨RX8, "longestRun", "(I)I"⟩
abbrev cX8_loud : ByteArray := prog_1_method_50_code
def yX8_loud : MethodName := ⟨RX8, "loud", "(I)I"⟩
abbrev cX8_low : ByteArray := prog_1_method_60_code
def yX8_low : MethodName := ⟨RX8, "low", "(II)I"⟩
abbrev cX8_luck : ByteArray := prog_1_method_80_code
def yX8_luck : MethodName := ⟨RX8, "luck", "(III)I"⟩
abbrev cX8_margin : ByteArray := prog_1_method_32_code
def yX8_margin : MethodName := ⟨RX8, "margin", "(II)I"⟩
abbrev cX8_mean : ByteArray := prog_1_method_74_code
def yX8_mean : MethodName := ⟨RX8, "mean", "(II)J"⟩
abbrev cX8_mute : ByteArray := prog_1_method_43_code
def yX8_mute : MethodName := ⟨RX8, "mute", "()I"⟩
abbrev cX8_ohms : ByteArray := prog_1_method_11_code
def yX8_ohms : MethodName := ⟨RX8, "ohms", "(II)J"⟩
abbrev cX8_pairSet : ByteArray := prog_1_method_126_code
def yX8_pairSet : MethodName := ⟨RX8, "pairSet", "(IIII)I"⟩
abbrev cX8_partOf : ByteArray := prog_1_method_103_code
def yX8_partOf : MethodName := ⟨RX8, "partOf", "(JJI)J"⟩
abbrev cX8_paste : ByteArray := prog_1_method_87_code
def yX8_paste : MethodName := ⟨RX8, "paste", "(IIIII)I"⟩
abbrev cX8_power : ByteArray := prog_1_method_102_code
def yX8_power : MethodName := ⟨RX8, "power", "(II)J"⟩
abbrev cX8_rate : ByteArray := prog_1_method_81_code
def yX8_rate : MethodName := ⟨RX8, "rate", "(II)I"⟩
abbrev cX8_reach : ByteArray := prog_1_method_37_code
def yX8_reach : MethodName := ⟨RX8, "reach", "(I)I"⟩
abbrev cX8_readByLeaks : ByteArray := prog_1_method_124_code
def yX8_readByLeaks : MethodName := ⟨RX8, "readByLeaks", "(III)V"⟩
abbrev cX8_refusalOfRow : ByteArray := prog_1_method_119_code
def yX8_refusalOfRow : MethodName := ⟨RX8, "refusalOfRow", "(I)I"⟩
abbrev cX8_refusalOfSeen : ByteArray := prog_1_method_118_code
def yX8_refusalOfSeen : MethodName := ⟨RX8, "refusalOfSeen", "(II)I"⟩
abbrev cX8_rests : ByteArray := prog_1_method_71_code
def yX8_rests : MethodName := ⟨RX8, "rests", "(II)I"⟩
abbrev cX8_rises : ByteArray := prog_1_method_34_code
def yX8_rises : MethodName := ⟨RX8, "rises", "(I)I"⟩
abbrev cX8_row : ByteArray := prog_1_method_85_code
def yX8_row : MethodName := ⟨RX8, "row", "(III)I"⟩
abbrev cX8_settleAsTold : ByteArray := prog_1_method_104_code
def yX8_settleAsTold : MethodName := ⟨RX8, "settleAsTold", "(I)V"⟩
abbrev cX8_share : ByteArray := prog_1_method_70_code
def yX8_share : MethodName := ⟨RX8, "share", "(II)I"⟩
abbrev cX8_silent : ByteArray := prog_1_method_19_code
def yX8_silent : MethodName := ⟨RX8, "silent", "(I)I"⟩
abbrev cX8_snapped : ByteArray := prog_1_method_48_code
def yX8_snapped : MethodName := ⟨RX8, "snapped", "(I)I"⟩
abbrev cX8_snaps : ByteArray := prog_1_method_76_code
def yX8_snaps : MethodName := ⟨RX8, "snaps", "(II)I"⟩
abbrev cX8_sore : ByteArray := prog_1_method_17_code
def yX8_sore : MethodName := ⟨RX8, "sore", "(I)I"⟩
abbrev cX8_span : ByteArray := prog_1_method_6_code
def yX8_span : MethodName := ⟨RX8, "span", "(II)I"⟩
abbrev cX8_spell : ByteArray := prog_1_method_31_code
def yX8_spell : MethodName := ⟨RX8, "spell", "()I"⟩
abbrev cX8_spots : ByteArray := prog_1_method_64_code
def yX8_spots : MethodName := ⟨RX8, "spots", "(I)I"⟩
abbrev cX8_stations : ByteArray := prog_1_method_7_code
def yX8_stations : MethodName := ⟨RX8, "stations", "()I"⟩
abbrev cX8_steep : ByteArray := prog_1_method_42_code
def yX8_steep : MethodName := ⟨RX8, "steep", "(I)I"⟩
abbrev cX8_strong : ByteArray := prog_1_method_52_code
def yX8_strong : MethodName := ⟨RX8, "strong", "()I"⟩
abbrev cX8_sum : ByteArray := prog_1_method_28_code
def yX8_sum : MethodName := ⟨RX8, "sum", "()I"⟩
abbrev cX8_thick : ByteArray := prog_1_method_58_code
def yX8_thick : MethodName := ⟨RX8, "thick", "()I"⟩
abbrev cX8_undo : ByteArray := prog_1_method_77_code
def yX8_undo : MethodName := ⟨RX8, "undo", "()I"⟩
abbrev cX8_volts : ByteArray := prog_1_method_13_code
def yX8_volts : MethodName := ⟨RX8, "volts", "(III)J"⟩
abbrev cX8_weakest : ByteArray := prog_1_method_51_code
def yX8_weakest : MethodName := ⟨RX8, "weakest", "()I"⟩
abbrev cX8_wetByDraws : ByteArray := prog_1_method_129_code
def yX8_wetByDraws : MethodName := ⟨RX8, "wetByDraws", "(I)I"⟩
abbrev cX8_wets : ByteArray := prog_1_method_8_code
def yX8_wets : MethodName := ⟨RX8, "wets", "()I"⟩
abbrev cX8_when : ByteArray := prog_1_method_21_code
def yX8_when : MethodName := ⟨RX8, "when", "(I)I"⟩
abbrev cX8_whole : ByteArray := prog_1_method_14_code
def yX8_whole : MethodName := ⟨RX8, "whole", "(II)I"⟩
abbrev cX8_wholeVolts : ByteArray := prog_1_method_105_code
def yX8_wholeVolts : MethodName := ⟨RX8, "wholeVolts", "(I)I"⟩
abbrev cX8_wire : ByteArray := prog_1_method_4_code
def yX8_wire : MethodName := ⟨RX8, "wire", "()I"⟩
abbrev cX8_without : ByteArray := prog_1_method_46_code
def yX8_without : MethodName := ⟨RX8, "without", "(I)I"⟩
abbrev cX8_worst : ByteArray := prog_1_method_29_code
def yX8_worst : MethodName := ⟨RX8, "worst", "(I)I"⟩
abbrev cX8_worth : ByteArray := prog_1_method_69_code
def yX8_worth : MethodName := ⟨RX8, "worth", "(I)I"⟩
abbrev cX8_worthOf : ByteArray := prog_1_method_114_code
def yX8_worthOf : MethodName := ⟨RX8, "worthOf", "(I)I"⟩
abbrev cX8_write : ByteArray := prog_1_method_86_code
def yX8_write : MethodName := ⟨RX8, "write", "(IIJ)I"⟩
abbrev cX9_all : ByteArray := prog_11_method_101_code
def yX9_all : MethodName := ⟨RX9, "all", "()I"⟩
abbrev cX9_amps : ByteArray := prog_11_method_61_code
def yX9_amps : MethodName := ⟨RX9, "amps", "(II)J"⟩
abbrev cX9_anew : ByteArray := prog_11_method_155_code
def yX9_anew : MethodName := ⟨RX9, "anew", "()I"⟩
abbrev cX9_apart : ByteArray := prog_11_method_94_code
def yX9_apart : MethodName := ⟨RX9, "apart", "(II)I"⟩
abbrev cX9_areTwo : ByteArray := prog_11_method_139_code
def yX9_areTwo : MethodName := ⟨RX9, "areTwo", "(II)Z"⟩
abbrev cX9_ask : ByteArray := prog_11_method_127_code
def yX9_ask : MethodName := ⟨RX9, "ask", "(II)I"⟩
abbrev cX9_asks : ByteArray := prog_11_method_18_code
def yX9_asks : MethodName := ⟨RX9, "asks", "(J)V"⟩
abbrev cX9_back : ByteArray := prog_11_method_159_code
def yX9_back : MethodName := ⟨RX9, "back", "(I)I"⟩
abbrev cX9_batteries : ByteArray := prog_11_method_113_code
def yX9_batteries : MethodName := ⟨RX9, "batteries", "()I"⟩
abbrev cX9_battery : ByteArray := prog_11_method_112_code
def yX9_battery : MethodName := ⟨RX9, "battery", "(I)I"⟩
abbrev cX9_batteryOf : ByteArray := prog_11_method_111_code
def yX9_batteryOf : MethodName := ⟨RX9, "batteryOf", "(II)I"⟩
abbrev cX9_begins : ByteArray := prog_11_method_22_code
def yX9_begins : MethodName := ⟨RX9, "begins", "()V"⟩
abbrev cX9_best : ByteArray := prog_11_method_117_code
def yX9_best : MethodName := ⟨RX9, "best", "()I"⟩
abbrev cX9_both : ByteArray := prog_11_method_93_code
def yX9_both : MethodName := ⟨RX9, "both", "(II)I"⟩
abbrev cX9_breaks : ByteArray := prog_11_method_130_code
def yX9_breaks : MethodName := ⟨RX9, "breaks", "(I)I"⟩
abbrev cX9_bright : ByteArray := prog_11_method_81_code
def yX9_bright : MethodName := ⟨RX9, "bright", "()I"⟩
abbrev cX9_by : ByteArray := prog_11_method_133_code
def yX9_by : MethodName := ⟨RX9, "by", "(I)I"⟩
abbrev cX9_chance : ByteArray := prog_11_method_145_code
def yX9_chance : MethodName := ⟨RX9, "chance", "(III)I"⟩
abbrev cX9_changes : ByteArray := prog_11_method_99_code
def yX9_changes : MethodName := ⟨RX9, "changes", "()I"⟩
abbrev cX9_clear : ByteArray := prog_11_method_77_code
def yX9_clear : MethodName := ⟨RX9, "clear", "()I"⟩
abbrev cX9_clears : ByteArray := prog_11_method_30_code
def yX9_clears : MethodName := ⟨RX9, "clears", "()V"⟩
abbrev cX9_closes : ByteArray := prog_11_method_21_code
def yX9_closes : MethodName := ⟨RX9, "closes", "()V"⟩
abbrev cX9_common : ByteArray := prog_11_method_53_code
def yX9_common : MethodName := ⟨RX9, "common", "(JJ)J"⟩
abbrev cX9_copyRow : ByteArray := prog_11_method_32_code
def yX9_copyRow : MethodName := ⟨RX9, "copyRow", "([IIII)V"⟩
abbrev cX9_copyWire : ByteArray := prog_11_method_33_code
def yX9_copyWire : MethodName := ⟨RX9, "copyWire", "(II)V"⟩
abbrev cX9_count : ByteArray := prog_11_method_157_code
def yX9_count : MethodName := ⟨RX9, "count", "(I)I"⟩
abbrev cX9_cupOf : ByteArray := prog_11_method_45_code
def yX9_cupOf : MethodName := ⟨RX9, "cupOf", "(II)I"⟩
abbrev cX9_cupped : ByteArray := prog_11_method_103_code
def yX9_cupped : MethodName := ⟨RX9, "cupped", "(II)I"⟩
abbrev cX9_cups : ByteArray := prog_11_method_152_code
def yX9_cups : MethodName := ⟨RX9, "cups", "(II)I"⟩
abbrev cX9_cure : ByteArray := prog_11_method_115_code
def yX9_cure : MethodName := ⟨RX9, "cure", "(I)I"⟩
abbrev cX9_cureOf : ByteArray := prog_11_method_114_code
def yX9_cureOf : MethodName := ⟨RX9, "cureOf", "(I)I"⟩
abbrev cX9_cures : ByteArray := prog_11_method_116_code
def yX9_cures : MethodName := ⟨RX9, "cures", "(I)I"⟩
abbrev cX9_cut : ByteArray := prog_11_method_6_code
def yX9_cut : MethodName := ⟨RX9, "cut", "(JI)J"⟩
abbrev cX9_damp : ByteArray := prog_11_method_84_code
def yX9_damp : MethodName := ⟨RX9, "damp", "(II)I"⟩
abbrev cX9_dayBy : ByteArray := prog_11_method_79_code
def yX9_dayBy : MethodName := ⟨RX9, "dayBy", "(I)I"⟩
abbrev cX9_days : ByteArray := prog_11_method_36_code
def yX9_days : MethodName := ⟨RX9, "days", "()I"⟩
abbrev cX9_daysOf : ByteArray := prog_11_method_92_code
def yX9_daysOf : MethodName := ⟨RX9, "daysOf", "(IIZ)I"⟩
abbrev cX9_deaf : ByteArray := prog_11_method_74_code
def yX9_deaf : MethodName := ⟨RX9, "deaf", "(I)I"⟩
abbrev cX9_dim : ByteArray := prog_11_method_80_code
def yX9_dim : MethodName := ⟨RX9, "dim", "()I"⟩
abbrev cX9_does : ByteArray := prog_11_method_151_code
def yX9_does : MethodName := ⟨RX9, "does", "(III)V"⟩
abbrev cX9_drawn : ByteArray := prog_11_method_149_code
def yX9_drawn : MethodName := ⟨RX9, "drawn", "(II)I"⟩
abbrev cX9_draws : ByteArray := prog_11_method_147_code
def yX9_draws : MethodName := ⟨RX9, "draws", "(J)V"⟩
abbrev cX9_dry : ByteArray := prog_11_method_87_code
def yX9_dry : MethodName := ⟨RX9, "dry", "()I"⟩
abbrev cX9_earth : ByteArray := prog_11_method_66_code
def yX9_earth : MethodName := ⟨RX9, "earth", "(III)J"⟩
abbrev cX9_end : ByteArray := prog_11_method_11_code
def yX9_end : MethodName := ⟨RX9, "end", "(I)I"⟩
abbrev cX9_ends : ByteArray := prog_11_method_90_code
def yX9_ends : MethodName := ⟨RX9, "ends", "(I)I"⟩
abbrev cX9_fails : ByteArray := prog_11_method_15_code
def yX9_fails : MethodName := ⟨RX9, "fails", "(I)V"⟩
abbrev cX9_faint : ByteArray := prog_11_method_71_code
def yX9_faint : MethodName := ⟨RX9, "faint", "(I)I"⟩
abbrev cX9_falls : ByteArray := prog_11_method_65_code
def yX9_falls : MethodName := ⟨RX9, "falls", "(III)J"⟩
abbrev cX9_fault : ByteArray := prog_11_method_24_code
def yX9_fault : MethodName := ⟨RX9, "fault", "(I)I"⟩
abbrev cX9_feed : ByteArray := prog_11_method_9_code
def yX9_feed : MethodName := ⟨RX9, "feed", "(IIIII)I"⟩
abbrev cX9_fits : ByteArray := prog_11_method_124_code
def yX9_fits : MethodName := ⟨RX9, "fits", "(II)I"⟩
abbrev cX9_flips : ByteArray := prog_11_method_76_code
def yX9_flips : MethodName := ⟨RX9, "flips", "(I)I"⟩
abbrev cX9_four : ByteArray := prog_11_method_10_code
def yX9_four : MethodName := ⟨RX9, "four", "(I)V"⟩
abbrev cX9_gets : ByteArray := prog_11_method_141_code
def yX9_gets : MethodName := ⟨RX9, "gets", "(IIII)I"⟩
abbrev cX9_getsBy : ByteArray := prog_11_method_138_code
def yX9_getsBy : MethodName := ⟨RX9, "getsBy", "(IIIII)I"⟩
abbrev cX9_grounds : ByteArray := prog_11_method_96_code
def yX9_grounds : MethodName := ⟨RX9, "grounds", "(I)I"⟩
abbrev cX9_half : ByteArray := prog_11_method_95_code
def yX9_half : MethodName := ⟨RX9, "half", "(I)I"⟩
abbrev cX9_hasRead : ByteArray := prog_11_method_25_code
def yX9_hasRead : MethodName := ⟨RX9, "hasRead", "(I)I"⟩
abbrev cX9_hears : ByteArray := prog_11_method_68_code
def yX9_hears : MethodName := ⟨RX9, "hears", "(I)I"⟩
abbrev cX9_hearsOn : ByteArray := prog_11_method_50_code
def yX9_hearsOn : MethodName := ⟨RX9, "hearsOn", "(I)I"⟩
abbrev cX9_high : ByteArray := prog_11_method_126_code
def yX9_high : MethodName := ⟨RX9, "high", "(II)I"⟩
abbrev cX9_image : ByteArray := prog_11_method_158_code
def yX9_image : MethodName := ⟨RX9, "image", "(I)I"⟩
abbrev cX9_in : ByteArray := prog_11_method_3_code
def yX9_in : MethodName := ⟨RX9, "in", "(JJJ)Z"⟩
abbrev cX9_init : ByteArray := prog_11_method_1_code
def yX9_init : MethodName := ⟨RX9, "<init>", "()V"⟩
abbrev cX9_is : ByteArray := prog_11_method_16_code
def yX9_is : MethodName := ⟨RX9, "is", "(J)Z"⟩
abbrev cX9_isBit : ByteArray := prog_11_method_41_code
def yX9_isBit : MethodName := ⟨RX9, "isBit", "(II)Z"⟩
abbrev cX9_isBroken : ByteArray := prog_11_method_47_code
def yX9_isBroken : MethodName := ⟨RX9, "isBroken", "(II)Z"⟩
abbrev cX9_isByte : ByteArray := prog_11_method_12_code
def yX9_isByte : MethodName := ⟨RX9, "isByte", "(III)Z"⟩
abbrev cX9_isClear : ByteArray := prog_11_method_110_code
def yX9_isClear : MethodName := ⟨RX9, "isClear", "(II)Z"⟩
abbrev cX9_isDay : ByteArray := prog_11_method_39_code
def yX9_isDay : MethodName := ⟨RX9, "isDay", "(J)Z"⟩
abbrev cX9_isGood : ByteArray := prog_11_method_14_code
def yX9_isGood : MethodName := ⟨RX9, "isGood", "()Z"⟩
abbrev cX9_isHalf : ByteArray := prog_11_method_40_code
def yX9_isHalf : MethodName := ⟨RX9, "isHalf", "(I)Z"⟩
abbrev cX9_isHeard : ByteArray := prog_11_method_72_code
def yX9_isHeard : MethodName := ⟨RX9, "isHeard", "(II)Z"⟩
abbrev cX9_isHearing : ByteArray := prog_11_method_49_code
def yX9_isHearing : MethodName := ⟨RX9, "isHearing", "(I)Z"⟩
abbrev cX9_isLeak : ByteArray := prog_11_method_121_code
def yX9_isLeak : MethodName := ⟨RX9, "isLeak", "(III)Z"⟩
abbrev cX9_isOf : ByteArray := prog_11_method_62_code
def yX9_isOf : MethodName := ⟨RX9, "isOf", "(III)Z"⟩
abbrev cX9_isOver : ByteArray := prog_11_method_23_code
def yX9_isOver : MethodName := ⟨RX9, "isOver", "()V"⟩
abbrev cX9_isRoom : ByteArray := prog_11_method_28_code
def yX9_isRoom : MethodName := ⟨RX9, "isRoom", "(ZII)Z"⟩
abbrev cX9_isSeed : ByteArray := prog_11_method_148_code
def yX9_isSeed : MethodName := ⟨RX9, "isSeed", "(I)Z"⟩
abbrev cX9_isSlot : ByteArray := prog_11_method_4_code
def yX9_isSlot : MethodName := ⟨RX9, "isSlot", "(I)Z"⟩
abbrev cX9_isSo : ByteArray := prog_11_method_120_code
def yX9_isSo : MethodName := ⟨RX9, "isSo", "(I)Z"⟩
abbrev cX9_isSoon : ByteArray := prog_11_method_144_code
def yX9_isSoon : MethodName := ⟨RX9, "isSoon", "(I)Z"⟩
abbrev cX9_isSpan : ByteArray := prog_11_method_37_code
def yX9_isSpan : MethodName := ⟨RX9, "isSpan", "(I)Z"⟩
abbrev cX9_isStation : ByteArray := prog_11_method_38_code
def yX9_isStation : MethodName := ⟨RX9, "isStation", "(I)Z"⟩
abbrev cX9_isWire : ByteArray := prog_11_method_34_code
def yX9_isWire : MethodName := ⟨RX9, "isWire", "()Z"⟩
abbrev cX9_joined : ByteArray := prog_11_method_59_code
def yX9_joined : MethodName := ⟨RX9, "joined", "(I)I"⟩
abbrev cX9_lack : ByteArray := prog_11_method_105_code
def yX9_lack : MethodName := ⟨RX9, "lack", "(I)I"⟩
abbrev cX9_last : ByteArray := prog_11_method_78_code
def yX9_last : MethodName := ⟨RX9, "last", "()I"⟩
abbrev cX9_law : ByteArray := prog_11_method_134_code
def yX9_law : MethodName := ⟨RX9, "law", "()I"⟩
abbrev cX9_laws : ByteArray := prog_11_method_131_code
def yX9_laws : MethodName := ⟨RX9, "laws", "(I)I"⟩
abbrev cX9_lays : ByteArray := prog_11_method_44_code
def yX9_lays : MethodName := ⟨RX9, "lays", "()V"⟩
abbrev cX9_laysDay : ByteArray := prog_11_method_48_code
def yX9_laysDay : MethodName := ⟨RX9, "laysDay", "(I)V"⟩
abbrev cX9_laysSeen : ByteArray := prog_11_method_122_code
def yX9_laysSeen : MethodName := ⟨RX9, "laysSeen", "(II)V"⟩
abbrev cX9_leak : ByteArray := prog_11_method_58_code
def yX9_leak : MethodName := ⟨RX9, "leak", "(II)I"⟩
abbrev cX9_leakOf : ByteArray := prog_11_method_46_code
def yX9_leakOf : MethodName := ⟨RX9, "leakOf", "(II)I"⟩
abbrev cX9_leaves : ByteArray := prog_11_method_128_code
def yX9_leaves : MethodName := ⟨RX9, "leaves", "(II)I"⟩
abbrev cX9_lineHere : ByteArray := prog_11_method_29_code
def yX9_lineHere : MethodName := ⟨RX9, "lineHere", "()V"⟩
abbrev cX9_longest : ByteArray := prog_11_method_75_code
def yX9_longest : MethodName := ⟨RX9, "longest", "(I)I"⟩
abbrev cX9_loud : ByteArray := prog_11_method_106_code
def yX9_loud : MethodName := ⟨RX9, "loud", "(I)I"⟩
abbrev cX9_low : ByteArray := prog_11_method_125_code
def yX9_low : MethodName := ⟨RX9, "low", "(II)I"⟩
abbrev cX9_luck : ByteArray := prog_11_method_150_code
def yX9_luck : MethodName := ⟨RX9, "luck", "(III)I"⟩
abbrev cX9_margin : ByteArray := prog_11_method_88_code
def yX9_margin : MethodName := ⟨RX9, "margin", "(II)I"⟩
abbrev cX9_mean : ByteArray := prog_11_method_146_code
def yX9_mean : MethodName := ⟨RX9, "mean", "(II)J"⟩
abbrev cX9_moreOf : ByteArray := prog_11_method_43_code
def yX9_moreOf : MethodName := ⟨RX9, "moreOf", "(II)I"⟩
abbrev cX9_mute : ByteArray := prog_11_method_98_code
def yX9_mute : MethodName := ⟨RX9, "mute", "()I"⟩
abbrev cX9_next : ByteArray := prog_11_method_13_code
def yX9_next : MethodName := ⟨RX9, "next", "()V"⟩
abbrev cX9_number : ByteArray := prog_11_method_19_code
def yX9_number : MethodName := ⟨RX9, "number", "(II)I"⟩
abbrev cX9_number_ : ByteArray := prog_11_method_20_code
def yX9_number_ : MethodName := ⟨RX9, "number", "(JII)I"⟩
abbrev cX9_ohms : ByteArray := prog_11_method_60_code
def yX9_ohms : MethodName := ⟨RX9, "ohms", "(II)J"⟩
abbrev cX9_partAt : ByteArray := prog_11_method_70_code
def yX9_partAt : MethodName := ⟨RX9, "partAt", "(I)J"⟩
abbrev cX9_partOf : ByteArray := prog_11_method_54_code
def yX9_partOf : MethodName := ⟨RX9, "partOf", "(JJI)J"⟩
abbrev cX9_paste : ByteArray := prog_11_method_8_code
def yX9_paste : MethodName := ⟨RX9, "paste", "(IIIII)I"⟩
abbrev cX9_power : ByteArray := prog_11_method_142_code
def yX9_power : MethodName := ⟨RX9, "power", "(JI)J"⟩
abbrev cX9_rate : ByteArray := prog_11_method_156_code
def yX9_rate : MethodName := ⟨RX9, "rate", "(II)I"⟩
abbrev cX9_reach : ByteArray := prog_11_method_91_code
def yX9_reach : MethodName := ⟨RX9, "reach", "(I)I"⟩
abbrev cX9_rests : ByteArray := prog_11_method_140_code
def yX9_rests : MethodName := ⟨RX9, "rests", "(II)I"⟩
abbrev cX9_rises : ByteArray := prog_11_method_89_code
def yX9_rises : MethodName := ⟨RX9, "rises", "(I)I"⟩
abbrev cX9_row : ByteArray := prog_11_method_5_code
def yX9_row : MethodName := ⟨RX9, "row", "(III)I"⟩
abbrev cX9_share : ByteArray := prog_11_method_137_code
def yX9_share : MethodName := ⟨RX9, "share", "(II)I"⟩
abbrev cX9_silent : ByteArray := prog_11_method_69_code
def yX9_silent : MethodName := ⟨RX9, "silent", "(I)I"⟩
abbrev cX9_sizeOf : ByteArray := prog_11_method_42_code
def yX9_sizeOf : MethodName := ⟨RX9, "sizeOf", "(I)I"⟩
abbrev cX9_snapped : ByteArray := prog_11_method_104_code
def yX9_snapped : MethodName := ⟨RX9, "snapped", "(I)I"⟩
abbrev cX9_snaps : ByteArray := prog_11_method_153_code
def yX9_snaps : MethodName := ⟨RX9, "snaps", "(II)I"⟩
abbrev cX9_sore : ByteArray := prog_11_method_67_code
def yX9_sore : MethodName := ⟨RX9, "sore", "(I)I"⟩
abbrev cX9_span : ByteArray := prog_11_method_55_code
def yX9_span : MethodName := ⟨RX9, "span", "(II)I"⟩
abbrev cX9_spanLine : ByteArray := prog_11_method_27_code
def yX9_spanLine : MethodName := ⟨RX9, "spanLine", "()V"⟩
abbrev cX9_spans : ByteArray := prog_11_method_35_code
def yX9_spans : MethodName := ⟨RX9, "spans", "()I"⟩
abbrev cX9_spell : ByteArray := prog_11_method_86_code
def yX9_spell : MethodName := ⟨RX9, "spell", "()I"⟩
abbrev cX9_spellOf : ByteArray := prog_11_method_85_code
def yX9_spellOf : MethodName := ⟨RX9, "spellOf", "(Z)I"⟩
abbrev cX9_spots : ByteArray := prog_11_method_129_code
def yX9_spots : MethodName := ⟨RX9, "spots", "(I)I"⟩
abbrev cX9_stationBy : ByteArray := prog_11_method_107_code
def yX9_stationBy : MethodName := ⟨RX9, "stationBy", "(I)I"⟩
abbrev cX9_stations : ByteArray := prog_11_method_56_code
def yX9_stations : MethodName := ⟨RX9, "stations", "()I"⟩
abbrev cX9_stationsAll : ByteArray := prog_11_method_51_code
def yX9_stationsAll : MethodName := ⟨RX9, "stationsAll", "()I"⟩
abbrev cX9_steep : ByteArray := prog_11_method_97_code
def yX9_steep : MethodName := ⟨RX9, "steep", "(I)I"⟩
abbrev cX9_strong : ByteArray := prog_11_method_109_code
def yX9_strong : MethodName := ⟨RX9, "strong", "()I"⟩
abbrev cX9_sum : ByteArray := prog_11_method_82_code
def yX9_sum : MethodName := ⟨RX9, "sum", "()I"⟩
abbrev cX9_sumBy : ByteArray := prog_11_method_132_code
def yX9_sumBy : MethodName := ⟨RX9, "sumBy", "(I)I"⟩
abbrev cX9_sumNow : ByteArray := prog_11_method_52_code
def yX9_sumNow : MethodName := ⟨RX9, "sumNow", "()I"⟩
abbrev cX9_takesWord : ByteArray := prog_11_method_17_code
def yX9_takesWord : MethodName := ⟨RX9, "takesWord", "(J)Z"⟩
abbrev cX9_tells : ByteArray := prog_11_method_26_code
def yX9_tells : MethodName := ⟨RX9, "tells", "(II)V"⟩
abbrev cX9_thick : ByteArray := prog_11_method_118_code
def yX9_thick : MethodName := ⟨RX9, "thick", "()I"⟩
abbrev cX9_times : ByteArray := prog_11_method_136_code
def yX9_times : MethodName := ⟨RX9, "times", "(I)I"⟩
abbrev cX9_undo : ByteArray := prog_11_method_154_code
def yX9_undo : MethodName := ⟨RX9, "undo", "()I"⟩
abbrev cX9_volts : ByteArray := prog_11_method_63_code
def yX9_volts : MethodName := ⟨RX9, "volts", "(III)J"⟩
abbrev cX9_weakest : ByteArray := prog_11_method_108_code
def yX9_weakest : MethodName := ⟨RX9, "weakest", "()I"⟩
abbrev cX9_weightOf : ByteArray := prog_11_method_143_code
def yX9_weightOf : MethodName := ⟨RX9, "weightOf", "(II)J"⟩
abbrev cX9_wets : ByteArray := prog_11_method_57_code
def yX9_wets : MethodName := ⟨RX9, "wets", "()I"⟩
abbrev cX9_when : ByteArray := prog_11_method_73_code
def yX9_when : MethodName := ⟨RX9, "when", "(I)I"⟩
abbrev cX9_whole : ByteArray := prog_11_method_64_code
def yX9_whole : MethodName := ⟨RX9, "whole", "(II)I"⟩
abbrev cX9_whyNot : ByteArray := prog_11_method_119_code
def yX9_whyNot : MethodName := ⟨RX9, "whyNot", "(IZ)I"⟩
abbrev cX9_wire : ByteArray := prog_11_method_31_code
def yX9_wire : MethodName := ⟨RX9, "wire", "()I"⟩
abbrev cX9_without : ByteArray := prog_11_method_102_code
def yX9_without : MethodName := ⟨RX9, "without", "(I)I"⟩
abbrev cX9_worst : ByteArray := prog_11_method_83_code
def yX9_worst : MethodName := ⟨RX9, "worst", "(I)I"⟩
abbrev cX9_worstAt : ByteArray := prog_11_method_123_code
def yX9_worstAt : MethodName := ⟨RX9, "worstAt", "(I)I"⟩
abbrev cX9_worth : ByteArray := prog_11_method_135_code
def yX9_worth : MethodName := ⟨RX9, "worth", "(I)I"⟩
abbrev cX9_worthOf : ByteArray := prog_11_method_100_code
def yX9_worthOf : MethodName := ⟨RX9, "worthOf", "(I)I"⟩
abbrev cX9_write : ByteArray := prog_11_method_7_code
def yX9_write : MethodName := ⟨RX9, "write", "(IIJ)I"⟩
theorem w_0 : Cond.selects RX7 yX7_add yX7_add ∈ lw_ok := List.mem_filter.mpr ⟨List.mem_of_getElem? (i := 0) (by decide +kernel), rfl⟩
theorem w_1 : Cond.selects RX6 yX6_step yX6_step ∈ lw_ok := List.mem_filter.mpr ⟨List.mem_of_getElem? (i := 1) (by decide +kernel), rfl⟩
theorem w_2 : Cond.selects RX6 yX6_readLine yX6_readLine ∈ lw_ok := List.mem_filter.mpr ⟨List.mem_of_getElem? (i := 2) (by decide +kernel), rfl⟩
theorem w_3 : Cond.selects RX6 yX6_readHead yX6_readHead ∈ lw_ok := List.mem_filter.mpr ⟨List.mem_of_getElem? (i := 3) (by decide +kernel), rfl⟩
theorem w_4 : Cond.selects RX6 yX6_readPair yX6_readPair ∈ lw_ok := List.mem_filter.mpr ⟨List.mem_of_getElem? (i := 4) (by decide +kernel), rfl⟩
theorem w_5 : Cond.selects RX6 yX6_readNumber yX6_readNumber ∈ lw_ok := List.mem_filter.mpr ⟨List.mem_of_getElem? (i := 5) (by decide +kernel), rfl⟩
theorem w_6 : Cond.selects RX6 yX6_fail yX6_fail ∈ lw_ok := List.mem_filter.mpr ⟨List.mem_of_getElem? (i := 6) (by decide +kernel), rfl⟩
theorem w_7 : Cond.selects RX6 yX6_isSign yX6_isSign ∈ lw_ok := List.mem_filter.mpr ⟨List.mem_of_getElem? (i := 7) (by decide +kernel), rfl⟩
theorem w_8 : Cond.selects RX6 yX6_readSpan yX6_readSpan ∈ lw_ok := List.mem_filter.mpr ⟨List.mem_of_getElem? (i := 8) (by decide +kernel), rfl⟩
theorem w_9 : Cond.selects RX6 yX6_readWet yX6_readWet ∈ lw_ok := List.mem_filter.mpr ⟨List.mem_of_getElem? (i := 9) (by decide +kernel), rfl⟩
theorem w_10 : Cond.selects RX8 yX8_isPole yX8_isPole ∈ lw_ok := List.mem_filter.mpr ⟨List.mem_of_getElem? (i := 10) (by decide +kernel), rfl⟩
theorem w_11 : Cond.selects RX8 yX8_isTold yX8_isTold ∈ lw_ok := List.mem_filter.mpr ⟨List.mem_of_getElem? (i := 11) (by decide +kernel), rfl⟩
theorem w_12 : Cond.selects RX8 yX8_isDay yX8_isDay ∈ lw_ok := List.mem_filter.mpr ⟨List.mem_of_getElem? (i := 12) (by decide +kernel), rfl⟩
theorem w_13 : Cond.selects RX4 yX4_isWet yX4_isWet ∈ lw_ok := List.mem_filter.mpr ⟨List.mem_of_getElem? (i := 13) (by decide +kernel), rfl⟩
theorem w_14 : Cond.selects RX4 yX4_wetDays yX4_wetDays ∈ lw_ok := List.mem_filter.mpr ⟨List.mem_of_getElem? (i := 14) (by decide +kernel), rfl⟩
theorem w_15 : Cond.selects RX8 yX8_settleAsTold yX8_settleAsTold ∈ lw_ok := List.mem_filter.mpr ⟨List.mem_of_getElem? (i := 15) (by decide +kernel), rfl⟩
theorem w_16 : Cond.selects RX8 yX8_partOf yX8_partOf ∈ lw_ok := List.mem_filter.mpr ⟨List.mem_of_getElem? (i := 16) (by decide +kernel), rfl⟩
theorem w_17 : Cond.selects RX8 yX8_wholeVolts yX8_wholeVolts ∈ lw_ok := List.mem_filter.mpr ⟨List.mem_of_getElem? (i := 17) (by decide +kernel), rfl⟩
theorem w_18 : Cond.selects RX8 yX8_heardBits yX8_heardBits ∈ lw_ok := List.mem_filter.mpr ⟨List.mem_of_getElem? (i := 18) (by decide +kernel), rfl⟩
theorem w_19 : Cond.selects RX8 yX8_isStation yX8_isStation ∈ lw_ok := List.mem_filter.mpr ⟨List.mem_of_getElem? (i := 19) (by decide +kernel), rfl⟩
theorem w_20 : Cond.selects RX8 yX8_allDays yX8_allDays ∈ lw_ok := List.mem_filter.mpr ⟨List.mem_of_getElem? (i := 20) (by decide +kernel), rfl⟩
theorem w_21 : Cond.selects RX8 yX8_hearingDays yX8_hearingDays ∈ lw_ok := List.mem_filter.mpr ⟨List.mem_of_getElem? (i := 21) (by decide +kernel), rfl⟩
theorem w_22 : Cond.selects RX8 yX8_daysHeard yX8_daysHeard ∈ lw_ok := List.mem_filter.mpr ⟨List.mem_of_getElem? (i := 22) (by decide +kernel), rfl⟩
theorem w_23 : Cond.selects RX8 yX8_clearDays yX8_clearDays ∈ lw_ok := List.mem_filter.mpr ⟨List.mem_of_getElem? (i := 23) (by decide +kernel), rfl⟩
theorem w_24 : Cond.selects RX8 yX8_listenAsTold yX8_listenAsTold ∈ lw_ok := List.mem_filter.mpr ⟨List.mem_of_getElem? (i := 24) (by decide +kernel), rfl⟩
theorem w_25 : Cond.selects RX8 yX8_heardInAll yX8_heardInAll ∈ lw_ok := List.mem_filter.mpr ⟨List.mem_of_getElem? (i := 25) (by decide +kernel), rfl⟩
theorem w_26 : Cond.selects RX8 yX8_allPoles yX8_allPoles ∈ lw_ok := List.mem_filter.mpr ⟨List.mem_of_getElem? (i := 26) (by decide +kernel), rfl⟩
theorem w_27 : Cond.selects RX8 yX8_worthOf yX8_worthOf ∈ lw_ok := List.mem_filter.mpr ⟨List.mem_of_getElem? (i := 27) (by decide +kernel), rfl⟩
theorem w_28 : Cond.selects RX8 yX8_firstByDays yX8_firstByDays ∈ lw_ok := List.mem_filter.mpr ⟨List.mem_of_getElem? (i := 28) (by decide +kernel), rfl⟩
theorem w_29 : Cond.selects RX8 yX8_heardDaysOf yX8_heardDaysOf ∈ lw_ok := List.mem_filter.mpr ⟨List.mem_of_getElem? (i := 29) (by decide +kernel), rfl⟩
theorem w_30 : Cond.selects RX8 yX8_leastBattery yX8_leastBattery ∈ lw_ok := List.mem_filter.mpr ⟨List.mem_of_getElem? (i := 30) (by decide +kernel), rfl⟩
theorem w_31 : Cond.selects RX8 yX8_leastCure yX8_leastCure ∈ lw_ok := List.mem_filter.mpr ⟨List.mem_of_getElem? (i := 31) (by decide +kernel), rfl⟩
theorem w_32 : Cond.selects RX8 yX8_refusalOfSeen yX8_refusalOfSeen ∈ lw_ok := List.mem_filter.mpr ⟨List.mem_of_getElem? (i := 32) (by decide +kernel), rfl⟩
theorem w_33 : Cond.selects RX8 yX8_refusalOfRow yX8_refusalOfRow ∈ lw_ok := List.mem_filter.mpr ⟨List.mem_of_getElem? (i := 33) (by decide +kernel), rfl⟩
theorem w_34 : Cond.selects RX8 yX8_fittingLeaks yX8_fittingLeaks ∈ lw_ok := List.mem_filter.mpr ⟨List.mem_of_getElem? (i := 34) (by decide +kernel), rfl⟩
theorem w_35 : Cond.selects RX8 yX8_isAsSeen yX8_isAsSeen ∈ lw_ok := List.mem_filter.mpr ⟨List.mem_of_getElem? (i := 35) (by decide +kernel), rfl⟩
theorem w_36 : Cond.selects RX8 yX8_dayToAsk yX8_dayToAsk ∈ lw_ok := List.mem_filter.mpr ⟨List.mem_of_getElem? (i := 36) (by decide +kernel), rfl⟩
theorem w_37 : Cond.selects RX8 yX8_leftAtWorst yX8_leftAtWorst ∈ lw_ok := List.mem_filter.mpr ⟨List.mem_of_getElem? (i := 37) (by decide +kernel), rfl⟩
theorem w_38 : Cond.selects RX8 yX8_readByLeaks yX8_readByLeaks ∈ lw_ok := List.mem_filter.mpr ⟨List.mem_of_getElem? (i := 38) (by decide +kernel), rfl⟩
theorem w_39 : Cond.selects RX8 yX8_alikeFrom yX8_alikeFrom ∈ lw_ok := List.mem_filter.mpr ⟨List.mem_of_getElem? (i := 39) (by decide +kernel), rfl⟩
theorem w_40 : Cond.selects RX8 yX8_heardByLaw yX8_heardByLaw ∈ lw_ok := List.mem_filter.mpr ⟨List.mem_of_getElem? (i := 40) (by decide +kernel), rfl⟩
theorem w_41 : Cond.selects RX8 yX8_gainOf yX8_gainOf ∈ lw_ok := List.mem_filter.mpr ⟨List.mem_of_getElem? (i := 41) (by decide +kernel), rfl⟩
theorem w_42 : Cond.selects RX8 yX8_isChanceDay yX8_isChanceDay ∈ lw_ok := List.mem_filter.mpr ⟨List.mem_of_getElem? (i := 42) (by decide +kernel), rfl⟩
theorem w_43 : Cond.selects RX8 yX8_heardByChance yX8_heardByChance ∈ lw_ok := List.mem_filter.mpr ⟨List.mem_of_getElem? (i := 43) (by decide +kernel), rfl⟩
theorem w_44 : Cond.selects RX8 yX8_wetByDraws yX8_wetByDraws ∈ lw_ok := List.mem_filter.mpr ⟨List.mem_of_getElem? (i := 44) (by decide +kernel), rfl⟩
theorem w_45 : Cond.selects RX8 yX8_heardByDraws yX8_heardByDraws ∈ lw_ok := List.mem_filter.mpr ⟨List.mem_of_getElem? (i := 45) (by decide +kernel), rfl⟩
theorem w_46 : Cond.selects RX9 yX9_four yX9_four ∈ lw_ok := List.mem_filter.mpr ⟨List.mem_of_getElem? (i := 46) (by decide +kernel), rfl⟩
theorem w_47 : Cond.selects RX9 yX9_clears yX9_clears ∈ lw_ok := List.mem_filter.mpr ⟨List.mem_of_getElem? (i := 47) (by decide +kernel), rfl⟩
theorem w_48 : Cond.selects RX9 yX9_tells yX9_tells ∈ lw_ok := List.mem_filter.mpr ⟨List.mem_of_getElem? (i := 48) (by decide +kernel), rfl⟩
theorem w_49 : Cond.selects RX9 yX9_begins yX9_begins ∈ lw_ok := List.mem_filter.mpr ⟨List.mem_of_getElem? (i := 49) (by decide +kernel), rfl⟩
theorem w_50 : Cond.selects RX9 yX9_next yX9_next ∈ lw_ok := List.mem_filter.mpr ⟨List.mem_of_getElem? (i := 50) (by decide +kernel), rfl⟩
theorem w_51 : Cond.selects RX9 yX9_isByte yX9_isByte ∈ lw_ok := List.mem_filter.mpr ⟨List.mem_of_getElem? (i := 51) (by decide +kernel), rfl⟩
theorem w_52 : Cond.selects RX9 yX9_isGood yX9_isGood ∈ lw_ok := List.mem_filter.mpr ⟨List.mem_of_getElem? (i := 52) (by decide +kernel), rfl⟩
theorem w_53 : Cond.selects RX9 yX9_asks yX9_asks ∈ lw_ok := List.mem_filter.mpr ⟨List.mem_of_getElem? (i := 53) (by decide +kernel), rfl⟩
theorem w_54 : Cond.selects RX9 yX9_takesWord yX9_takesWord ∈ lw_ok := List.mem_filter.mpr ⟨List.mem_of_getElem? (i := 54) (by decide +kernel), rfl⟩
theorem w_55 : Cond.selects RX9 yX9_is yX9_is ∈ lw_ok := List.mem_filter.mpr ⟨List.mem_of_getElem? (i := 55) (by decide +kernel), rfl⟩
theorem w_56 : Cond.selects RX9 yX9_fails yX9_fails ∈ lw_ok := List.mem_filter.mpr ⟨List.mem_of_getElem? (i := 56) (by decide +kernel), rfl⟩
theorem w_57 : Cond.selects RX9 yX9_number_ yX9_number_ ∈ lw_ok := List.mem_filter.mpr ⟨List.mem_of_getElem? (i := 57) (by decide +kernel), rfl⟩
theorem w_58 : Cond.selects RX9 yX9_number yX9_number ∈ lw_ok := List.mem_filter.mpr ⟨List.mem_of_getElem? (i := 58) (by decide +kernel), rfl⟩
theorem w_59 : Cond.selects RX9 yX9_lineHere yX9_lineHere ∈ lw_ok := List.mem_filter.mpr ⟨List.mem_of_getElem? (i := 59) (by decide +kernel), rfl⟩
theorem w_60 : Cond.selects RX9 yX9_isRoom yX9_isRoom ∈ lw_ok := List.mem_filter.mpr ⟨List.mem_of_getElem? (i := 60) (by decide +kernel), rfl⟩
theorem w_61 : Cond.selects RX9 yX9_hasRead yX9_hasRead ∈ lw_ok := List.mem_filter.mpr ⟨List.mem_of_getElem? (i := 61) (by decide +kernel), rfl⟩
theorem w_62 : Cond.selects RX9 yX9_spanLine yX9_spanLine ∈ lw_ok := List.mem_filter.mpr ⟨List.mem_of_getElem? (i := 62) (by decide +kernel), rfl⟩
theorem w_63 : Cond.selects RX9 yX9_closes yX9_closes ∈ lw_ok := List.mem_filter.mpr ⟨List.mem_of_getElem? (i := 63) (by decide +kernel), rfl⟩
theorem w_64 : Cond.selects RX9 yX9_isOver yX9_isOver ∈ lw_ok := List.mem_filter.mpr ⟨List.mem_of_getElem? (i := 64) (by decide +kernel), rfl⟩
theorem w_65 : Cond.selects RX9 yX9_copyWire yX9_copyWire ∈ lw_ok := List.mem_filter.mpr ⟨List.mem_of_getElem? (i := 65) (by decide +kernel), rfl⟩
theorem w_66 : Cond.selects RX9 yX9_isSpan yX9_isSpan ∈ lw_ok := List.mem_filter.mpr ⟨List.mem_of_getElem? (i := 66) (by decide +kernel), rfl⟩
theorem w_67 : Cond.selects RX9 yX9_spans yX9_spans ∈ lw_ok := List.mem_filter.mpr ⟨List.mem_of_getElem? (i := 67) (by decide +kernel), rfl⟩
theorem w_68 : Cond.selects RX9 yX9_isWire yX9_isWire ∈ lw_ok := List.mem_filter.mpr ⟨List.mem_of_getElem? (i := 68) (by decide +kernel), rfl⟩
theorem w_69 : Cond.selects RX9 yX9_stationsAll yX9_stationsAll ∈ lw_ok := List.mem_filter.mpr ⟨List.mem_of_getElem? (i := 69) (by decide +kernel), rfl⟩
theorem w_70 : Cond.selects RX9 yX9_isStation yX9_isStation ∈ lw_ok := List.mem_filter.mpr ⟨List.mem_of_getElem? (i := 70) (by decide +kernel), rfl⟩
theorem w_71 : Cond.selects RX9 yX9_lays yX9_lays ∈ lw_ok := List.mem_filter.mpr ⟨List.mem_of_getElem? (i := 71) (by decide +kernel), rfl⟩
theorem w_72 : Cond.selects RX9 yX9_days yX9_days ∈ lw_ok := List.mem_filter.mpr ⟨List.mem_of_getElem? (i := 72) (by decide +kernel), rfl⟩
theorem w_73 : Cond.selects RX9 yX9_isDay yX9_isDay ∈ lw_ok := List.mem_filter.mpr ⟨List.mem_of_getElem? (i := 73) (by decide +kernel), rfl⟩
theorem w_74 : Cond.selects RX9 yX9_leakOf yX9_leakOf ∈ lw_ok := List.mem_filter.mpr ⟨List.mem_of_getElem? (i := 74) (by decide +kernel), rfl⟩
theorem w_75 : Cond.selects RX9 yX9_cupOf yX9_cupOf ∈ lw_ok := List.mem_filter.mpr ⟨List.mem_of_getElem? (i := 75) (by decide +kernel), rfl⟩
theorem w_76 : Cond.selects RX9 yX9_laysDay yX9_laysDay ∈ lw_ok := List.mem_filter.mpr ⟨List.mem_of_getElem? (i := 76) (by decide +kernel), rfl⟩
theorem w_77 : Cond.selects RX9 yX9_isBroken yX9_isBroken ∈ lw_ok := List.mem_filter.mpr ⟨List.mem_of_getElem? (i := 77) (by decide +kernel), rfl⟩
theorem w_78 : Cond.selects RX9 yX9_isOf yX9_isOf ∈ lw_ok := List.mem_filter.mpr ⟨List.mem_of_getElem? (i := 78) (by decide +kernel), rfl⟩
theorem w_79 : Cond.selects RX9 yX9_hearsOn yX9_hearsOn ∈ lw_ok := List.mem_filter.mpr ⟨List.mem_of_getElem? (i := 79) (by decide +kernel), rfl⟩
theorem w_80 : Cond.selects RX9 yX9_isHearing yX9_isHearing ∈ lw_ok := List.mem_filter.mpr ⟨List.mem_of_getElem? (i := 80) (by decide +kernel), rfl⟩
theorem w_81 : Cond.selects RX9 yX9_partAt yX9_partAt ∈ lw_ok := List.mem_filter.mpr ⟨List.mem_of_getElem? (i := 81) (by decide +kernel), rfl⟩
theorem w_82 : Cond.selects RX9 yX9_isHeard yX9_isHeard ∈ lw_ok := List.mem_filter.mpr ⟨List.mem_of_getElem? (i := 82) (by decide +kernel), rfl⟩
theorem w_83 : Cond.selects RX9 yX9_dayBy yX9_dayBy ∈ lw_ok := List.mem_filter.mpr ⟨List.mem_of_getElem? (i := 83) (by decide +kernel), rfl⟩
theorem w_84 : Cond.selects RX9 yX9_sumNow yX9_sumNow ∈ lw_ok := List.mem_filter.mpr ⟨List.mem_of_getElem? (i := 84) (by decide +kernel), rfl⟩
theorem w_85 : Cond.selects RX9 yX9_spellOf yX9_spellOf ∈ lw_ok := List.mem_filter.mpr ⟨List.mem_of_getElem? (i := 85) (by decide +kernel), rfl⟩
theorem w_86 : Cond.selects RX9 yX9_daysOf yX9_daysOf ∈ lw_ok := List.mem_filter.mpr ⟨List.mem_of_getElem? (i := 86) (by decide +kernel), rfl⟩
theorem w_87 : Cond.selects RX9 yX9_worthOf yX9_worthOf ∈ lw_ok := List.mem_filter.mpr ⟨List.mem_of_getElem? (i := 87) (by decide +kernel), rfl⟩
theorem w_88 : Cond.selects RX9 yX9_stationBy yX9_stationBy ∈ lw_ok := List.mem_filter.mpr ⟨List.mem_of_getElem? (i := 88) (by decide +kernel), rfl⟩
theorem w_89 : Cond.selects RX9 yX9_batteryOf yX9_batteryOf ∈ lw_ok := List.mem_filter.mpr ⟨List.mem_of_getElem? (i := 89) (by decide +kernel), rfl⟩
theorem w_90 : Cond.selects RX9 yX9_isClear yX9_isClear ∈ lw_ok := List.mem_filter.mpr ⟨List.mem_of_getElem? (i := 90) (by decide +kernel), rfl⟩
theorem w_91 : Cond.selects RX9 yX9_cureOf yX9_cureOf ∈ lw_ok := List.mem_filter.mpr ⟨List.mem_of_getElem? (i := 91) (by decide +kernel), rfl⟩
theorem w_92 : Cond.selects RX9 yX9_whyNot yX9_whyNot ∈ lw_ok := List.mem_filter.mpr ⟨List.mem_of_getElem? (i := 92) (by decide +kernel), rfl⟩
theorem w_93 : Cond.selects RX9 yX9_laysSeen yX9_laysSeen ∈ lw_ok := List.mem_filter.mpr ⟨List.mem_of_getElem? (i := 93) (by decide +kernel), rfl⟩
theorem w_94 : Cond.selects RX9 yX9_isLeak yX9_isLeak ∈ lw_ok := List.mem_filter.mpr ⟨List.mem_of_getElem? (i := 94) (by decide +kernel), rfl⟩
theorem w_95 : Cond.selects RX9 yX9_isSo yX9_isSo ∈ lw_ok := List.mem_filter.mpr ⟨List.mem_of_getElem? (i := 95) (by decide +kernel), rfl⟩
theorem w_96 : Cond.selects RX9 yX9_worstAt yX9_worstAt ∈ lw_ok := List.mem_filter.mpr ⟨List.mem_of_getElem? (i := 96) (by decide +kernel), rfl⟩
theorem w_97 : Cond.selects RX9 yX9_sumBy yX9_sumBy ∈ lw_ok := List.mem_filter.mpr ⟨List.mem_of_getElem? (i := 97) (by decide +kernel), rfl⟩
theorem w_98 : Cond.selects RX9 yX9_areTwo yX9_areTwo ∈ lw_ok := List.mem_filter.mpr ⟨List.mem_of_getElem? (i := 98) (by decide +kernel), rfl⟩
theorem w_99 : Cond.selects RX9 yX9_getsBy yX9_getsBy ∈ lw_ok := List.mem_filter.mpr ⟨List.mem_of_getElem? (i := 99) (by decide +kernel), rfl⟩
theorem w_100 : Cond.selects RX9 yX9_isSoon yX9_isSoon ∈ lw_ok := List.mem_filter.mpr ⟨List.mem_of_getElem? (i := 100) (by decide +kernel), rfl⟩
theorem w_101 : Cond.selects RX9 yX9_weightOf yX9_weightOf ∈ lw_ok := List.mem_filter.mpr ⟨List.mem_of_getElem? (i := 101) (by decide +kernel), rfl⟩
theorem w_102 : Cond.selects RX9 yX9_draws yX9_draws ∈ lw_ok := List.mem_filter.mpr ⟨List.mem_of_getElem? (i := 102) (by decide +kernel), rfl⟩
theorem w_103 : Cond.selects RX9 yX9_does yX9_does ∈ lw_ok := List.mem_filter.mpr ⟨List.mem_of_getElem? (i := 103) (by decide +kernel), rfl⟩
theorem w_104 : Cond.initialized "LeakyLineLaw" ∈ lw_ok := List.mem_filter.mpr ⟨List.mem_of_getElem? (i := 104) (by decide +kernel), rfl⟩
theorem w_105 : Cond.initialized RX8 ∈ lw_ok := List.mem_filter.mpr ⟨List.mem_of_getElem? (i := 105) (by decide +kernel), rfl⟩
theorem w_106 : Cond.initialized RX5 ∈ lw_ok := List.mem_filter.mpr ⟨List.mem_of_getElem? (i := 106) (by decide +kernel), rfl⟩
theorem w_107 : Cond.initialized RX7 ∈ lw_ok := List.mem_filter.mpr ⟨List.mem_of_getElem? (i := 107) (by decide +kernel), rfl⟩
theorem w_108 : Cond.initialized RX6 ∈ lw_ok := List.mem_filter.mpr ⟨List.mem_of_getElem? (i := 108) (by decide +kernel), rfl⟩
theorem w_109 : Cond.initialized RX2 ∈ lw_ok := List.mem_filter.mpr ⟨List.mem_of_getElem? (i := 109) (by decide +kernel), rfl⟩
theorem w_110 : Cond.initialized RX3 ∈ lw_ok := List.mem_filter.mpr ⟨List.mem_of_getElem? (i := 110) (by decide +kernel), rfl⟩
theorem w_111 : Cond.initialized RX4 ∈ lw_ok := List.mem_filter.mpr ⟨List.mem_of_getElem? (i := 111) (by decide +kernel), rfl⟩
theorem w_112 : Cond.initialized RX1 ∈ lw_ok := List.mem_filter.mpr ⟨List.mem_of_getElem? (i := 112) (by decide +kernel), rfl⟩
theorem w_113 : Cond.initialized RX0 ∈ lw_ok := List.mem_filter.mpr ⟨List.mem_of_getElem? (i := 113) (by decide +kernel), rfl⟩
theorem w_114 : Cond.initialized RX9 ∈ lw_ok := List.mem_filter.mpr ⟨List.mem_of_getElem? (i := 114) (by decide +kernel), rfl⟩
theorem w_115 : Cond.initialized RJ0 ∈ lw_ok := List.mem_filter.mpr ⟨List.mem_of_getElem? (i := 115) (by decide +kernel), rfl⟩
theorem w_116 : Cond.initialized RJ1 ∈ lw_ok := List.mem_filter.mpr ⟨List.mem_of_getElem? (i := 116) (by decide +kernel), rfl⟩
theorem w_117 : Cond.initialized RJ3 ∈ lw_ok := List.mem_filter.mpr ⟨List.mem_of_getElem? (i := 117) (by decide +kernel), rfl⟩
theorem w_118 : Cond.initialized RJ2 ∈ lw_ok := List.mem_filter.mpr ⟨List.mem_of_getElem? (i := 118) (by decide +kernel), rfl⟩
theorem w_119 : Cond.initialized RJ9 ∈ lw_ok := List.mem_filter.mpr ⟨List.mem_of_getElem? (i := 119) (by decide +kernel), rfl⟩
theorem w_120 : Cond.initialized RJ7 ∈ lw_ok := List.mem_filter.mpr ⟨List.mem_of_getElem? (i := 120) (by decide +kernel), rfl⟩
theorem w_121 : Cond.initialized RJ10 ∈ lw_ok := List.mem_filter.mpr ⟨List.mem_of_getElem? (i := 121) (by decide +kernel), rfl⟩
theorem w_122 : Cond.initialized RJ6 ∈ lw_ok := List.mem_filter.mpr ⟨List.mem_of_getElem? (i := 122) (by decide +kernel), rfl⟩
theorem w_123 : Cond.classLink "LeakyLineLaw" 7 RX8 ∈ lw_ok := List.mem_filter.mpr ⟨List.mem_of_getElem? (i := 123) (by decide +kernel), rfl⟩
theorem w_124 : Cond.instantiable RX8 16 ∈ lw_ok := List.mem_filter.mpr ⟨List.mem_of_getElem? (i := 124) (by decide +kernel), rfl⟩
theorem w_125 : Cond.methodLink "LeakyLineLaw" 9 yX8_init ∈ lw_ok := List.mem_filter.mpr ⟨List.mem_of_getElem? (i := 125) (by decide +kernel), rfl⟩
theorem w_126 : Cond.instanceMethod yX8_init ∈ lw_ok := List.mem_filter.mpr ⟨List.mem_of_getElem? (i := 126) (by decide +kernel), rfl⟩
theorem w_127 : Cond.code yX8_init cX8_init 1 none ∈ lw_ok := List.mem_filter.mpr ⟨List.mem_of_getElem? (i := 127) (by decide +kernel), rfl⟩
theorem w_128 : Cond.methodLink RX8 1 objectInit ∈ lw_ok := List.mem_filter.mpr ⟨List.mem_of_getElem? (i := 128) (by decide +kernel), rfl⟩
theorem w_129 : Cond.instanceMethod objectInit ∈ lw_ok := List.mem_filter.mpr ⟨List.mem_of_getElem? (i := 129) (by decide +kernel), rfl⟩
theorem w_130 : Cond.code objectInit ⟨#[0xb1]⟩ 1 none ∈ lw_ok := List.mem_filter.mpr ⟨List.mem_of_getElem? (i := 130) (by decide +kernel), rfl⟩
theorem w_131 : Cond.classLink RX8 7 RX5 ∈ lw_ok := List.mem_filter.mpr ⟨List.mem_of_getElem? (i := 131) (by decide +kernel), rfl⟩
theorem w_132 : Cond.instantiable RX5 2 ∈ lw_ok := List.mem_filter.mpr ⟨List.mem_of_getElem? (i := 132) (by decide +kernel), rfl⟩
theorem w_134 : Cond.instanceMethod yX5_init ∈ lw_ok := List.mem_filter.mpr ⟨List.mem_of_getElem? (i := 134) (by decide +kernel), rfl⟩
theorem w_135 : Cond.code yX5_init cX5_init 1 none ∈ lw_ok := List.mem_filter.mpr ⟨List.mem_of_getElem? (i := 135) (by decide +kernel), rfl⟩
theorem w_136 : Cond.methodLink RX5 3 objectInit ∈ lw_ok := List.mem_filter.mpr ⟨List.mem_of_getElem? (i := 136) (by decide +kernel), rfl⟩
theorem w_137 : Cond.fieldLink RX5 9 "LeakyLine$Tape" "bytes" "[B" ∈ lw_ok := List.mem_filter.mpr ⟨List.mem_of_getElem? (i := 137) (by decide +kernel), rfl⟩
theorem w_138 : Cond.fieldLink RX5 15 "LeakyLine$Tape" "length" "I" ∈ lw_ok := List.mem_filter.mpr ⟨List.mem_of_getElem? (i := 138) (by decide +kernel), rfl⟩
theorem w_139 : Cond.fieldLink RX8 93 "LeakyLine$Tape" "length" "I" ∈ lw_ok := List.mem_filter.mpr ⟨List.mem_of_getElem? (i := 139) (by decide +kernel), rfl⟩
theorem w_140 : Cond.fieldLink RX7 25 "LeakyLine$Tape" "length" "I" ∈ lw_ok := List.mem_filter.mpr ⟨List.mem_of_getElem? (i := 140) (by decide +kernel), rfl⟩
theorem w_146 : Cond.arrayClass (.byte) ∈ lw_ok := List.mem_filter.mpr ⟨List.mem_of_getElem? (i := 146) (by decide +kernel), rfl⟩
theorem w_147 : Cond.classLink RX8 16 RX7 ∈ lw_ok := List.mem_filter.mpr ⟨List.mem_of_getElem? (i := 147) (by decide +kernel), rfl⟩
theorem w_148 : Cond.instantiable RX7 4 ∈ lw_ok := List.mem_filter.mpr ⟨List.mem_of_getElem? (i := 148) (by decide +kernel), rfl⟩
theorem w_150 : Cond.instanceMethod yX7_init ∈ lw_ok := List.mem_filter.mpr ⟨List.mem_of_getElem? (i := 150) (by decide +kernel), rfl⟩
theorem w_151 : Cond.code yX7_init cX7_init 1 none ∈ lw_ok := List.mem_filter.mpr ⟨List.mem_of_getElem? (i := 151) (by decide +kernel), rfl⟩
theorem w_152 : Cond.methodLink RX7 3 objectInit ∈ lw_ok := List.mem_filter.mpr ⟨List.mem_of_getElem? (i := 152) (by decide +kernel), rfl⟩
theorem w_153 : Cond.fieldLink RX7 9 "LeakyLine$Tokens" "kinds" "[I" ∈ lw_ok := List.mem_filter.mpr ⟨List.mem_of_getElem? (i := 153) (by decide +kernel), rfl⟩
theorem w_154 : Cond.fieldLink RX6 104 "LeakyLine$Tokens" "kinds" "[I" ∈ lw_ok := List.mem_filter.mpr ⟨List.mem_of_getElem? (i := 154) (by decide +kernel), rfl⟩
theorem w_155 : Cond.fieldLink RX7 15 "LeakyLine$Tokens" "places" "[I" ∈ lw_ok := List.mem_filter.mpr ⟨List.mem_of_getElem? (i := 155) (by decide +kernel), rfl⟩
theorem w_156 : Cond.fieldLink RX6 107 "LeakyLine$Tokens" "places" "[I" ∈ lw_ok := List.mem_filter.mpr ⟨List.mem_of_getElem? (i := 156) (by decide +kernel), rfl⟩
theorem w_157 : Cond.fieldLink RX7 18 "LeakyLine$Tokens" "values" "[I" ∈ lw_ok := List.mem_filter.mpr ⟨List.mem_of_getElem? (i := 157) (by decide +kernel), rfl⟩
theorem w_158 : Cond.fieldLink RX6 110 "LeakyLine$Tokens" "values" "[I" ∈ lw_ok := List.mem_filter.mpr ⟨List.mem_of_getElem? (i := 158) (by decide +kernel), rfl⟩
theorem w_159 : Cond.fieldLink RX7 21 "LeakyLine$Tokens" "size" "I" ∈ lw_ok := List.mem_filter.mpr ⟨List.mem_of_getElem? (i := 159) (by decide +kernel), rfl⟩
theorem w_160 : Cond.fieldLink RX6 34 "LeakyLine$Tokens" "size" "I" ∈ lw_ok := List.mem_filter.mpr ⟨List.mem_of_getElem? (i := 160) (by decide +kernel), rfl⟩
theorem w_170 : Cond.arrayClass (.int) ∈ lw_ok := List.mem_filter.mpr ⟨List.mem_of_getElem? (i := 170) (by decide +kernel), rfl⟩
theorem w_171 : Cond.classLink RX8 23 RX6 ∈ lw_ok := List.mem_filter.mpr ⟨List.mem_of_getElem? (i := 171) (by decide +kernel), rfl⟩
theorem w_172 : Cond.instantiable RX6 5 ∈ lw_ok := List.mem_filter.mpr ⟨List.mem_of_getElem? (i := 172) (by decide +kernel), rfl⟩
theorem w_174 : Cond.instanceMethod yX6_init ∈ lw_ok := List.mem_filter.mpr ⟨List.mem_of_getElem? (i := 174) (by decide +kernel), rfl⟩
theorem w_175 : Cond.code yX6_init cX6_init 1 none ∈ lw_ok := List.mem_filter.mpr ⟨List.mem_of_getElem? (i := 175) (by decide +kernel), rfl⟩
theorem w_176 : Cond.methodLink RX6 3 objectInit ∈ lw_ok := List.mem_filter.mpr ⟨List.mem_of_getElem? (i := 176) (by decide +kernel), rfl⟩
theorem w_177 : Cond.fieldLink RX6 9 "LeakyLine$Teller" "fault" "I" ∈ lw_ok := List.mem_filter.mpr ⟨List.mem_of_getElem? (i := 177) (by decide +kernel), rfl⟩
theorem w_178 : Cond.fieldLink RX8 108 "LeakyLine$Teller" "fault" "I" ∈ lw_ok := List.mem_filter.mpr ⟨List.mem_of_getElem? (i := 178) (by decide +kernel), rfl⟩
theorem w_179 : Cond.fieldLink RX6 15 "LeakyLine$Teller" "place" "I" ∈ lw_ok := List.mem_filter.mpr ⟨List.mem_of_getElem? (i := 179) (by decide +kernel), rfl⟩
theorem w_180 : Cond.fieldLink RX8 111 "LeakyLine$Teller" "place" "I" ∈ lw_ok := List.mem_filter.mpr ⟨List.mem_of_getElem? (i := 180) (by decide +kernel), rfl⟩
theorem w_181 : Cond.fieldLink RX6 18 "LeakyLine$Teller" "next" "I" ∈ lw_ok := List.mem_filter.mpr ⟨List.mem_of_getElem? (i := 181) (by decide +kernel), rfl⟩
theorem w_182 : Cond.fieldLink RX6 23 "LeakyLine$Teller" "kind" "I" ∈ lw_ok := List.mem_filter.mpr ⟨List.mem_of_getElem? (i := 182) (by decide +kernel), rfl⟩
theorem w_183 : Cond.fieldLink RX6 26 "LeakyLine$Teller" "value" "I" ∈ lw_ok := List.mem_filter.mpr ⟨List.mem_of_getElem? (i := 183) (by decide +kernel), rfl⟩
theorem w_195 : Cond.classLink RX8 30 RX2 ∈ lw_ok := List.mem_filter.mpr ⟨List.mem_of_getElem? (i := 195) (by decide +kernel), rfl⟩
theorem w_196 : Cond.instantiable RX2 17 ∈ lw_ok := List.mem_filter.mpr ⟨List.mem_of_getElem? (i := 196) (by decide +kernel), rfl⟩
theorem w_198 : Cond.instanceMethod yX2_init ∈ lw_ok := List.mem_filter.mpr ⟨List.mem_of_getElem? (i := 198) (by decide +kernel), rfl⟩
theorem w_199 : Cond.code yX2_init cX2_init 1 none ∈ lw_ok := List.mem_filter.mpr ⟨List.mem_of_getElem? (i := 199) (by decide +kernel), rfl⟩
theorem w_200 : Cond.methodLink RX2 3 objectInit ∈ lw_ok := List.mem_filter.mpr ⟨List.mem_of_getElem? (i := 200) (by decide +kernel), rfl⟩
theorem w_201 : Cond.fieldLink RX2 9 "LeakyLine$Line" "lines" "I" ∈ lw_ok := List.mem_filter.mpr ⟨List.mem_of_getElem? (i := 201) (by decide +kernel), rfl⟩
theorem w_202 : Cond.fieldLink RX6 45 "LeakyLine$Line" "lines" "I" ∈ lw_ok := List.mem_filter.mpr ⟨List.mem_of_getElem? (i := 202) (by decide +kernel), rfl⟩
theorem w_203 : Cond.fieldLink RX8 118 "LeakyLine$Line" "lines" "I" ∈ lw_ok := List.mem_filter.mpr ⟨List.mem_of_getElem? (i := 203) (by decide +kernel), rfl⟩
theorem w_204 : Cond.fieldLink RX2 15 "LeakyLine$Line" "days" "I" ∈ lw_ok := List.mem_filter.mpr ⟨List.mem_of_getElem? (i := 204) (by decide +kernel), rfl⟩
theorem w_205 : Cond.fieldLink RX6 65 "LeakyLine$Line" "days" "I" ∈ lw_ok := List.mem_filter.mpr ⟨List.mem_of_getElem? (i := 205) (by decide +kernel), rfl⟩
theorem w_206 : Cond.fieldLink RX8 242 "LeakyLine$Line" "days" "I" ∈ lw_ok := List.mem_filter.mpr ⟨List.mem_of_getElem? (i := 206) (by decide +kernel), rfl⟩
theorem w_207 : Cond.fieldLink RX2 18 "LeakyLine$Line" "law" "I" ∈ lw_ok := List.mem_filter.mpr ⟨List.mem_of_getElem? (i := 207) (by decide +kernel), rfl⟩
theorem w_208 : Cond.fieldLink RX4 31 "LeakyLine$Line" "law" "I" ∈ lw_ok := List.mem_filter.mpr ⟨List.mem_of_getElem? (i := 208) (by decide +kernel), rfl⟩
theorem w_209 : Cond.fieldLink RX6 68 "LeakyLine$Line" "law" "I" ∈ lw_ok := List.mem_filter.mpr ⟨List.mem_of_getElem? (i := 209) (by decide +kernel), rfl⟩
theorem w_210 : Cond.fieldLink RX8 354 "LeakyLine$Line" "law" "I" ∈ lw_ok := List.mem_filter.mpr ⟨List.mem_of_getElem? (i := 210) (by decide +kernel), rfl⟩
theorem w_211 : Cond.fieldLink RX2 21 "LeakyLine$Line" "odds" "I" ∈ lw_ok := List.mem_filter.mpr ⟨List.mem_of_getElem? (i := 211) (by decide +kernel), rfl⟩
theorem w_212 : Cond.fieldLink RX6 71 "LeakyLine$Line" "odds" "I" ∈ lw_ok := List.mem_filter.mpr ⟨List.mem_of_getElem? (i := 212) (by decide +kernel), rfl⟩
theorem w_213 : Cond.fieldLink RX8 355 "LeakyLine$Line" "odds" "I" ∈ lw_ok := List.mem_filter.mpr ⟨List.mem_of_getElem? (i := 213) (by decide +kernel), rfl⟩
theorem w_214 : Cond.fieldLink RX2 24 "LeakyLine$Line" "volts" "I" ∈ lw_ok := List.mem_filter.mpr ⟨List.mem_of_getElem? (i := 214) (by decide +kernel), rfl⟩
theorem w_215 : Cond.fieldLink RX6 74 "LeakyLine$Line" "volts" "I" ∈ lw_ok := List.mem_filter.mpr ⟨List.mem_of_getElem? (i := 215) (by decide +kernel), rfl⟩
theorem w_216 : Cond.fieldLink RX8 175 "LeakyLine$Line" "volts" "I" ∈ lw_ok := List.mem_filter.mpr ⟨List.mem_of_getElem? (i := 216) (by decide +kernel), rfl⟩
theorem w_217 : Cond.fieldLink RX2 27 "LeakyLine$Line" "spans" "I" ∈ lw_ok := List.mem_filter.mpr ⟨List.mem_of_getElem? (i := 217) (by decide +kernel), rfl⟩
theorem w_218 : Cond.fieldLink RX1 36 "LeakyLine$Line" "spans" "I" ∈ lw_ok := List.mem_filter.mpr ⟨List.mem_of_getElem? (i := 218) (by decide +kernel), rfl⟩
theorem w_219 : Cond.fieldLink RX4 67 "LeakyLine$Line" "spans" "I" ∈ lw_ok := List.mem_filter.mpr ⟨List.mem_of_getElem? (i := 219) (by decide +kernel), rfl⟩
theorem w_220 : Cond.fieldLink RX6 81 "LeakyLine$Line" "spans" "I" ∈ lw_ok := List.mem_filter.mpr ⟨List.mem_of_getElem? (i := 220) (by decide +kernel), rfl⟩
theorem w_221 : Cond.fieldLink RX8 210 "LeakyLine$Line" "spans" "I" ∈ lw_ok := List.mem_filter.mpr ⟨List.mem_of_getElem? (i := 221) (by decide +kernel), rfl⟩
theorem w_222 : Cond.fieldLink RX2 30 "LeakyLine$Line" "wetLines" "I" ∈ lw_ok := List.mem_filter.mpr ⟨List.mem_of_getElem? (i := 222) (by decide +kernel), rfl⟩
theorem w_223 : Cond.fieldLink RX6 98 "LeakyLine$Line" "wetLines" "I" ∈ lw_ok := List.mem_filter.mpr ⟨List.mem_of_getElem? (i := 223) (by decide +kernel), rfl⟩
theorem w_224 : Cond.fieldLink RX8 358 "LeakyLine$Line" "wetLines" "I" ∈ lw_ok := List.mem_filter.mpr ⟨List.mem_of_getElem? (i := 224) (by decide +kernel), rfl⟩
theorem w_225 : Cond.fieldLink RX2 33 "LeakyLine$Line" "wet" "I" ∈ lw_ok := List.mem_filter.mpr ⟨List.mem_of_getElem? (i := 225) (by decide +kernel), rfl⟩
theorem w_226 : Cond.fieldLink RX4 34 "LeakyLine$Line" "wet" "I" ∈ lw_ok := List.mem_filter.mpr ⟨List.mem_of_getElem? (i := 226) (by decide +kernel), rfl⟩
theorem w_227 : Cond.fieldLink RX6 101 "LeakyLine$Line" "wet" "I" ∈ lw_ok := List.mem_filter.mpr ⟨List.mem_of_getElem? (i := 227) (by decide +kernel), rfl⟩
theorem w_228 : Cond.fieldLink RX8 142 "LeakyLine$Line" "wet" "I" ∈ lw_ok := List.mem_filter.mpr ⟨List.mem_of_getElem? (i := 228) (by decide +kernel), rfl⟩
theorem w_229 : Cond.fieldLink RX2 36 "LeakyLine$Line" "acts" "I" ∈ lw_ok := List.mem_filter.mpr ⟨List.mem_of_getElem? (i := 229) (by decide +kernel), rfl⟩
theorem w_230 : Cond.fieldLink RX8 335 "LeakyLine$Line" "acts" "I" ∈ lw_ok := List.mem_filter.mpr ⟨List.mem_of_getElem? (i := 230) (by decide +kernel), rfl⟩
theorem w_231 : Cond.fieldLink RX2 39 "LeakyLine$Line" "ohms" "[I" ∈ lw_ok := List.mem_filter.mpr ⟨List.mem_of_getElem? (i := 231) (by decide +kernel), rfl⟩
theorem w_232 : Cond.fieldLink RX4 35 "LeakyLine$Line" "ohms" "[I" ∈ lw_ok := List.mem_filter.mpr ⟨List.mem_of_getElem? (i := 232) (by decide +kernel), rfl⟩
theorem w_233 : Cond.fieldLink RX6 88 "LeakyLine$Line" "ohms" "[I" ∈ lw_ok := List.mem_filter.mpr ⟨List.mem_of_getElem? (i := 233) (by decide +kernel), rfl⟩
theorem w_234 : Cond.fieldLink RX8 125 "LeakyLine$Line" "ohms" "[I" ∈ lw_ok := List.mem_filter.mpr ⟨List.mem_of_getElem? (i := 234) (by decide +kernel), rfl⟩
theorem w_235 : Cond.fieldLink RX2 43 "LeakyLine$Line" "leaks" "[I" ∈ lw_ok := List.mem_filter.mpr ⟨List.mem_of_getElem? (i := 235) (by decide +kernel), rfl⟩
theorem w_236 : Cond.fieldLink RX4 42 "LeakyLine$Line" "leaks" "[I" ∈ lw_ok := List.mem_filter.mpr ⟨List.mem_of_getElem? (i := 236) (by decide +kernel), rfl⟩
theorem w_237 : Cond.fieldLink RX6 92 "LeakyLine$Line" "leaks" "[I" ∈ lw_ok := List.mem_filter.mpr ⟨List.mem_of_getElem? (i := 237) (by decide +kernel), rfl⟩
theorem w_238 : Cond.fieldLink RX8 128 "LeakyLine$Line" "leaks" "[I" ∈ lw_ok := List.mem_filter.mpr ⟨List.mem_of_getElem? (i := 238) (by decide +kernel), rfl⟩
theorem w_239 : Cond.fieldLink RX2 46 "LeakyLine$Line" "needs" "[I" ∈ lw_ok := List.mem_filter.mpr ⟨List.mem_of_getElem? (i := 239) (by decide +kernel), rfl⟩
theorem w_240 : Cond.fieldLink RX6 95 "LeakyLine$Line" "needs" "[I" ∈ lw_ok := List.mem_filter.mpr ⟨List.mem_of_getElem? (i := 240) (by decide +kernel), rfl⟩
theorem w_241 : Cond.fieldLink RX8 131 "LeakyLine$Line" "needs" "[I" ∈ lw_ok := List.mem_filter.mpr ⟨List.mem_of_getElem? (i := 241) (by decide +kernel), rfl⟩
theorem w_242 : Cond.fieldLink RX2 49 "LeakyLine$Line" "kinds" "[I" ∈ lw_ok := List.mem_filter.mpr ⟨List.mem_of_getElem? (i := 242) (by decide +kernel), rfl⟩
theorem w_243 : Cond.fieldLink RX2 52 "LeakyLine$Line" "places" "[I" ∈ lw_ok := List.mem_filter.mpr ⟨List.mem_of_getElem? (i := 243) (by decide +kernel), rfl⟩
theorem w_244 : Cond.fieldLink RX2 55 "LeakyLine$Line" "actDays" "[I" ∈ lw_ok := List.mem_filter.mpr ⟨List.mem_of_getElem? (i := 244) (by decide +kernel), rfl⟩
theorem w_245 : Cond.fieldLink RX2 58 "LeakyLine$Line" "cupDays" "[I" ∈ lw_ok := List.mem_filter.mpr ⟨List.mem_of_getElem? (i := 245) (by decide +kernel), rfl⟩
theorem w_246 : Cond.fieldLink RX2 61 "LeakyLine$Line" "snapDays" "[I" ∈ lw_ok := List.mem_filter.mpr ⟨List.mem_of_getElem? (i := 246) (by decide +kernel), rfl⟩
theorem w_283 : Cond.classLink RX8 44 RX3 ∈ lw_ok := List.mem_filter.mpr ⟨List.mem_of_getElem? (i := 283) (by decide +kernel), rfl⟩
theorem w_284 : Cond.instantiable RX3 3 ∈ lw_ok := List.mem_filter.mpr ⟨List.mem_of_getElem? (i := 284) (by decide +kernel), rfl⟩
theorem w_286 : Cond.instanceMethod yX3_init ∈ lw_ok := List.mem_filter.mpr ⟨List.mem_of_getElem? (i := 286) (by decide +kernel), rfl⟩
theorem w_287 : Cond.code yX3_init cX3_init 1 none ∈ lw_ok := List.mem_filter.mpr ⟨List.mem_of_getElem? (i := 287) (by decide +kernel), rfl⟩
theorem w_288 : Cond.methodLink RX3 3 objectInit ∈ lw_ok := List.mem_filter.mpr ⟨List.mem_of_getElem? (i := 288) (by decide +kernel), rfl⟩
theorem w_289 : Cond.fieldLink RX3 9 "LeakyLine$Slots" "numbers" "[J" ∈ lw_ok := List.mem_filter.mpr ⟨List.mem_of_getElem? (i := 289) (by decide +kernel), rfl⟩
theorem w_290 : Cond.fieldLink RX3 15 "LeakyLine$Slots" "widths" "[I" ∈ lw_ok := List.mem_filter.mpr ⟨List.mem_of_getElem? (i := 290) (by decide +kernel), rfl⟩
theorem w_291 : Cond.fieldLink RX8 380 "LeakyLine$Slots" "widths" "[I" ∈ lw_ok := List.mem_filter.mpr ⟨List.mem_of_getElem? (i := 291) (by decide +kernel), rfl⟩
theorem w_292 : Cond.fieldLink RX3 19 "LeakyLine$Slots" "sizes" "[I" ∈ lw_ok := List.mem_filter.mpr ⟨List.mem_of_getElem? (i := 292) (by decide +kernel), rfl⟩
theorem w_293 : Cond.fieldLink RX8 373 "LeakyLine$Slots" "sizes" "[I" ∈ lw_ok := List.mem_filter.mpr ⟨List.mem_of_getElem? (i := 293) (by decide +kernel), rfl⟩
theorem w_301 : Cond.arrayClass (.long) ∈ lw_ok := List.mem_filter.mpr ⟨List.mem_of_getElem? (i := 301) (by decide +kernel), rfl⟩
theorem w_302 : Cond.classLink RX8 51 RX4 ∈ lw_ok := List.mem_filter.mpr ⟨List.mem_of_getElem? (i := 302) (by decide +kernel), rfl⟩
theorem w_303 : Cond.instantiable RX4 6 ∈ lw_ok := List.mem_filter.mpr ⟨List.mem_of_getElem? (i := 303) (by decide +kernel), rfl⟩
theorem w_305 : Cond.instanceMethod yX4_init ∈ lw_ok := List.mem_filter.mpr ⟨List.mem_of_getElem? (i := 305) (by decide +kernel), rfl⟩
theorem w_306 : Cond.code yX4_init cX4_init 1 none ∈ lw_ok := List.mem_filter.mpr ⟨List.mem_of_getElem? (i := 306) (by decide +kernel), rfl⟩
theorem w_307 : Cond.methodLink RX4 3 objectInit ∈ lw_ok := List.mem_filter.mpr ⟨List.mem_of_getElem? (i := 307) (by decide +kernel), rfl⟩
theorem w_308 : Cond.fieldLink RX4 9 "LeakyLine$Supposed" "law" "I" ∈ lw_ok := List.mem_filter.mpr ⟨List.mem_of_getElem? (i := 308) (by decide +kernel), rfl⟩
theorem w_309 : Cond.fieldLink RX8 308 "LeakyLine$Supposed" "law" "I" ∈ lw_ok := List.mem_filter.mpr ⟨List.mem_of_getElem? (i := 309) (by decide +kernel), rfl⟩
theorem w_310 : Cond.fieldLink RX4 15 "LeakyLine$Supposed" "wet" "I" ∈ lw_ok := List.mem_filter.mpr ⟨List.mem_of_getElem? (i := 310) (by decide +kernel), rfl⟩
theorem w_311 : Cond.fieldLink RX8 248 "LeakyLine$Supposed" "wet" "I" ∈ lw_ok := List.mem_filter.mpr ⟨List.mem_of_getElem? (i := 311) (by decide +kernel), rfl⟩
theorem w_312 : Cond.fieldLink RX4 18 "LeakyLine$Supposed" "cupSet" "I" ∈ lw_ok := List.mem_filter.mpr ⟨List.mem_of_getElem? (i := 312) (by decide +kernel), rfl⟩
theorem w_313 : Cond.fieldLink RX8 409 "LeakyLine$Supposed" "cupSet" "I" ∈ lw_ok := List.mem_filter.mpr ⟨List.mem_of_getElem? (i := 313) (by decide +kernel), rfl⟩
theorem w_314 : Cond.fieldLink RX4 21 "LeakyLine$Supposed" "broken" "I" ∈ lw_ok := List.mem_filter.mpr ⟨List.mem_of_getElem? (i := 314) (by decide +kernel), rfl⟩
theorem w_315 : Cond.fieldLink RX8 263 "LeakyLine$Supposed" "broken" "I" ∈ lw_ok := List.mem_filter.mpr ⟨List.mem_of_getElem? (i := 315) (by decide +kernel), rfl⟩
theorem w_316 : Cond.fieldLink RX4 24 "LeakyLine$Supposed" "ohms" "[I" ∈ lw_ok := List.mem_filter.mpr ⟨List.mem_of_getElem? (i := 316) (by decide +kernel), rfl⟩
theorem w_317 : Cond.fieldLink RX1 51 "LeakyLine$Supposed" "ohms" "[I" ∈ lw_ok := List.mem_filter.mpr ⟨List.mem_of_getElem? (i := 317) (by decide +kernel), rfl⟩
theorem w_318 : Cond.fieldLink RX8 288 "LeakyLine$Supposed" "ohms" "[I" ∈ lw_ok := List.mem_filter.mpr ⟨List.mem_of_getElem? (i := 318) (by decide +kernel), rfl⟩
theorem w_319 : Cond.fieldLink RX4 28 "LeakyLine$Supposed" "leaks" "[I" ∈ lw_ok := List.mem_filter.mpr ⟨List.mem_of_getElem? (i := 319) (by decide +kernel), rfl⟩
theorem w_320 : Cond.fieldLink RX8 426 "LeakyLine$Supposed" "leaks" "[I" ∈ lw_ok := List.mem_filter.mpr ⟨List.mem_of_getElem? (i := 320) (by decide +kernel), rfl⟩
theorem w_334 : Cond.classLink RX8 58 RX1 ∈ lw_ok := List.mem_filter.mpr ⟨List.mem_of_getElem? (i := 334) (by decide +kernel), rfl⟩
theorem w_335 : Cond.instantiable RX1 5 ∈ lw_ok := List.mem_filter.mpr ⟨List.mem_of_getElem? (i := 335) (by decide +kernel), rfl⟩
theorem w_337 : Cond.instanceMethod yX1_init ∈ lw_ok := List.mem_filter.mpr ⟨List.mem_of_getElem? (i := 337) (by decide +kernel), rfl⟩
theorem w_338 : Cond.code yX1_init cX1_init 1 none ∈ lw_ok := List.mem_filter.mpr ⟨List.mem_of_getElem? (i := 338) (by decide +kernel), rfl⟩
theorem w_339 : Cond.methodLink RX1 3 objectInit ∈ lw_ok := List.mem_filter.mpr ⟨List.mem_of_getElem? (i := 339) (by decide +kernel), rfl⟩
theorem w_340 : Cond.fieldLink RX1 9 "LeakyLine$Ladder" "lead" "I" ∈ lw_ok := List.mem_filter.mpr ⟨List.mem_of_getElem? (i := 340) (by decide +kernel), rfl⟩
theorem w_341 : Cond.fieldLink RX8 200 "LeakyLine$Ladder" "lead" "I" ∈ lw_ok := List.mem_filter.mpr ⟨List.mem_of_getElem? (i := 341) (by decide +kernel), rfl⟩
theorem w_342 : Cond.fieldLink RX1 15 "LeakyLine$Ladder" "source" "J" ∈ lw_ok := List.mem_filter.mpr ⟨List.mem_of_getElem? (i := 342) (by decide +kernel), rfl⟩
theorem w_343 : Cond.fieldLink RX8 182 "LeakyLine$Ladder" "source" "J" ∈ lw_ok := List.mem_filter.mpr ⟨List.mem_of_getElem? (i := 343) (by decide +kernel), rfl⟩
theorem w_344 : Cond.fieldLink RX1 19 "LeakyLine$Ladder" "leaks" "[I" ∈ lw_ok := List.mem_filter.mpr ⟨List.mem_of_getElem? (i := 344) (by decide +kernel), rfl⟩
theorem w_345 : Cond.fieldLink RX8 199 "LeakyLine$Ladder" "leaks" "[I" ∈ lw_ok := List.mem_filter.mpr ⟨List.mem_of_getElem? (i := 345) (by decide +kernel), rfl⟩
theorem w_346 : Cond.fieldLink RX1 23 "LeakyLine$Ladder" "volts" "[J" ∈ lw_ok := List.mem_filter.mpr ⟨List.mem_of_getElem? (i := 346) (by decide +kernel), rfl⟩
theorem w_347 : Cond.fieldLink RX8 190 "LeakyLine$Ladder" "volts" "[J" ∈ lw_ok := List.mem_filter.mpr ⟨List.mem_of_getElem? (i := 347) (by decide +kernel), rfl⟩
theorem w_348 : Cond.fieldLink RX1 27 "LeakyLine$Ladder" "amps" "[J" ∈ lw_ok := List.mem_filter.mpr ⟨List.mem_of_getElem? (i := 348) (by decide +kernel), rfl⟩
theorem w_360 : Cond.classLink RX8 65 RX0 ∈ lw_ok := List.mem_filter.mpr ⟨List.mem_of_getElem? (i := 360) (by decide +kernel), rfl⟩
theorem w_361 : Cond.instantiable RX0 2 ∈ lw_ok := List.mem_filter.mpr ⟨List.mem_of_getElem? (i := 361) (by decide +kernel), rfl⟩
theorem w_363 : Cond.instanceMethod yX0_init ∈ lw_ok := List.mem_filter.mpr ⟨List.mem_of_getElem? (i := 363) (by decide +kernel), rfl⟩
theorem w_364 : Cond.code yX0_init cX0_init 1 none ∈ lw_ok := List.mem_filter.mpr ⟨List.mem_of_getElem? (i := 364) (by decide +kernel), rfl⟩
theorem w_365 : Cond.methodLink RX0 3 objectInit ∈ lw_ok := List.mem_filter.mpr ⟨List.mem_of_getElem? (i := 365) (by decide +kernel), rfl⟩
theorem w_366 : Cond.fieldLink RX0 9 "LeakyLine$Fraction" "above" "J" ∈ lw_ok := List.mem_filter.mpr ⟨List.mem_of_getElem? (i := 366) (by decide +kernel), rfl⟩
theorem w_367 : Cond.fieldLink RX8 420 "LeakyLine$Fraction" "above" "J" ∈ lw_ok := List.mem_filter.mpr ⟨List.mem_of_getElem? (i := 367) (by decide +kernel), rfl⟩
theorem w_368 : Cond.fieldLink RX0 15 "LeakyLine$Fraction" "below" "J" ∈ lw_ok := List.mem_filter.mpr ⟨List.mem_of_getElem? (i := 368) (by decide +kernel), rfl⟩
theorem w_369 : Cond.fieldLink RX8 423 "LeakyLine$Fraction" "below" "J" ∈ lw_ok := List.mem_filter.mpr ⟨List.mem_of_getElem? (i := 369) (by decide +kernel), rfl⟩
theorem w_375 : Cond.fieldLink RX8 10 "LeakyLine" "tape" "LLeakyLine$Tape;" ∈ lw_ok := List.mem_filter.mpr ⟨List.mem_of_getElem? (i := 375) (by decide +kernel), rfl⟩
theorem w_376 : Cond.fieldLink RX8 19 "LeakyLine" "tokens" "LLeakyLine$Tokens;" ∈ lw_ok := List.mem_filter.mpr ⟨List.mem_of_getElem? (i := 376) (by decide +kernel), rfl⟩
theorem w_377 : Cond.fieldLink RX8 26 "LeakyLine" "teller" "LLeakyLine$Teller;" ∈ lw_ok := List.mem_filter.mpr ⟨List.mem_of_getElem? (i := 377) (by decide +kernel), rfl⟩
theorem w_378 : Cond.fieldLink RX8 33 "LeakyLine" "line" "LLeakyLine$Line;" ∈ lw_ok := List.mem_filter.mpr ⟨List.mem_of_getElem? (i := 378) (by decide +kernel), rfl⟩
theorem w_379 : Cond.fieldLink RX8 37 "LeakyLine" "drafted" "LLeakyLine$Line;" ∈ lw_ok := List.mem_filter.mpr ⟨List.mem_of_getElem? (i := 379) (by decide +kernel), rfl⟩
theorem w_380 : Cond.fieldLink RX8 40 "LeakyLine" "images" "[LLeakyLine$Line;" ∈ lw_ok := List.mem_filter.mpr ⟨List.mem_of_getElem? (i := 380) (by decide +kernel), rfl⟩
theorem w_381 : Cond.fieldLink RX8 47 "LeakyLine" "slots" "LLeakyLine$Slots;" ∈ lw_ok := List.mem_filter.mpr ⟨List.mem_of_getElem? (i := 381) (by decide +kernel), rfl⟩
theorem w_382 : Cond.fieldLink RX8 54 "LeakyLine" "supposed" "LLeakyLine$Supposed;" ∈ lw_ok := List.mem_filter.mpr ⟨List.mem_of_getElem? (i := 382) (by decide +kernel), rfl⟩
theorem w_383 : Cond.fieldLink RX8 61 "LeakyLine" "ladder" "LLeakyLine$Ladder;" ∈ lw_ok := List.mem_filter.mpr ⟨List.mem_of_getElem? (i := 383) (by decide +kernel), rfl⟩
theorem w_384 : Cond.fieldLink RX8 68 "LeakyLine" "fraction" "LLeakyLine$Fraction;" ∈ lw_ok := List.mem_filter.mpr ⟨List.mem_of_getElem? (i := 384) (by decide +kernel), rfl⟩
theorem w_385 : Cond.fieldLink RX8 72 "LeakyLine" "heardOn" "[I" ∈ lw_ok := List.mem_filter.mpr ⟨List.mem_of_getElem? (i := 385) (by decide +kernel), rfl⟩
theorem w_386 : Cond.fieldLink RX8 76 "LeakyLine" "worths" "[I" ∈ lw_ok := List.mem_filter.mpr ⟨List.mem_of_getElem? (i := 386) (by decide +kernel), rfl⟩
theorem w_387 : Cond.fieldLink RX8 79 "LeakyLine" "readsAbove" "[J" ∈ lw_ok := List.mem_filter.mpr ⟨List.mem_of_getElem? (i := 387) (by decide +kernel), rfl⟩
theorem w_388 : Cond.fieldLink RX8 83 "LeakyLine" "readsBelow" "[J" ∈ lw_ok := List.mem_filter.mpr ⟨List.mem_of_getElem? (i := 388) (by decide +kernel), rfl⟩
theorem w_389 : Cond.fieldLink RX8 86 "LeakyLine" "faultKind" "I" ∈ lw_ok := List.mem_filter.mpr ⟨List.mem_of_getElem? (i := 389) (by decide +kernel), rfl⟩
theorem w_390 : Cond.fieldLink RX8 90 "LeakyLine" "faultPlace" "I" ∈ lw_ok := List.mem_filter.mpr ⟨List.mem_of_getElem? (i := 390) (by decide +kernel), rfl⟩
theorem w_424 : Cond.methodLink "LeakyLineLaw" 13 yX8_feed ∈ lw_ok := List.mem_filter.mpr ⟨List.mem_of_getElem? (i := 424) (by decide +kernel), rfl⟩
theorem w_425 : Cond.instanceMethod yX8_feed ∈ lw_ok := List.mem_filter.mpr ⟨List.mem_of_getElem? (i := 425) (by decide +kernel), rfl⟩
theorem w_426 : Cond.selects RX8 yX8_feed yX8_feed ∈ lw_ok := List.mem_filter.mpr ⟨List.mem_of_getElem? (i := 426) (by decide +kernel), rfl⟩
theorem w_427 : Cond.code yX8_feed cX8_feed 6 (some .int) ∈ lw_ok := List.mem_filter.mpr ⟨List.mem_of_getElem? (i := 427) (by decide +kernel), rfl⟩
theorem w_428 : Cond.methodLink RX8 96 yX5_append ∈ lw_ok := List.mem_filter.mpr ⟨List.mem_of_getElem? (i := 428) (by decide +kernel), rfl⟩
theorem w_429 : Cond.instanceMethod yX5_append ∈ lw_ok := List.mem_filter.mpr ⟨List.mem_of_getElem? (i := 429) (by decide +kernel), rfl⟩
theorem w_430 : Cond.selects RX5 yX5_append yX5_append ∈ lw_ok := List.mem_filter.mpr ⟨List.mem_of_getElem? (i := 430) (by decide +kernel), rfl⟩
theorem w_431 : Cond.code yX5_append cX5_append 3 none ∈ lw_ok := List.mem_filter.mpr ⟨List.mem_of_getElem? (i := 431) (by decide +kernel), rfl⟩
theorem w_432 : Cond.methodLink "LeakyLineLaw" 18 yX8_end ∈ lw_ok := List.mem_filter.mpr ⟨List.mem_of_getElem? (i := 432) (by decide +kernel), rfl⟩
theorem w_433 : Cond.instanceMethod yX8_end ∈ lw_ok := List.mem_filter.mpr ⟨List.mem_of_getElem? (i := 433) (by decide +kernel), rfl⟩
theorem w_434 : Cond.selects RX8 yX8_end yX8_end ∈ lw_ok := List.mem_filter.mpr ⟨List.mem_of_getElem? (i := 434) (by decide +kernel), rfl⟩
theorem w_435 : Cond.code yX8_end cX8_end 2 (some .int) ∈ lw_ok := List.mem_filter.mpr ⟨List.mem_of_getElem? (i := 435) (by decide +kernel), rfl⟩
theorem w_436 : Cond.methodLink "LeakyLineLaw" 23 yX8_wire ∈ lw_ok := List.mem_filter.mpr ⟨List.mem_of_getElem? (i := 436) (by decide +kernel), rfl⟩
theorem w_437 : Cond.instanceMethod yX8_wire ∈ lw_ok := List.mem_filter.mpr ⟨List.mem_of_getElem? (i := 437) (by decide +kernel), rfl⟩
theorem w_438 : Cond.selects RX8 yX8_wire yX8_wire ∈ lw_ok := List.mem_filter.mpr ⟨List.mem_of_getElem? (i := 438) (by decide +kernel), rfl⟩
theorem w_439 : Cond.code yX8_wire cX8_wire 1 (some .int) ∈ lw_ok := List.mem_filter.mpr ⟨List.mem_of_getElem? (i := 439) (by decide +kernel), rfl⟩
theorem w_440 : Cond.methodLink RX8 100 yX7_scan ∈ lw_ok := List.mem_filter.mpr ⟨List.mem_of_getElem? (i := 440) (by decide +kernel), rfl⟩
theorem w_441 : Cond.instanceMethod yX7_scan ∈ lw_ok := List.mem_filter.mpr ⟨List.mem_of_getElem? (i := 441) (by decide +kernel), rfl⟩
theorem w_442 : Cond.selects RX7 yX7_scan yX7_scan ∈ lw_ok := List.mem_filter.mpr ⟨List.mem_of_getElem? (i := 442) (by decide +kernel), rfl⟩
theorem w_443 : Cond.code yX7_scan cX7_scan 5 none ∈ lw_ok := List.mem_filter.mpr ⟨List.mem_of_getElem? (i := 443) (by decide +kernel), rfl⟩
theorem w_444 : Cond.methodLink RX7 30 yX5_at ∈ lw_ok := List.mem_filter.mpr ⟨List.mem_of_getElem? (i := 444) (by decide +kernel), rfl⟩
theorem w_445 : Cond.instanceMethod yX5_at ∈ lw_ok := List.mem_filter.mpr ⟨List.mem_of_getElem? (i := 445) (by decide +kernel), rfl⟩
theorem w_446 : Cond.selects RX5 yX5_at yX5_at ∈ lw_ok := List.mem_filter.mpr ⟨List.mem_of_getElem? (i := 446) (by decide +kernel), rfl⟩
theorem w_447 : Cond.code yX5_at cX5_at 2 (some .int) ∈ lw_ok := List.mem_filter.mpr ⟨List.mem_of_getElem? (i := 447) (by decide +kernel), rfl⟩
theorem w_448 : Cond.methodLink RX7 34 yX7_isLetter ∈ lw_ok := List.mem_filter.mpr ⟨List.mem_of_getElem? (i := 448) (by decide +kernel), rfl⟩
theorem w_449 : Cond.static yX7_isLetter ∈ lw_ok := List.mem_filter.mpr ⟨List.mem_of_getElem? (i := 449) (by decide +kernel), rfl⟩
theorem w_450 : Cond.code yX7_isLetter cX7_isLetter 1 (some .boolean) ∈ lw_ok := List.mem_filter.mpr ⟨List.mem_of_getElem? (i := 450) (by decide +kernel), rfl⟩
theorem w_451 : Cond.methodLink RX7 38 yX7_wordEnd ∈ lw_ok := List.mem_filter.mpr ⟨List.mem_of_getElem? (i := 451) (by decide +kernel), rfl⟩
theorem w_452 : Cond.static yX7_wordEnd ∈ lw_ok := List.mem_filter.mpr ⟨List.mem_of_getElem? (i := 452) (by decide +kernel), rfl⟩
theorem w_453 : Cond.code yX7_wordEnd cX7_wordEnd 3 (some .int) ∈ lw_ok := List.mem_filter.mpr ⟨List.mem_of_getElem? (i := 453) (by decide +kernel), rfl⟩
theorem w_454 : Cond.methodLink RX7 42 yX7_wordKind ∈ lw_ok := List.mem_filter.mpr ⟨List.mem_of_getElem? (i := 454) (by decide +kernel), rfl⟩
theorem w_455 : Cond.static yX7_wordKind ∈ lw_ok := List.mem_filter.mpr ⟨List.mem_of_getElem? (i := 455) (by decide +kernel), rfl⟩
theorem w_456 : Cond.code yX7_wordKind cX7_wordKind 3 (some .int) ∈ lw_ok := List.mem_filter.mpr ⟨List.mem_of_getElem? (i := 456) (by decide +kernel), rfl⟩
theorem w_458 : Cond.methodLink RX7 73 yX7_isWord ∈ lw_ok := List.mem_filter.mpr ⟨List.mem_of_getElem? (i := 458) (by decide +kernel), rfl⟩
theorem w_459 : Cond.static yX7_isWord ∈ lw_ok := List.mem_filter.mpr ⟨List.mem_of_getElem? (i := 459) (by decide +kernel), rfl⟩
theorem w_460 : Cond.code yX7_isWord cX7_isWord 5 (some .boolean) ∈ lw_ok := List.mem_filter.mpr ⟨List.mem_of_getElem? (i := 460) (by decide +kernel), rfl⟩
theorem w_461 : Cond.methodLink RX7 97 yJ0_length_8abf5 ∈ lw_ok := List.mem_filter.mpr ⟨List.mem_of_getElem? (i := 461) (by decide +kernel), rfl⟩
theorem w_462 : Cond.instanceMethod yJ0_length_8abf5 ∈ lw_ok := List.mem_filter.mpr ⟨List.mem_of_getElem? (i := 462) (by decide +kernel), rfl⟩
theorem w_463 : Cond.selects RJ0 yJ0_length_8abf5 yJ0_length_8abf5 ∈ lw_ok := List.mem_filter.mpr ⟨List.mem_of_getElem? (i := 463) (by decide +kernel), rfl⟩
theorem w_464 : Cond.code yJ0_length_8abf5 cJ0_length_8abf5 1 (some .int) ∈ lw_ok := List.mem_filter.mpr ⟨List.mem_of_getElem? (i := 464) (by decide +kernel), rfl⟩
theorem w_465 : Cond.methodLink RJ0 335 yJ0_coder_7d493 ∈ lw_ok := List.mem_filter.mpr ⟨List.mem_of_getElem? (i := 465) (by decide +kernel), rfl⟩
theorem w_466 : Cond.instanceMethod yJ0_coder_7d493 ∈ lw_ok := List.mem_filter.mpr ⟨List.mem_of_getElem? (i := 466) (by decide +kernel), rfl⟩
theorem w_467 : Cond.selects RJ0 yJ0_coder_7d493 yJ0_coder_7d493 ∈ lw_ok := List.mem_filter.mpr ⟨List.mem_of_getElem? (i := 467) (by decide +kernel), rfl⟩
theorem w_469 : Cond.fieldLink RJ0 38 "java/lang/String" "COMPACT_STRINGS" "Z" ∈ lw_ok := List.mem_filter.mpr ⟨List.mem_of_getElem? (i := 469) (by decide +kernel), rfl⟩
theorem w_471 : Cond.methodLink RX7 102 yJ0_charAt_5068e ∈ lw_ok := List.mem_filter.mpr ⟨List.mem_of_getElem? (i := 471) (by decide +kernel), rfl⟩
theorem w_472 : Cond.instanceMethod yJ0_charAt_5068e ∈ lw_ok := List.mem_filter.mpr ⟨List.mem_of_getElem? (i := 472) (by decide +kernel), rfl⟩
theorem w_473 : Cond.selects RJ0 yJ0_charAt_5068e yJ0_charAt_5068e ∈ lw_ok := List.mem_filter.mpr ⟨List.mem_of_getElem? (i := 473) (by decide +kernel), rfl⟩
theorem w_474 : Cond.code yJ0_charAt_5068e cJ0_charAt_5068e 2 (some .char) ∈ lw_ok := List.mem_filter.mpr ⟨List.mem_of_getElem? (i := 474) (by decide +kernel), rfl⟩
theorem w_475 : Cond.methodLink RJ0 492 yJ0_isLatin1_aae02 ∈ lw_ok := List.mem_filter.mpr ⟨List.mem_of_getElem? (i := 475) (by decide +kernel), rfl⟩
theorem w_476 : Cond.instanceMethod yJ0_isLatin1_aae02 ∈ lw_ok := List.mem_filter.mpr ⟨List.mem_of_getElem? (i := 476) (by decide +kernel), rfl⟩
theorem w_477 : Cond.selects RJ0 yJ0_isLatin1_aae02 yJ0_isLatin1_aae02 ∈ lw_ok := List.mem_filter.mpr ⟨List.mem_of_getElem? (i := 477) (by decide +kernel), rfl⟩
theorem w_478 : Cond.code yJ0_isLatin1_aae02 cJ0_isLatin1_aae02 1 (some .boolean) ∈ lw_ok := List.mem_filter.mpr ⟨List.mem_of_getElem? (i := 478) (by decide +kernel), rfl⟩
theorem w_479 : Cond.methodLink RJ0 495 yJ1_charAt_3b067 ∈ lw_ok := List.mem_filter.mpr ⟨List.mem_of_getElem? (i := 479) (by decide +kernel), rfl⟩
theorem w_480 : Cond.static yJ1_charAt_3b067 ∈ lw_ok := List.mem_filter.mpr ⟨List.mem_of_getElem? (i := 480) (by decide +kernel), rfl⟩
theorem w_481 : Cond.code yJ1_charAt_3b067 cJ1_charAt_3b067 2 (some .char) ∈ lw_ok := List.mem_filter.mpr ⟨List.mem_of_getElem? (i := 481) (by decide +kernel), rfl⟩
theorem w_482 : Cond.methodLink RJ1 9 yJ0_checkIndex_df160 ∈ lw_ok := List.mem_filter.mpr ⟨List.mem_of_getElem? (i := 482) (by decide +kernel), rfl⟩
theorem w_483 : Cond.static yJ0_checkIndex_df160 ∈ lw_ok := List.mem_filter.mpr ⟨List.mem_of_getElem? (i := 483) (by decide +kernel), rfl⟩
theorem w_484 : Cond.code yJ0_checkIndex_df160 cJ0_checkIndex_df160 2 none ∈ lw_ok := List.mem_filter.mpr ⟨List.mem_of_getElem? (i := 484) (by decide +kernel), rfl⟩
theorem w_485 : Cond.fieldLink RJ0 1053 "jdk/internal/util/Preconditions" "SIOOBE_FORMATTER" "Ljava/util/function/BiFunction;" ∈ lw_ok := List.mem_filter.mpr ⟨List.mem_of_getElem? (i := 485) (by decide +kernel), rfl⟩
theorem w_487 : Cond.methodLink RJ0 1059 yJ3_checkIndex_8e157 ∈ lw_ok := List.mem_filter.mpr ⟨List.mem_of_getElem? (i := 487) (by decide +kernel), rfl⟩
theorem w_488 : Cond.static yJ3_checkIndex_8e157 ∈ lw_ok := List.mem_filter.mpr ⟨List.mem_of_getElem? (i := 488) (by decide +kernel), rfl⟩
theorem w_489 : Cond.code yJ3_checkIndex_8e157 cJ3_checkIndex_8e157 3 (some .int) ∈ lw_ok := List.mem_filter.mpr ⟨List.mem_of_getElem? (i := 489) (by decide +kernel), rfl⟩
theorem w_490 : Cond.methodLink RJ0 498 yJ2_charAt_3b067 ∈ lw_ok := List.mem_filter.mpr ⟨List.mem_of_getElem? (i := 490) (by decide +kernel), rfl⟩
theorem w_491 : Cond.static yJ2_charAt_3b067 ∈ lw_ok := List.mem_filter.mpr ⟨List.mem_of_getElem? (i := 491) (by decide +kernel), rfl⟩
theorem w_492 : Cond.code yJ2_charAt_3b067 cJ2_charAt_3b067 2 (some .char) ∈ lw_ok := List.mem_filter.mpr ⟨List.mem_of_getElem? (i := 492) (by decide +kernel), rfl⟩
theorem w_493 : Cond.methodLink RJ2 67 yJ2_checkIndex_2214a ∈ lw_ok := List.mem_filter.mpr ⟨List.mem_of_getElem? (i := 493) (by decide +kernel), rfl⟩
theorem w_494 : Cond.static yJ2_checkIndex_2214a ∈ lw_ok := List.mem_filter.mpr ⟨List.mem_of_getElem? (i := 494) (by decide +kernel), rfl⟩
theorem w_495 : Cond.code yJ2_checkIndex_2214a cJ2_checkIndex_2214a 2 none ∈ lw_ok := List.mem_filter.mpr ⟨List.mem_of_getElem? (i := 495) (by decide +kernel), rfl⟩
theorem w_496 : Cond.methodLink RJ2 48 yJ2_length_9d52b ∈ lw_ok := List.mem_filter.mpr ⟨List.mem_of_getElem? (i := 496) (by decide +kernel), rfl⟩
theorem w_497 : Cond.static yJ2_length_9d52b ∈ lw_ok := List.mem_filter.mpr ⟨List.mem_of_getElem? (i := 497) (by decide +kernel), rfl⟩
theorem w_498 : Cond.code yJ2_length_9d52b cJ2_length_9d52b 1 (some .int) ∈ lw_ok := List.mem_filter.mpr ⟨List.mem_of_getElem? (i := 498) (by decide +kernel), rfl⟩
theorem w_499 : Cond.methodLink RJ2 414 yJ0_checkIndex_df160 ∈ lw_ok := List.mem_filter.mpr ⟨List.mem_of_getElem? (i := 499) (by decide +kernel), rfl⟩
theorem w_500 : Cond.methodLink RJ2 71 yJ2_getChar_3b067 ∈ lw_ok := List.mem_filter.mpr ⟨List.mem_of_getElem? (i := 500) (by decide +kernel), rfl⟩
theorem w_501 : Cond.static yJ2_getChar_3b067 ∈ lw_ok := List.mem_filter.mpr ⟨List.mem_of_getElem? (i := 501) (by decide +kernel), rfl⟩
theorem w_502 : Cond.code yJ2_getChar_3b067 cJ2_getChar_3b067 2 (some .char) ∈ lw_ok := List.mem_filter.mpr ⟨List.mem_of_getElem? (i := 502) (by decide +kernel), rfl⟩
theorem w_503 : Cond.fieldLink RJ2 44 "java/lang/StringUTF16" "$assertionsDisabled" "Z" ∈ lw_ok := List.mem_filter.mpr ⟨List.mem_of_getElem? (i := 503) (by decide +kernel), rfl⟩
theorem w_505 : Cond.fieldLink RJ2 59 "java/lang/StringUTF16" "HI_BYTE_SHIFT" "I" ∈ lw_ok := List.mem_filter.mpr ⟨List.mem_of_getElem? (i := 505) (by decide +kernel), rfl⟩
theorem w_507 : Cond.fieldLink RJ2 63 "java/lang/StringUTF16" "LO_BYTE_SHIFT" "I" ∈ lw_ok := List.mem_filter.mpr ⟨List.mem_of_getElem? (i := 507) (by decide +kernel), rfl⟩
theorem w_510 : Cond.methodLink RX7 79 yX7_ifWord ∈ lw_ok := List.mem_filter.mpr ⟨List.mem_of_getElem? (i := 510) (by decide +kernel), rfl⟩
theorem w_511 : Cond.static yX7_ifWord ∈ lw_ok := List.mem_filter.mpr ⟨List.mem_of_getElem? (i := 511) (by decide +kernel), rfl⟩
theorem w_512 : Cond.code yX7_ifWord cX7_ifWord 5 (some .int) ∈ lw_ok := List.mem_filter.mpr ⟨List.mem_of_getElem? (i := 512) (by decide +kernel), rfl⟩
theorem w_520 : Cond.methodLink RX7 46 yX7_add ∈ lw_ok := List.mem_filter.mpr ⟨List.mem_of_getElem? (i := 520) (by decide +kernel), rfl⟩
theorem w_522 : Cond.instanceMethod yX7_add ∈ lw_ok := List.mem_filter.mpr ⟨List.mem_of_getElem? (i := 522) (by decide +kernel), rfl⟩
theorem w_523 : Cond.code yX7_add cX7_add 4 none ∈ lw_ok := List.mem_filter.mpr ⟨List.mem_of_getElem? (i := 523) (by decide +kernel), rfl⟩
theorem w_524 : Cond.methodLink RX7 50 yX7_isDigit ∈ lw_ok := List.mem_filter.mpr ⟨List.mem_of_getElem? (i := 524) (by decide +kernel), rfl⟩
theorem w_525 : Cond.static yX7_isDigit ∈ lw_ok := List.mem_filter.mpr ⟨List.mem_of_getElem? (i := 525) (by decide +kernel), rfl⟩
theorem w_526 : Cond.code yX7_isDigit cX7_isDigit 1 (some .boolean) ∈ lw_ok := List.mem_filter.mpr ⟨List.mem_of_getElem? (i := 526) (by decide +kernel), rfl⟩
theorem w_527 : Cond.methodLink RX7 53 yX7_numberEnd ∈ lw_ok := List.mem_filter.mpr ⟨List.mem_of_getElem? (i := 527) (by decide +kernel), rfl⟩
theorem w_528 : Cond.static yX7_numberEnd ∈ lw_ok := List.mem_filter.mpr ⟨List.mem_of_getElem? (i := 528) (by decide +kernel), rfl⟩
theorem w_529 : Cond.code yX7_numberEnd cX7_numberEnd 3 (some .int) ∈ lw_ok := List.mem_filter.mpr ⟨List.mem_of_getElem? (i := 529) (by decide +kernel), rfl⟩
theorem w_530 : Cond.methodLink RX7 56 yX7_valueOf ∈ lw_ok := List.mem_filter.mpr ⟨List.mem_of_getElem? (i := 530) (by decide +kernel), rfl⟩
theorem w_531 : Cond.static yX7_valueOf ∈ lw_ok := List.mem_filter.mpr ⟨List.mem_of_getElem? (i := 531) (by decide +kernel), rfl⟩
theorem w_532 : Cond.code yX7_valueOf cX7_valueOf 5 (some .int) ∈ lw_ok := List.mem_filter.mpr ⟨List.mem_of_getElem? (i := 532) (by decide +kernel), rfl⟩
theorem w_533 : Cond.methodLink RX7 68 yJ9_min_7cf53 ∈ lw_ok := List.mem_filter.mpr ⟨List.mem_of_getElem? (i := 533) (by decide +kernel), rfl⟩
theorem w_534 : Cond.static yJ9_min_7cf53 ∈ lw_ok := List.mem_filter.mpr ⟨List.mem_of_getElem? (i := 534) (by decide +kernel), rfl⟩
theorem w_535 : Cond.code yJ9_min_7cf53 cJ9_min_7cf53 2 (some .int) ∈ lw_ok := List.mem_filter.mpr ⟨List.mem_of_getElem? (i := 535) (by decide +kernel), rfl⟩
theorem w_536 : Cond.methodLink RX7 59 yX7_isBlank ∈ lw_ok := List.mem_filter.mpr ⟨List.mem_of_getElem? (i := 536) (by decide +kernel), rfl⟩
theorem w_537 : Cond.static yX7_isBlank ∈ lw_ok := List.mem_filter.mpr ⟨List.mem_of_getElem? (i := 537) (by decide +kernel), rfl⟩
theorem w_538 : Cond.code yX7_isBlank cX7_isBlank 1 (some .boolean) ∈ lw_ok := List.mem_filter.mpr ⟨List.mem_of_getElem? (i := 538) (by decide +kernel), rfl⟩
theorem w_539 : Cond.methodLink RX7 62 yJ9_max_7cf53 ∈ lw_ok := List.mem_filter.mpr ⟨List.mem_of_getElem? (i := 539) (by decide +kernel), rfl⟩
theorem w_540 : Cond.static yJ9_max_7cf53 ∈ lw_ok := List.mem_filter.mpr ⟨List.mem_of_getElem? (i := 540) (by decide +kernel), rfl⟩
theorem w_541 : Cond.code yJ9_max_7cf53 cJ9_max_7cf53 2 (some .int) ∈ lw_ok := List.mem_filter.mpr ⟨List.mem_of_getElem? (i := 541) (by decide +kernel), rfl⟩
theorem w_542 : Cond.methodLink RX8 104 yX6_read ∈ lw_ok := List.mem_filter.mpr ⟨List.mem_of_getElem? (i := 542) (by decide +kernel), rfl⟩
theorem w_543 : Cond.instanceMethod yX6_read ∈ lw_ok := List.mem_filter.mpr ⟨List.mem_of_getElem? (i := 543) (by decide +kernel), rfl⟩
theorem w_544 : Cond.selects RX6 yX6_read yX6_read ∈ lw_ok := List.mem_filter.mpr ⟨List.mem_of_getElem? (i := 544) (by decide +kernel), rfl⟩
theorem w_545 : Cond.code yX6_read cX6_read 4 none ∈ lw_ok := List.mem_filter.mpr ⟨List.mem_of_getElem? (i := 545) (by decide +kernel), rfl⟩
theorem w_546 : Cond.methodLink RX6 29 yX2_wipe ∈ lw_ok := List.mem_filter.mpr ⟨List.mem_of_getElem? (i := 546) (by decide +kernel), rfl⟩
theorem w_547 : Cond.instanceMethod yX2_wipe ∈ lw_ok := List.mem_filter.mpr ⟨List.mem_of_getElem? (i := 547) (by decide +kernel), rfl⟩
theorem w_548 : Cond.selects RX2 yX2_wipe yX2_wipe ∈ lw_ok := List.mem_filter.mpr ⟨List.mem_of_getElem? (i := 548) (by decide +kernel), rfl⟩
theorem w_549 : Cond.code yX2_wipe cX2_wipe 1 none ∈ lw_ok := List.mem_filter.mpr ⟨List.mem_of_getElem? (i := 549) (by decide +kernel), rfl⟩
theorem w_550 : Cond.methodLink RX2 64 yX2_keepActs ∈ lw_ok := List.mem_filter.mpr ⟨List.mem_of_getElem? (i := 550) (by decide +kernel), rfl⟩
theorem w_551 : Cond.instanceMethod yX2_keepActs ∈ lw_ok := List.mem_filter.mpr ⟨List.mem_of_getElem? (i := 551) (by decide +kernel), rfl⟩
theorem w_552 : Cond.selects RX2 yX2_keepActs yX2_keepActs ∈ lw_ok := List.mem_filter.mpr ⟨List.mem_of_getElem? (i := 552) (by decide +kernel), rfl⟩
theorem w_553 : Cond.code yX2_keepActs cX2_keepActs 4 none ∈ lw_ok := List.mem_filter.mpr ⟨List.mem_of_getElem? (i := 553) (by decide +kernel), rfl⟩
theorem w_554 : Cond.methodLink RX2 74 yJ9_min_7cf53 ∈ lw_ok := List.mem_filter.mpr ⟨List.mem_of_getElem? (i := 554) (by decide +kernel), rfl⟩
theorem w_555 : Cond.methodLink RX2 80 yJ7_fill_53178 ∈ lw_ok := List.mem_filter.mpr ⟨List.mem_of_getElem? (i := 555) (by decide +kernel), rfl⟩
theorem w_556 : Cond.static yJ7_fill_53178 ∈ lw_ok := List.mem_filter.mpr ⟨List.mem_of_getElem? (i := 556) (by decide +kernel), rfl⟩
theorem w_557 : Cond.code yJ7_fill_53178 cJ7_fill_53178 4 none ∈ lw_ok := List.mem_filter.mpr ⟨List.mem_of_getElem? (i := 557) (by decide +kernel), rfl⟩
theorem w_558 : Cond.methodLink RX6 37 yX6_step ∈ lw_ok := List.mem_filter.mpr ⟨List.mem_of_getElem? (i := 558) (by decide +kernel), rfl⟩
theorem w_560 : Cond.instanceMethod yX6_step ∈ lw_ok := List.mem_filter.mpr ⟨List.mem_of_getElem? (i := 560) (by decide +kernel), rfl⟩
theorem w_561 : Cond.code yX6_step cX6_step 2 none ∈ lw_ok := List.mem_filter.mpr ⟨List.mem_of_getElem? (i := 561) (by decide +kernel), rfl⟩
theorem w_562 : Cond.methodLink RX6 41 yX6_readLine ∈ lw_ok := List.mem_filter.mpr ⟨List.mem_of_getElem? (i := 562) (by decide +kernel), rfl⟩
theorem w_564 : Cond.instanceMethod yX6_readLine ∈ lw_ok := List.mem_filter.mpr ⟨List.mem_of_getElem? (i := 564) (by decide +kernel), rfl⟩
theorem w_565 : Cond.code yX6_readLine cX6_readLine 3 (some .boolean) ∈ lw_ok := List.mem_filter.mpr ⟨List.mem_of_getElem? (i := 565) (by decide +kernel), rfl⟩
theorem w_566 : Cond.methodLink RX6 48 yX6_readHead ∈ lw_ok := List.mem_filter.mpr ⟨List.mem_of_getElem? (i := 566) (by decide +kernel), rfl⟩
theorem w_568 : Cond.instanceMethod yX6_readHead ∈ lw_ok := List.mem_filter.mpr ⟨List.mem_of_getElem? (i := 568) (by decide +kernel), rfl⟩
theorem w_569 : Cond.code yX6_readHead cX6_readHead 3 (some .boolean) ∈ lw_ok := List.mem_filter.mpr ⟨List.mem_of_getElem? (i := 569) (by decide +kernel), rfl⟩
theorem w_570 : Cond.methodLink RX6 61 yX6_readPair ∈ lw_ok := List.mem_filter.mpr ⟨List.mem_of_getElem? (i := 570) (by decide +kernel), rfl⟩
theorem w_572 : Cond.instanceMethod yX6_readPair ∈ lw_ok := List.mem_filter.mpr ⟨List.mem_of_getElem? (i := 572) (by decide +kernel), rfl⟩
theorem w_573 : Cond.code yX6_readPair cX6_readPair 5 (some .boolean) ∈ lw_ok := List.mem_filter.mpr ⟨List.mem_of_getElem? (i := 573) (by decide +kernel), rfl⟩
theorem w_574 : Cond.methodLink RX6 84 yX6_readNumber ∈ lw_ok := List.mem_filter.mpr ⟨List.mem_of_getElem? (i := 574) (by decide +kernel), rfl⟩
theorem w_576 : Cond.instanceMethod yX6_readNumber ∈ lw_ok := List.mem_filter.mpr ⟨List.mem_of_getElem? (i := 576) (by decide +kernel), rfl⟩
theorem w_577 : Cond.code yX6_readNumber cX6_readNumber 4 (some .boolean) ∈ lw_ok := List.mem_filter.mpr ⟨List.mem_of_getElem? (i := 577) (by decide +kernel), rfl⟩
theorem w_578 : Cond.methodLink RX6 51 yX6_fail ∈ lw_ok := List.mem_filter.mpr ⟨List.mem_of_getElem? (i := 578) (by decide +kernel), rfl⟩
theorem w_580 : Cond.instanceMethod yX6_fail ∈ lw_ok := List.mem_filter.mpr ⟨List.mem_of_getElem? (i := 580) (by decide +kernel), rfl⟩
theorem w_581 : Cond.code yX6_fail cX6_fail 2 (some .boolean) ∈ lw_ok := List.mem_filter.mpr ⟨List.mem_of_getElem? (i := 581) (by decide +kernel), rfl⟩
theorem w_582 : Cond.methodLink RX6 77 yX6_isSign ∈ lw_ok := List.mem_filter.mpr ⟨List.mem_of_getElem? (i := 582) (by decide +kernel), rfl⟩
theorem w_584 : Cond.instanceMethod yX6_isSign ∈ lw_ok := List.mem_filter.mpr ⟨List.mem_of_getElem? (i := 584) (by decide +kernel), rfl⟩
theorem w_585 : Cond.code yX6_isSign cX6_isSign 1 (some .boolean) ∈ lw_ok := List.mem_filter.mpr ⟨List.mem_of_getElem? (i := 585) (by decide +kernel), rfl⟩
theorem w_586 : Cond.methodLink RX6 55 yX6_readSpan ∈ lw_ok := List.mem_filter.mpr ⟨List.mem_of_getElem? (i := 586) (by decide +kernel), rfl⟩
theorem w_588 : Cond.instanceMethod yX6_readSpan ∈ lw_ok := List.mem_filter.mpr ⟨List.mem_of_getElem? (i := 588) (by decide +kernel), rfl⟩
theorem w_589 : Cond.code yX6_readSpan cX6_readSpan 4 (some .boolean) ∈ lw_ok := List.mem_filter.mpr ⟨List.mem_of_getElem? (i := 589) (by decide +kernel), rfl⟩
theorem w_590 : Cond.methodLink RX6 58 yX6_readWet ∈ lw_ok := List.mem_filter.mpr ⟨List.mem_of_getElem? (i := 590) (by decide +kernel), rfl⟩
theorem w_592 : Cond.instanceMethod yX6_readWet ∈ lw_ok := List.mem_filter.mpr ⟨List.mem_of_getElem? (i := 592) (by decide +kernel), rfl⟩
theorem w_593 : Cond.code yX6_readWet cX6_readWet 3 (some .boolean) ∈ lw_ok := List.mem_filter.mpr ⟨List.mem_of_getElem? (i := 593) (by decide +kernel), rfl⟩
theorem w_594 : Cond.methodLink RX8 114 yX2_take ∈ lw_ok := List.mem_filter.mpr ⟨List.mem_of_getElem? (i := 594) (by decide +kernel), rfl⟩
theorem w_595 : Cond.instanceMethod yX2_take ∈ lw_ok := List.mem_filter.mpr ⟨List.mem_of_getElem? (i := 595) (by decide +kernel), rfl⟩
theorem w_596 : Cond.selects RX2 yX2_take yX2_take ∈ lw_ok := List.mem_filter.mpr ⟨List.mem_of_getElem? (i := 596) (by decide +kernel), rfl⟩
theorem w_597 : Cond.code yX2_take cX2_take 2 none ∈ lw_ok := List.mem_filter.mpr ⟨List.mem_of_getElem? (i := 597) (by decide +kernel), rfl⟩
theorem w_598 : Cond.methodLink RX2 68 arraycopyName ∈ lw_ok := List.mem_filter.mpr ⟨List.mem_of_getElem? (i := 598) (by decide +kernel), rfl⟩
theorem w_599 : Cond.static arraycopyName ∈ lw_ok := List.mem_filter.mpr ⟨List.mem_of_getElem? (i := 599) (by decide +kernel), rfl⟩
theorem w_600 : Cond.native arraycopyName ∈ lw_ok := List.mem_filter.mpr ⟨List.mem_of_getElem? (i := 600) (by decide +kernel), rfl⟩
theorem w_601 : Cond.methodLink "LeakyLineLaw" 28 yX8_fault ∈ lw_ok := List.mem_filter.mpr ⟨List.mem_of_getElem? (i := 601) (by decide +kernel), rfl⟩
theorem w_602 : Cond.instanceMethod yX8_fault ∈ lw_ok := List.mem_filter.mpr ⟨List.mem_of_getElem? (i := 602) (by decide +kernel), rfl⟩
theorem w_603 : Cond.selects RX8 yX8_fault yX8_fault ∈ lw_ok := List.mem_filter.mpr ⟨List.mem_of_getElem? (i := 603) (by decide +kernel), rfl⟩
theorem w_604 : Cond.code yX8_fault cX8_fault 2 (some .int) ∈ lw_ok := List.mem_filter.mpr ⟨List.mem_of_getElem? (i := 604) (by decide +kernel), rfl⟩
theorem w_605 : Cond.methodLink "LeakyLineLaw" 32 yX8_span ∈ lw_ok := List.mem_filter.mpr ⟨List.mem_of_getElem? (i := 605) (by decide +kernel), rfl⟩
theorem w_606 : Cond.instanceMethod yX8_span ∈ lw_ok := List.mem_filter.mpr ⟨List.mem_of_getElem? (i := 606) (by decide +kernel), rfl⟩
theorem w_607 : Cond.selects RX8 yX8_span yX8_span ∈ lw_ok := List.mem_filter.mpr ⟨List.mem_of_getElem? (i := 607) (by decide +kernel), rfl⟩
theorem w_608 : Cond.code yX8_span cX8_span 3 (some .int) ∈ lw_ok := List.mem_filter.mpr ⟨List.mem_of_getElem? (i := 608) (by decide +kernel), rfl⟩
theorem w_609 : Cond.methodLink RX8 121 yX8_isPole ∈ lw_ok := List.mem_filter.mpr ⟨List.mem_of_getElem? (i := 609) (by decide +kernel), rfl⟩
theorem w_611 : Cond.instanceMethod yX8_isPole ∈ lw_ok := List.mem_filter.mpr ⟨List.mem_of_getElem? (i := 611) (by decide +kernel), rfl⟩
theorem w_612 : Cond.code yX8_isPole cX8_isPole 2 (some .boolean) ∈ lw_ok := List.mem_filter.mpr ⟨List.mem_of_getElem? (i := 612) (by decide +kernel), rfl⟩
theorem w_613 : Cond.methodLink "LeakyLineLaw" 37 yX8_stations ∈ lw_ok := List.mem_filter.mpr ⟨List.mem_of_getElem? (i := 613) (by decide +kernel), rfl⟩
theorem w_614 : Cond.instanceMethod yX8_stations ∈ lw_ok := List.mem_filter.mpr ⟨List.mem_of_getElem? (i := 614) (by decide +kernel), rfl⟩
theorem w_615 : Cond.selects RX8 yX8_stations yX8_stations ∈ lw_ok := List.mem_filter.mpr ⟨List.mem_of_getElem? (i := 615) (by decide +kernel), rfl⟩
theorem w_616 : Cond.code yX8_stations cX8_stations 1 (some .int) ∈ lw_ok := List.mem_filter.mpr ⟨List.mem_of_getElem? (i := 616) (by decide +kernel), rfl⟩
theorem w_617 : Cond.methodLink RX8 134 yX8_isTold ∈ lw_ok := List.mem_filter.mpr ⟨List.mem_of_getElem? (i := 617) (by decide +kernel), rfl⟩
theorem w_619 : Cond.instanceMethod yX8_isTold ∈ lw_ok := List.mem_filter.mpr ⟨List.mem_of_getElem? (i := 619) (by decide +kernel), rfl⟩
theorem w_620 : Cond.code yX8_isTold cX8_isTold 1 (some .boolean) ∈ lw_ok := List.mem_filter.mpr ⟨List.mem_of_getElem? (i := 620) (by decide +kernel), rfl⟩
theorem w_621 : Cond.methodLink RX8 138 yX2_stationBits ∈ lw_ok := List.mem_filter.mpr ⟨List.mem_of_getElem? (i := 621) (by decide +kernel), rfl⟩
theorem w_622 : Cond.instanceMethod yX2_stationBits ∈ lw_ok := List.mem_filter.mpr ⟨List.mem_of_getElem? (i := 622) (by decide +kernel), rfl⟩
theorem w_623 : Cond.selects RX2 yX2_stationBits yX2_stationBits ∈ lw_ok := List.mem_filter.mpr ⟨List.mem_of_getElem? (i := 623) (by decide +kernel), rfl⟩
theorem w_624 : Cond.code yX2_stationBits cX2_stationBits 3 (some .int) ∈ lw_ok := List.mem_filter.mpr ⟨List.mem_of_getElem? (i := 624) (by decide +kernel), rfl⟩
theorem w_625 : Cond.methodLink "LeakyLineLaw" 41 yX8_wets ∈ lw_ok := List.mem_filter.mpr ⟨List.mem_of_getElem? (i := 625) (by decide +kernel), rfl⟩
theorem w_626 : Cond.instanceMethod yX8_wets ∈ lw_ok := List.mem_filter.mpr ⟨List.mem_of_getElem? (i := 626) (by decide +kernel), rfl⟩
theorem w_627 : Cond.selects RX8 yX8_wets yX8_wets ∈ lw_ok := List.mem_filter.mpr ⟨List.mem_of_getElem? (i := 627) (by decide +kernel), rfl⟩
theorem w_628 : Cond.code yX8_wets cX8_wets 1 (some .int) ∈ lw_ok := List.mem_filter.mpr ⟨List.mem_of_getElem? (i := 628) (by decide +kernel), rfl⟩
theorem w_629 : Cond.methodLink "LeakyLineLaw" 45 yX8_leak ∈ lw_ok := List.mem_filter.mpr ⟨List.mem_of_getElem? (i := 629) (by decide +kernel), rfl⟩
theorem w_630 : Cond.instanceMethod yX8_leak ∈ lw_ok := List.mem_filter.mpr ⟨List.mem_of_getElem? (i := 630) (by decide +kernel), rfl⟩
theorem w_631 : Cond.selects RX8 yX8_leak yX8_leak ∈ lw_ok := List.mem_filter.mpr ⟨List.mem_of_getElem? (i := 631) (by decide +kernel), rfl⟩
theorem w_632 : Cond.code yX8_leak cX8_leak 3 (some .int) ∈ lw_ok := List.mem_filter.mpr ⟨List.mem_of_getElem? (i := 632) (by decide +kernel), rfl⟩
theorem w_633 : Cond.methodLink RX8 145 yX8_isDay ∈ lw_ok := List.mem_filter.mpr ⟨List.mem_of_getElem? (i := 633) (by decide +kernel), rfl⟩
theorem w_635 : Cond.instanceMethod yX8_isDay ∈ lw_ok := List.mem_filter.mpr ⟨List.mem_of_getElem? (i := 635) (by decide +kernel), rfl⟩
theorem w_636 : Cond.code yX8_isDay cX8_isDay 2 (some .boolean) ∈ lw_ok := List.mem_filter.mpr ⟨List.mem_of_getElem? (i := 636) (by decide +kernel), rfl⟩
theorem w_637 : Cond.methodLink RX8 148 yX4_asTold ∈ lw_ok := List.mem_filter.mpr ⟨List.mem_of_getElem? (i := 637) (by decide +kernel), rfl⟩
theorem w_638 : Cond.instanceMethod yX4_asTold ∈ lw_ok := List.mem_filter.mpr ⟨List.mem_of_getElem? (i := 638) (by decide +kernel), rfl⟩
theorem w_639 : Cond.selects RX4 yX4_asTold yX4_asTold ∈ lw_ok := List.mem_filter.mpr ⟨List.mem_of_getElem? (i := 639) (by decide +kernel), rfl⟩
theorem w_640 : Cond.code yX4_asTold cX4_asTold 2 none ∈ lw_ok := List.mem_filter.mpr ⟨List.mem_of_getElem? (i := 640) (by decide +kernel), rfl⟩
theorem w_641 : Cond.methodLink RX4 36 arraycopyName ∈ lw_ok := List.mem_filter.mpr ⟨List.mem_of_getElem? (i := 641) (by decide +kernel), rfl⟩
theorem w_642 : Cond.methodLink RX8 151 yX4_leakOn ∈ lw_ok := List.mem_filter.mpr ⟨List.mem_of_getElem? (i := 642) (by decide +kernel), rfl⟩
theorem w_643 : Cond.instanceMethod yX4_leakOn ∈ lw_ok := List.mem_filter.mpr ⟨List.mem_of_getElem? (i := 643) (by decide +kernel), rfl⟩
theorem w_644 : Cond.selects RX4 yX4_leakOn yX4_leakOn ∈ lw_ok := List.mem_filter.mpr ⟨List.mem_of_getElem? (i := 644) (by decide +kernel), rfl⟩
theorem w_645 : Cond.code yX4_leakOn cX4_leakOn 6 (some .int) ∈ lw_ok := List.mem_filter.mpr ⟨List.mem_of_getElem? (i := 645) (by decide +kernel), rfl⟩
theorem w_646 : Cond.methodLink RX4 43 yX2_latestCup ∈ lw_ok := List.mem_filter.mpr ⟨List.mem_of_getElem? (i := 646) (by decide +kernel), rfl⟩
theorem w_647 : Cond.instanceMethod yX2_latestCup ∈ lw_ok := List.mem_filter.mpr ⟨List.mem_of_getElem? (i := 647) (by decide +kernel), rfl⟩
theorem w_648 : Cond.selects RX2 yX2_latestCup yX2_latestCup ∈ lw_ok := List.mem_filter.mpr ⟨List.mem_of_getElem? (i := 648) (by decide +kernel), rfl⟩
theorem w_649 : Cond.code yX2_latestCup cX2_latestCup 4 (some .int) ∈ lw_ok := List.mem_filter.mpr ⟨List.mem_of_getElem? (i := 649) (by decide +kernel), rfl⟩
theorem w_650 : Cond.methodLink RX2 86 yJ6_numberOfLeadingZeros_0f7a4 ∈ lw_ok := List.mem_filter.mpr ⟨List.mem_of_getElem? (i := 650) (by decide +kernel), rfl⟩
theorem w_651 : Cond.static yJ6_numberOfLeadingZeros_0f7a4 ∈ lw_ok := List.mem_filter.mpr ⟨List.mem_of_getElem? (i := 651) (by decide +kernel), rfl⟩
theorem w_652 : Cond.code yJ6_numberOfLeadingZeros_0f7a4 cJ6_numberOfLeadingZeros_0f7a4 2 (some .int) ∈ lw_ok := List.mem_filter.mpr ⟨List.mem_of_getElem? (i := 652) (by decide +kernel), rfl⟩
theorem w_653 : Cond.constant RJ6 264 65536 ∈ lw_ok := List.mem_filter.mpr ⟨List.mem_of_getElem? (i := 653) (by decide +kernel), rfl⟩
theorem w_655 : Cond.static yX8_hasBit ∈ lw_ok := List.mem_filter.mpr ⟨List.mem_of_getElem? (i := 655) (by decide +kernel), rfl⟩
theorem w_656 : Cond.code yX8_hasBit cX8_hasBit 2 (some .boolean) ∈ lw_ok := List.mem_filter.mpr ⟨List.mem_of_getElem? (i := 656) (by decide +kernel), rfl⟩
theorem w_657 : Cond.methodLink RX4 51 yX4_isWet ∈ lw_ok := List.mem_filter.mpr ⟨List.mem_of_getElem? (i := 657) (by decide +kernel), rfl⟩
theorem w_659 : Cond.instanceMethod yX4_isWet ∈ lw_ok := List.mem_filter.mpr ⟨List.mem_of_getElem? (i := 659) (by decide +kernel), rfl⟩
theorem w_660 : Cond.code yX4_isWet cX4_isWet 2 (some .boolean) ∈ lw_ok := List.mem_filter.mpr ⟨List.mem_of_getElem? (i := 660) (by decide +kernel), rfl⟩
theorem w_661 : Cond.methodLink RX4 55 yX4_halved ∈ lw_ok := List.mem_filter.mpr ⟨List.mem_of_getElem? (i := 661) (by decide +kernel), rfl⟩
theorem w_662 : Cond.static yX4_halved ∈ lw_ok := List.mem_filter.mpr ⟨List.mem_of_getElem? (i := 662) (by decide +kernel), rfl⟩
theorem w_663 : Cond.code yX4_halved cX4_halved 1 (some .int) ∈ lw_ok := List.mem_filter.mpr ⟨List.mem_of_getElem? (i := 663) (by decide +kernel), rfl⟩
theorem w_664 : Cond.methodLink RX4 59 yJ9_max_7cf53 ∈ lw_ok := List.mem_filter.mpr ⟨List.mem_of_getElem? (i := 664) (by decide +kernel), rfl⟩
theorem w_665 : Cond.methodLink RX4 64 yX4_wetDays ∈ lw_ok := List.mem_filter.mpr ⟨List.mem_of_getElem? (i := 665) (by decide +kernel), rfl⟩
theorem w_667 : Cond.instanceMethod yX4_wetDays ∈ lw_ok := List.mem_filter.mpr ⟨List.mem_of_getElem? (i := 667) (by decide +kernel), rfl⟩
theorem w_668 : Cond.code yX4_wetDays cX4_wetDays 3 (some .int) ∈ lw_ok := List.mem_filter.mpr ⟨List.mem_of_getElem? (i := 668) (by decide +kernel), rfl⟩
theorem w_669 : Cond.methodLink RX4 73 yJ6_bitCount_0f7a4 ∈ lw_ok := List.mem_filter.mpr ⟨List.mem_of_getElem? (i := 669) (by decide +kernel), rfl⟩
theorem w_670 : Cond.static yJ6_bitCount_0f7a4 ∈ lw_ok := List.mem_filter.mpr ⟨List.mem_of_getElem? (i := 670) (by decide +kernel), rfl⟩
theorem w_671 : Cond.code yJ6_bitCount_0f7a4 cJ6_bitCount_0f7a4 1 (some .int) ∈ lw_ok := List.mem_filter.mpr ⟨List.mem_of_getElem? (i := 671) (by decide +kernel), rfl⟩
theorem w_672 : Cond.constant RJ6 265 1431655765 ∈ lw_ok := List.mem_filter.mpr ⟨List.mem_of_getElem? (i := 672) (by decide +kernel), rfl⟩
theorem w_673 : Cond.constant RJ6 266 858993459 ∈ lw_ok := List.mem_filter.mpr ⟨List.mem_of_getElem? (i := 673) (by decide +kernel), rfl⟩
theorem w_674 : Cond.constant RJ6 267 252645135 ∈ lw_ok := List.mem_filter.mpr ⟨List.mem_of_getElem? (i := 674) (by decide +kernel), rfl⟩
theorem w_675 : Cond.methodLink "LeakyLineLaw" 49 yX8_joined ∈ lw_ok := List.mem_filter.mpr ⟨List.mem_of_getElem? (i := 675) (by decide +kernel), rfl⟩
theorem w_676 : Cond.instanceMethod yX8_joined ∈ lw_ok := List.mem_filter.mpr ⟨List.mem_of_getElem? (i := 676) (by decide +kernel), rfl⟩
theorem w_677 : Cond.selects RX8 yX8_joined yX8_joined ∈ lw_ok := List.mem_filter.mpr ⟨List.mem_of_getElem? (i := 677) (by decide +kernel), rfl⟩
theorem w_678 : Cond.code yX8_joined cX8_joined 2 (some .int) ∈ lw_ok := List.mem_filter.mpr ⟨List.mem_of_getElem? (i := 678) (by decide +kernel), rfl⟩
theorem w_679 : Cond.methodLink RX8 155 yX4_leadingOn ∈ lw_ok := List.mem_filter.mpr ⟨List.mem_of_getElem? (i := 679) (by decide +kernel), rfl⟩
theorem w_680 : Cond.instanceMethod yX4_leadingOn ∈ lw_ok := List.mem_filter.mpr ⟨List.mem_of_getElem? (i := 680) (by decide +kernel), rfl⟩
theorem w_681 : Cond.selects RX4 yX4_leadingOn yX4_leadingOn ∈ lw_ok := List.mem_filter.mpr ⟨List.mem_of_getElem? (i := 681) (by decide +kernel), rfl⟩
theorem w_682 : Cond.code yX4_leadingOn cX4_leadingOn 4 (some .int) ∈ lw_ok := List.mem_filter.mpr ⟨List.mem_of_getElem? (i := 682) (by decide +kernel), rfl⟩
theorem w_683 : Cond.methodLink RX4 70 yX2_isBroken ∈ lw_ok := List.mem_filter.mpr ⟨List.mem_of_getElem? (i := 683) (by decide +kernel), rfl⟩
theorem w_684 : Cond.instanceMethod yX2_isBroken ∈ lw_ok := List.mem_filter.mpr ⟨List.mem_of_getElem? (i := 684) (by decide +kernel), rfl⟩
theorem w_685 : Cond.selects RX2 yX2_isBroken yX2_isBroken ∈ lw_ok := List.mem_filter.mpr ⟨List.mem_of_getElem? (i := 685) (by decide +kernel), rfl⟩
theorem w_686 : Cond.code yX2_isBroken cX2_isBroken 3 (some .boolean) ∈ lw_ok := List.mem_filter.mpr ⟨List.mem_of_getElem? (i := 686) (by decide +kernel), rfl⟩
theorem w_687 : Cond.methodLink "LeakyLineLaw" 53 yX8_ohms ∈ lw_ok := List.mem_filter.mpr ⟨List.mem_of_getElem? (i := 687) (by decide +kernel), rfl⟩
theorem w_688 : Cond.instanceMethod yX8_ohms ∈ lw_ok := List.mem_filter.mpr ⟨List.mem_of_getElem? (i := 688) (by decide +kernel), rfl⟩
theorem w_689 : Cond.selects RX8 yX8_ohms yX8_ohms ∈ lw_ok := List.mem_filter.mpr ⟨List.mem_of_getElem? (i := 689) (by decide +kernel), rfl⟩
theorem w_690 : Cond.code yX8_ohms cX8_ohms 3 (some .long) ∈ lw_ok := List.mem_filter.mpr ⟨List.mem_of_getElem? (i := 690) (by decide +kernel), rfl⟩
theorem w_691 : Cond.methodLink RX8 159 yX8_isPart ∈ lw_ok := List.mem_filter.mpr ⟨List.mem_of_getElem? (i := 691) (by decide +kernel), rfl⟩
theorem w_692 : Cond.static yX8_isPart ∈ lw_ok := List.mem_filter.mpr ⟨List.mem_of_getElem? (i := 692) (by decide +kernel), rfl⟩
theorem w_693 : Cond.code yX8_isPart cX8_isPart 1 (some .boolean) ∈ lw_ok := List.mem_filter.mpr ⟨List.mem_of_getElem? (i := 693) (by decide +kernel), rfl⟩
theorem w_694 : Cond.constantLong RX8 162 (-2) ∈ lw_ok := List.mem_filter.mpr ⟨List.mem_of_getElem? (i := 694) (by decide +kernel), rfl⟩
theorem w_695 : Cond.methodLink RX8 164 yX8_settleAsTold ∈ lw_ok := List.mem_filter.mpr ⟨List.mem_of_getElem? (i := 695) (by decide +kernel), rfl⟩
theorem w_697 : Cond.instanceMethod yX8_settleAsTold ∈ lw_ok := List.mem_filter.mpr ⟨List.mem_of_getElem? (i := 697) (by decide +kernel), rfl⟩
theorem w_698 : Cond.code yX8_settleAsTold cX8_settleAsTold 2 none ∈ lw_ok := List.mem_filter.mpr ⟨List.mem_of_getElem? (i := 698) (by decide +kernel), rfl⟩
theorem w_699 : Cond.methodLink RX8 281 yX1_settle ∈ lw_ok := List.mem_filter.mpr ⟨List.mem_of_getElem? (i := 699) (by decide +kernel), rfl⟩
theorem w_700 : Cond.instanceMethod yX1_settle ∈ lw_ok := List.mem_filter.mpr ⟨List.mem_of_getElem? (i := 700) (by decide +kernel), rfl⟩
theorem w_701 : Cond.selects RX1 yX1_settle yX1_settle ∈ lw_ok := List.mem_filter.mpr ⟨List.mem_of_getElem? (i := 701) (by decide +kernel), rfl⟩
theorem w_702 : Cond.code yX1_settle cX1_settle 11 none ∈ lw_ok := List.mem_filter.mpr ⟨List.mem_of_getElem? (i := 702) (by decide +kernel), rfl⟩
theorem w_703 : Cond.methodLink RX1 30 yX4_leadingOn ∈ lw_ok := List.mem_filter.mpr ⟨List.mem_of_getElem? (i := 703) (by decide +kernel), rfl⟩
theorem w_704 : Cond.methodLink RX1 41 yX4_leakOn ∈ lw_ok := List.mem_filter.mpr ⟨List.mem_of_getElem? (i := 704) (by decide +kernel), rfl⟩
theorem w_705 : Cond.methodLink RX1 45 yJ9_max_7cf53 ∈ lw_ok := List.mem_filter.mpr ⟨List.mem_of_getElem? (i := 705) (by decide +kernel), rfl⟩
theorem w_706 : Cond.methodLink RX8 167 yX1_readsInto ∈ lw_ok := List.mem_filter.mpr ⟨List.mem_of_getElem? (i := 706) (by decide +kernel), rfl⟩
theorem w_707 : Cond.instanceMethod yX1_readsInto ∈ lw_ok := List.mem_filter.mpr ⟨List.mem_of_getElem? (i := 707) (by decide +kernel), rfl⟩
theorem w_708 : Cond.selects RX1 yX1_readsInto yX1_readsInto ∈ lw_ok := List.mem_filter.mpr ⟨List.mem_of_getElem? (i := 708) (by decide +kernel), rfl⟩
theorem w_709 : Cond.code yX1_readsInto cX1_readsInto 2 none ∈ lw_ok := List.mem_filter.mpr ⟨List.mem_of_getElem? (i := 709) (by decide +kernel), rfl⟩
theorem w_710 : Cond.methodLink RX1 54 yX1_firstAmps ∈ lw_ok := List.mem_filter.mpr ⟨List.mem_of_getElem? (i := 710) (by decide +kernel), rfl⟩
theorem w_711 : Cond.instanceMethod yX1_firstAmps ∈ lw_ok := List.mem_filter.mpr ⟨List.mem_of_getElem? (i := 711) (by decide +kernel), rfl⟩
theorem w_712 : Cond.selects RX1 yX1_firstAmps yX1_firstAmps ∈ lw_ok := List.mem_filter.mpr ⟨List.mem_of_getElem? (i := 712) (by decide +kernel), rfl⟩
theorem w_713 : Cond.code yX1_firstAmps cX1_firstAmps 1 (some .long) ∈ lw_ok := List.mem_filter.mpr ⟨List.mem_of_getElem? (i := 713) (by decide +kernel), rfl⟩
theorem w_714 : Cond.methodLink RX1 58 yX0_set ∈ lw_ok := List.mem_filter.mpr ⟨List.mem_of_getElem? (i := 714) (by decide +kernel), rfl⟩
theorem w_715 : Cond.instanceMethod yX0_set ∈ lw_ok := List.mem_filter.mpr ⟨List.mem_of_getElem? (i := 715) (by decide +kernel), rfl⟩
theorem w_716 : Cond.selects RX0 yX0_set yX0_set ∈ lw_ok := List.mem_filter.mpr ⟨List.mem_of_getElem? (i := 716) (by decide +kernel), rfl⟩
theorem w_717 : Cond.code yX0_set cX0_set 7 none ∈ lw_ok := List.mem_filter.mpr ⟨List.mem_of_getElem? (i := 717) (by decide +kernel), rfl⟩
theorem w_718 : Cond.methodLink RX0 18 yJ9_abs_067f4 ∈ lw_ok := List.mem_filter.mpr ⟨List.mem_of_getElem? (i := 718) (by decide +kernel), rfl⟩
theorem w_719 : Cond.static yJ9_abs_067f4 ∈ lw_ok := List.mem_filter.mpr ⟨List.mem_of_getElem? (i := 719) (by decide +kernel), rfl⟩
theorem w_720 : Cond.code yJ9_abs_067f4 cJ9_abs_067f4 2 (some .long) ∈ lw_ok := List.mem_filter.mpr ⟨List.mem_of_getElem? (i := 720) (by decide +kernel), rfl⟩
theorem w_721 : Cond.methodLink RX0 24 yX0_commonDivisor ∈ lw_ok := List.mem_filter.mpr ⟨List.mem_of_getElem? (i := 721) (by decide +kernel), rfl⟩
theorem w_722 : Cond.static yX0_commonDivisor ∈ lw_ok := List.mem_filter.mpr ⟨List.mem_of_getElem? (i := 722) (by decide +kernel), rfl⟩
theorem w_723 : Cond.code yX0_commonDivisor cX0_commonDivisor 11 (some .long) ∈ lw_ok := List.mem_filter.mpr ⟨List.mem_of_getElem? (i := 723) (by decide +kernel), rfl⟩
theorem w_724 : Cond.methodLink RX8 171 yX0_part ∈ lw_ok := List.mem_filter.mpr ⟨List.mem_of_getElem? (i := 724) (by decide +kernel), rfl⟩
theorem w_725 : Cond.instanceMethod yX0_part ∈ lw_ok := List.mem_filter.mpr ⟨List.mem_of_getElem? (i := 725) (by decide +kernel), rfl⟩
theorem w_726 : Cond.selects RX0 yX0_part yX0_part ∈ lw_ok := List.mem_filter.mpr ⟨List.mem_of_getElem? (i := 726) (by decide +kernel), rfl⟩
theorem w_727 : Cond.code yX0_part cX0_part 2 (some .long) ∈ lw_ok := List.mem_filter.mpr ⟨List.mem_of_getElem? (i := 727) (by decide +kernel), rfl⟩
theorem w_728 : Cond.methodLink "LeakyLineLaw" 58 yX8_amps ∈ lw_ok := List.mem_filter.mpr ⟨List.mem_of_getElem? (i := 728) (by decide +kernel), rfl⟩
theorem w_729 : Cond.instanceMethod yX8_amps ∈ lw_ok := List.mem_filter.mpr ⟨List.mem_of_getElem? (i := 729) (by decide +kernel), rfl⟩
theorem w_730 : Cond.selects RX8 yX8_amps yX8_amps ∈ lw_ok := List.mem_filter.mpr ⟨List.mem_of_getElem? (i := 730) (by decide +kernel), rfl⟩
theorem w_731 : Cond.code yX8_amps cX8_amps 3 (some .long) ∈ lw_ok := List.mem_filter.mpr ⟨List.mem_of_getElem? (i := 731) (by decide +kernel), rfl⟩
theorem w_732 : Cond.methodLink RX8 178 yX1_firstAmps ∈ lw_ok := List.mem_filter.mpr ⟨List.mem_of_getElem? (i := 732) (by decide +kernel), rfl⟩
theorem w_733 : Cond.methodLink RX8 186 yX8_partOf ∈ lw_ok := List.mem_filter.mpr ⟨List.mem_of_getElem? (i := 733) (by decide +kernel), rfl⟩
theorem w_735 : Cond.instanceMethod yX8_partOf ∈ lw_ok := List.mem_filter.mpr ⟨List.mem_of_getElem? (i := 735) (by decide +kernel), rfl⟩
theorem w_736 : Cond.code yX8_partOf cX8_partOf 6 (some .long) ∈ lw_ok := List.mem_filter.mpr ⟨List.mem_of_getElem? (i := 736) (by decide +kernel), rfl⟩
theorem w_737 : Cond.methodLink RX8 395 yX0_set ∈ lw_ok := List.mem_filter.mpr ⟨List.mem_of_getElem? (i := 737) (by decide +kernel), rfl⟩
theorem w_738 : Cond.methodLink "LeakyLineLaw" 62 yX8_volts ∈ lw_ok := List.mem_filter.mpr ⟨List.mem_of_getElem? (i := 738) (by decide +kernel), rfl⟩
theorem w_739 : Cond.instanceMethod yX8_volts ∈ lw_ok := List.mem_filter.mpr ⟨List.mem_of_getElem? (i := 739) (by decide +kernel), rfl⟩
theorem w_740 : Cond.selects RX8 yX8_volts yX8_volts ∈ lw_ok := List.mem_filter.mpr ⟨List.mem_of_getElem? (i := 740) (by decide +kernel), rfl⟩
theorem w_741 : Cond.code yX8_volts cX8_volts 4 (some .long) ∈ lw_ok := List.mem_filter.mpr ⟨List.mem_of_getElem? (i := 741) (by decide +kernel), rfl⟩
theorem w_742 : Cond.methodLink "LeakyLineLaw" 67 yX8_whole ∈ lw_ok := List.mem_filter.mpr ⟨List.mem_of_getElem? (i := 742) (by decide +kernel), rfl⟩
theorem w_743 : Cond.instanceMethod yX8_whole ∈ lw_ok := List.mem_filter.mpr ⟨List.mem_of_getElem? (i := 743) (by decide +kernel), rfl⟩
theorem w_744 : Cond.selects RX8 yX8_whole yX8_whole ∈ lw_ok := List.mem_filter.mpr ⟨List.mem_of_getElem? (i := 744) (by decide +kernel), rfl⟩
theorem w_745 : Cond.code yX8_whole cX8_whole 3 (some .int) ∈ lw_ok := List.mem_filter.mpr ⟨List.mem_of_getElem? (i := 745) (by decide +kernel), rfl⟩
theorem w_746 : Cond.methodLink RX8 192 yX8_wholeVolts ∈ lw_ok := List.mem_filter.mpr ⟨List.mem_of_getElem? (i := 746) (by decide +kernel), rfl⟩
theorem w_748 : Cond.instanceMethod yX8_wholeVolts ∈ lw_ok := List.mem_filter.mpr ⟨List.mem_of_getElem? (i := 748) (by decide +kernel), rfl⟩
theorem w_749 : Cond.code yX8_wholeVolts cX8_wholeVolts 4 (some .int) ∈ lw_ok := List.mem_filter.mpr ⟨List.mem_of_getElem? (i := 749) (by decide +kernel), rfl⟩
theorem w_750 : Cond.methodLink "LeakyLineLaw" 71 yX8_falls ∈ lw_ok := List.mem_filter.mpr ⟨List.mem_of_getElem? (i := 750) (by decide +kernel), rfl⟩
theorem w_751 : Cond.instanceMethod yX8_falls ∈ lw_ok := List.mem_filter.mpr ⟨List.mem_of_getElem? (i := 751) (by decide +kernel), rfl⟩
theorem w_752 : Cond.selects RX8 yX8_falls yX8_falls ∈ lw_ok := List.mem_filter.mpr ⟨List.mem_of_getElem? (i := 752) (by decide +kernel), rfl⟩
theorem w_753 : Cond.code yX8_falls cX8_falls 4 (some .long) ∈ lw_ok := List.mem_filter.mpr ⟨List.mem_of_getElem? (i := 753) (by decide +kernel), rfl⟩
theorem w_754 : Cond.methodLink RX8 196 yX1_fallOver ∈ lw_ok := List.mem_filter.mpr ⟨List.mem_of_getElem? (i := 754) (by decide +kernel), rfl⟩
theorem w_755 : Cond.instanceMethod yX1_fallOver ∈ lw_ok := List.mem_filter.mpr ⟨List.mem_of_getElem? (i := 755) (by decide +kernel), rfl⟩
theorem w_756 : Cond.selects RX1 yX1_fallOver yX1_fallOver ∈ lw_ok := List.mem_filter.mpr ⟨List.mem_of_getElem? (i := 756) (by decide +kernel), rfl⟩
theorem w_757 : Cond.code yX1_fallOver cX1_fallOver 2 (some .long) ∈ lw_ok := List.mem_filter.mpr ⟨List.mem_of_getElem? (i := 757) (by decide +kernel), rfl⟩
theorem w_758 : Cond.methodLink "LeakyLineLaw" 75 yX8_earth ∈ lw_ok := List.mem_filter.mpr ⟨List.mem_of_getElem? (i := 758) (by decide +kernel), rfl⟩
theorem w_759 : Cond.instanceMethod yX8_earth ∈ lw_ok := List.mem_filter.mpr ⟨List.mem_of_getElem? (i := 759) (by decide +kernel), rfl⟩
theorem w_760 : Cond.selects RX8 yX8_earth yX8_earth ∈ lw_ok := List.mem_filter.mpr ⟨List.mem_of_getElem? (i := 760) (by decide +kernel), rfl⟩
theorem w_761 : Cond.code yX8_earth cX8_earth 4 (some .long) ∈ lw_ok := List.mem_filter.mpr ⟨List.mem_of_getElem? (i := 761) (by decide +kernel), rfl⟩
theorem w_762 : Cond.methodLink "LeakyLineLaw" 79 yX8_sore ∈ lw_ok := List.mem_filter.mpr ⟨List.mem_of_getElem? (i := 762) (by decide +kernel), rfl⟩
theorem w_763 : Cond.instanceMethod yX8_sore ∈ lw_ok := List.mem_filter.mpr ⟨List.mem_of_getElem? (i := 763) (by decide +kernel), rfl⟩
theorem w_764 : Cond.selects RX8 yX8_sore yX8_sore ∈ lw_ok := List.mem_filter.mpr ⟨List.mem_of_getElem? (i := 764) (by decide +kernel), rfl⟩
theorem w_765 : Cond.code yX8_sore cX8_sore 4 (some .int) ∈ lw_ok := List.mem_filter.mpr ⟨List.mem_of_getElem? (i := 765) (by decide +kernel), rfl⟩
theorem w_766 : Cond.methodLink RX8 203 yX1_leaksMore ∈ lw_ok := List.mem_filter.mpr ⟨List.mem_of_getElem? (i := 766) (by decide +kernel), rfl⟩
theorem w_767 : Cond.instanceMethod yX1_leaksMore ∈ lw_ok := List.mem_filter.mpr ⟨List.mem_of_getElem? (i := 767) (by decide +kernel), rfl⟩
theorem w_768 : Cond.selects RX1 yX1_leaksMore yX1_leaksMore ∈ lw_ok := List.mem_filter.mpr ⟨List.mem_of_getElem? (i := 768) (by decide +kernel), rfl⟩
theorem w_769 : Cond.code yX1_leaksMore cX1_leaksMore 3 (some .boolean) ∈ lw_ok := List.mem_filter.mpr ⟨List.mem_of_getElem? (i := 769) (by decide +kernel), rfl⟩
theorem w_770 : Cond.methodLink "LeakyLineLaw" 83 yX8_hears ∈ lw_ok := List.mem_filter.mpr ⟨List.mem_of_getElem? (i := 770) (by decide +kernel), rfl⟩
theorem w_771 : Cond.instanceMethod yX8_hears ∈ lw_ok := List.mem_filter.mpr ⟨List.mem_of_getElem? (i := 771) (by decide +kernel), rfl⟩
theorem w_772 : Cond.selects RX8 yX8_hears yX8_hears ∈ lw_ok := List.mem_filter.mpr ⟨List.mem_of_getElem? (i := 772) (by decide +kernel), rfl⟩
theorem w_773 : Cond.code yX8_hears cX8_hears 2 (some .int) ∈ lw_ok := List.mem_filter.mpr ⟨List.mem_of_getElem? (i := 773) (by decide +kernel), rfl⟩
theorem w_774 : Cond.methodLink RX8 207 yX8_heardBits ∈ lw_ok := List.mem_filter.mpr ⟨List.mem_of_getElem? (i := 774) (by decide +kernel), rfl⟩
theorem w_776 : Cond.instanceMethod yX8_heardBits ∈ lw_ok := List.mem_filter.mpr ⟨List.mem_of_getElem? (i := 776) (by decide +kernel), rfl⟩
theorem w_777 : Cond.code yX8_heardBits cX8_heardBits 4 (some .int) ∈ lw_ok := List.mem_filter.mpr ⟨List.mem_of_getElem? (i := 777) (by decide +kernel), rfl⟩
theorem w_778 : Cond.methodLink RX8 213 yX8_isStation ∈ lw_ok := List.mem_filter.mpr ⟨List.mem_of_getElem? (i := 778) (by decide +kernel), rfl⟩
theorem w_780 : Cond.instanceMethod yX8_isStation ∈ lw_ok := List.mem_filter.mpr ⟨List.mem_of_getElem? (i := 780) (by decide +kernel), rfl⟩
theorem w_781 : Cond.code yX8_isStation cX8_isStation 2 (some .boolean) ∈ lw_ok := List.mem_filter.mpr ⟨List.mem_of_getElem? (i := 781) (by decide +kernel), rfl⟩
theorem w_782 : Cond.methodLink RX8 399 yX1_isEnough ∈ lw_ok := List.mem_filter.mpr ⟨List.mem_of_getElem? (i := 782) (by decide +kernel), rfl⟩
theorem w_783 : Cond.instanceMethod yX1_isEnough ∈ lw_ok := List.mem_filter.mpr ⟨List.mem_of_getElem? (i := 783) (by decide +kernel), rfl⟩
theorem w_784 : Cond.selects RX1 yX1_isEnough yX1_isEnough ∈ lw_ok := List.mem_filter.mpr ⟨List.mem_of_getElem? (i := 784) (by decide +kernel), rfl⟩
theorem w_785 : Cond.code yX1_isEnough cX1_isEnough 6 (some .boolean) ∈ lw_ok := List.mem_filter.mpr ⟨List.mem_of_getElem? (i := 785) (by decide +kernel), rfl⟩
theorem w_786 : Cond.methodLink "LeakyLineLaw" 87 yX8_silent ∈ lw_ok := List.mem_filter.mpr ⟨List.mem_of_getElem? (i := 786) (by decide +kernel), rfl⟩
theorem w_787 : Cond.instanceMethod yX8_silent ∈ lw_ok := List.mem_filter.mpr ⟨List.mem_of_getElem? (i := 787) (by decide +kernel), rfl⟩
theorem w_788 : Cond.selects RX8 yX8_silent yX8_silent ∈ lw_ok := List.mem_filter.mpr ⟨List.mem_of_getElem? (i := 788) (by decide +kernel), rfl⟩
theorem w_789 : Cond.code yX8_silent cX8_silent 2 (some .int) ∈ lw_ok := List.mem_filter.mpr ⟨List.mem_of_getElem? (i := 789) (by decide +kernel), rfl⟩
theorem w_790 : Cond.methodLink "LeakyLineLaw" 91 yX8_faint ∈ lw_ok := List.mem_filter.mpr ⟨List.mem_of_getElem? (i := 790) (by decide +kernel), rfl⟩
theorem w_791 : Cond.instanceMethod yX8_faint ∈ lw_ok := List.mem_filter.mpr ⟨List.mem_of_getElem? (i := 791) (by decide +kernel), rfl⟩
theorem w_792 : Cond.selects RX8 yX8_faint yX8_faint ∈ lw_ok := List.mem_filter.mpr ⟨List.mem_of_getElem? (i := 792) (by decide +kernel), rfl⟩
theorem w_793 : Cond.code yX8_faint cX8_faint 4 (some .int) ∈ lw_ok := List.mem_filter.mpr ⟨List.mem_of_getElem? (i := 793) (by decide +kernel), rfl⟩
theorem w_794 : Cond.methodLink "LeakyLineLaw" 95 yX8_when ∈ lw_ok := List.mem_filter.mpr ⟨List.mem_of_getElem? (i := 794) (by decide +kernel), rfl⟩
theorem w_795 : Cond.instanceMethod yX8_when ∈ lw_ok := List.mem_filter.mpr ⟨List.mem_of_getElem? (i := 795) (by decide +kernel), rfl⟩
theorem w_796 : Cond.selects RX8 yX8_when yX8_when ∈ lw_ok := List.mem_filter.mpr ⟨List.mem_of_getElem? (i := 796) (by decide +kernel), rfl⟩
theorem w_797 : Cond.code yX8_when cX8_when 3 (some .int) ∈ lw_ok := List.mem_filter.mpr ⟨List.mem_of_getElem? (i := 797) (by decide +kernel), rfl⟩
theorem w_798 : Cond.methodLink RX8 216 yX8_allDays ∈ lw_ok := List.mem_filter.mpr ⟨List.mem_of_getElem? (i := 798) (by decide +kernel), rfl⟩
theorem w_800 : Cond.instanceMethod yX8_allDays ∈ lw_ok := List.mem_filter.mpr ⟨List.mem_of_getElem? (i := 800) (by decide +kernel), rfl⟩
theorem w_801 : Cond.code yX8_allDays cX8_allDays 1 (some .int) ∈ lw_ok := List.mem_filter.mpr ⟨List.mem_of_getElem? (i := 801) (by decide +kernel), rfl⟩
theorem w_802 : Cond.methodLink RX8 219 yX8_hearingDays ∈ lw_ok := List.mem_filter.mpr ⟨List.mem_of_getElem? (i := 802) (by decide +kernel), rfl⟩
theorem w_804 : Cond.instanceMethod yX8_hearingDays ∈ lw_ok := List.mem_filter.mpr ⟨List.mem_of_getElem? (i := 804) (by decide +kernel), rfl⟩
theorem w_805 : Cond.code yX8_hearingDays cX8_hearingDays 2 (some .int) ∈ lw_ok := List.mem_filter.mpr ⟨List.mem_of_getElem? (i := 805) (by decide +kernel), rfl⟩
theorem w_806 : Cond.methodLink RX8 403 yX8_daysHeard ∈ lw_ok := List.mem_filter.mpr ⟨List.mem_of_getElem? (i := 806) (by decide +kernel), rfl⟩
theorem w_808 : Cond.instanceMethod yX8_daysHeard ∈ lw_ok := List.mem_filter.mpr ⟨List.mem_of_getElem? (i := 808) (by decide +kernel), rfl⟩
theorem w_809 : Cond.code yX8_daysHeard cX8_daysHeard 4 (some .int) ∈ lw_ok := List.mem_filter.mpr ⟨List.mem_of_getElem? (i := 809) (by decide +kernel), rfl⟩
theorem w_810 : Cond.methodLink RX8 272 yX8_hasBit ∈ lw_ok := List.mem_filter.mpr ⟨List.mem_of_getElem? (i := 810) (by decide +kernel), rfl⟩
theorem w_811 : Cond.methodLink RX8 222 yJ6_numberOfTrailingZeros_0f7a4 ∈ lw_ok := List.mem_filter.mpr ⟨List.mem_of_getElem? (i := 811) (by decide +kernel), rfl⟩
theorem w_812 : Cond.static yJ6_numberOfTrailingZeros_0f7a4 ∈ lw_ok := List.mem_filter.mpr ⟨List.mem_of_getElem? (i := 812) (by decide +kernel), rfl⟩
theorem w_813 : Cond.code yJ6_numberOfTrailingZeros_0f7a4 cJ6_numberOfTrailingZeros_0f7a4 2 (some .int) ∈ lw_ok := List.mem_filter.mpr ⟨List.mem_of_getElem? (i := 813) (by decide +kernel), rfl⟩
theorem w_814 : Cond.methodLink "LeakyLineLaw" 99 yX8_deaf ∈ lw_ok := List.mem_filter.mpr ⟨List.mem_of_getElem? (i := 814) (by decide +kernel), rfl⟩
theorem w_815 : Cond.instanceMethod yX8_deaf ∈ lw_ok := List.mem_filter.mpr ⟨List.mem_of_getElem? (i := 815) (by decide +kernel), rfl⟩
theorem w_816 : Cond.selects RX8 yX8_deaf yX8_deaf ∈ lw_ok := List.mem_filter.mpr ⟨List.mem_of_getElem? (i := 816) (by decide +kernel), rfl⟩
theorem w_817 : Cond.code yX8_deaf cX8_deaf 2 (some .int) ∈ lw_ok := List.mem_filter.mpr ⟨List.mem_of_getElem? (i := 817) (by decide +kernel), rfl⟩
theorem w_818 : Cond.methodLink RX8 227 yJ6_bitCount_0f7a4 ∈ lw_ok := List.mem_filter.mpr ⟨List.mem_of_getElem? (i := 818) (by decide +kernel), rfl⟩
theorem w_819 : Cond.methodLink "LeakyLineLaw" 103 yX8_longest ∈ lw_ok := List.mem_filter.mpr ⟨List.mem_of_getElem? (i := 819) (by decide +kernel), rfl⟩
theorem w_820 : Cond.instanceMethod yX8_longest ∈ lw_ok := List.mem_filter.mpr ⟨List.mem_of_getElem? (i := 820) (by decide +kernel), rfl⟩
theorem w_821 : Cond.selects RX8 yX8_longest yX8_longest ∈ lw_ok := List.mem_filter.mpr ⟨List.mem_of_getElem? (i := 821) (by decide +kernel), rfl⟩
theorem w_822 : Cond.code yX8_longest cX8_longest 2 (some .int) ∈ lw_ok := List.mem_filter.mpr ⟨List.mem_of_getElem? (i := 822) (by decide +kernel), rfl⟩
theorem w_823 : Cond.methodLink RX8 230 yX8_longestRun ∈ lw_ok := List.mem_filter.mpr ⟨List.mem_of_getElem? (i := 823) (by decide +kernel), rfl⟩
theorem w_824 : Cond.static yX8_longestRun ∈ lw_ok := List.mem_filter.mpr ⟨List.mem_of_getElem? (i := 824) (by decide +kernel), rfl⟩
theorem w_825 : Cond.code yX8_longestRun cX8_longestRun 4 (some .int) ∈ lw_ok := List.mem_filter.mpr ⟨List.mem_of_getElem? (i := 825) (by decide +kernel), rfl⟩
theorem w_826 : Cond.methodLink RX8 249 yJ9_max_7cf53 ∈ lw_ok := List.mem_filter.mpr ⟨List.mem_of_getElem? (i := 826) (by decide +kernel), rfl⟩
theorem w_827 : Cond.methodLink "LeakyLineLaw" 107 yX8_flips ∈ lw_ok := List.mem_filter.mpr ⟨List.mem_of_getElem? (i := 827) (by decide +kernel), rfl⟩
theorem w_828 : Cond.instanceMethod yX8_flips ∈ lw_ok := List.mem_filter.mpr ⟨List.mem_of_getElem? (i := 828) (by decide +kernel), rfl⟩
theorem w_829 : Cond.selects RX8 yX8_flips yX8_flips ∈ lw_ok := List.mem_filter.mpr ⟨List.mem_of_getElem? (i := 829) (by decide +kernel), rfl⟩
theorem w_830 : Cond.code yX8_flips cX8_flips 3 (some .int) ∈ lw_ok := List.mem_filter.mpr ⟨List.mem_of_getElem? (i := 830) (by decide +kernel), rfl⟩
theorem w_831 : Cond.methodLink "LeakyLineLaw" 111 yX8_clear ∈ lw_ok := List.mem_filter.mpr ⟨List.mem_of_getElem? (i := 831) (by decide +kernel), rfl⟩
theorem w_832 : Cond.instanceMethod yX8_clear ∈ lw_ok := List.mem_filter.mpr ⟨List.mem_of_getElem? (i := 832) (by decide +kernel), rfl⟩
theorem w_833 : Cond.selects RX8 yX8_clear yX8_clear ∈ lw_ok := List.mem_filter.mpr ⟨List.mem_of_getElem? (i := 833) (by decide +kernel), rfl⟩
theorem w_834 : Cond.code yX8_clear cX8_clear 1 (some .int) ∈ lw_ok := List.mem_filter.mpr ⟨List.mem_of_getElem? (i := 834) (by decide +kernel), rfl⟩
theorem w_835 : Cond.methodLink RX8 233 yX8_clearDays ∈ lw_ok := List.mem_filter.mpr ⟨List.mem_of_getElem? (i := 835) (by decide +kernel), rfl⟩
theorem w_837 : Cond.instanceMethod yX8_clearDays ∈ lw_ok := List.mem_filter.mpr ⟨List.mem_of_getElem? (i := 837) (by decide +kernel), rfl⟩
theorem w_838 : Cond.code yX8_clearDays cX8_clearDays 3 (some .int) ∈ lw_ok := List.mem_filter.mpr ⟨List.mem_of_getElem? (i := 838) (by decide +kernel), rfl⟩
theorem w_839 : Cond.methodLink RX8 239 yX8_listenAsTold ∈ lw_ok := List.mem_filter.mpr ⟨List.mem_of_getElem? (i := 839) (by decide +kernel), rfl⟩
theorem w_841 : Cond.instanceMethod yX8_listenAsTold ∈ lw_ok := List.mem_filter.mpr ⟨List.mem_of_getElem? (i := 841) (by decide +kernel), rfl⟩
theorem w_842 : Cond.code yX8_listenAsTold cX8_listenAsTold 2 none ∈ lw_ok := List.mem_filter.mpr ⟨List.mem_of_getElem? (i := 842) (by decide +kernel), rfl⟩
theorem w_843 : Cond.methodLink "LeakyLineLaw" 115 yX8_last ∈ lw_ok := List.mem_filter.mpr ⟨List.mem_of_getElem? (i := 843) (by decide +kernel), rfl⟩
theorem w_844 : Cond.instanceMethod yX8_last ∈ lw_ok := List.mem_filter.mpr ⟨List.mem_of_getElem? (i := 844) (by decide +kernel), rfl⟩
theorem w_845 : Cond.selects RX8 yX8_last yX8_last ∈ lw_ok := List.mem_filter.mpr ⟨List.mem_of_getElem? (i := 845) (by decide +kernel), rfl⟩
theorem w_846 : Cond.code yX8_last cX8_last 1 (some .int) ∈ lw_ok := List.mem_filter.mpr ⟨List.mem_of_getElem? (i := 846) (by decide +kernel), rfl⟩
theorem w_847 : Cond.methodLink RX8 236 yX8_highestBit ∈ lw_ok := List.mem_filter.mpr ⟨List.mem_of_getElem? (i := 847) (by decide +kernel), rfl⟩
theorem w_848 : Cond.static yX8_highestBit ∈ lw_ok := List.mem_filter.mpr ⟨List.mem_of_getElem? (i := 848) (by decide +kernel), rfl⟩
theorem w_849 : Cond.code yX8_highestBit cX8_highestBit 1 (some .int) ∈ lw_ok := List.mem_filter.mpr ⟨List.mem_of_getElem? (i := 849) (by decide +kernel), rfl⟩
theorem w_850 : Cond.methodLink RX8 392 yJ6_numberOfLeadingZeros_0f7a4 ∈ lw_ok := List.mem_filter.mpr ⟨List.mem_of_getElem? (i := 850) (by decide +kernel), rfl⟩
theorem w_851 : Cond.methodLink "LeakyLineLaw" 119 yX8_dim ∈ lw_ok := List.mem_filter.mpr ⟨List.mem_of_getElem? (i := 851) (by decide +kernel), rfl⟩
theorem w_852 : Cond.instanceMethod yX8_dim ∈ lw_ok := List.mem_filter.mpr ⟨List.mem_of_getElem? (i := 852) (by decide +kernel), rfl⟩
theorem w_853 : Cond.selects RX8 yX8_dim yX8_dim ∈ lw_ok := List.mem_filter.mpr ⟨List.mem_of_getElem? (i := 853) (by decide +kernel), rfl⟩
theorem w_854 : Cond.code yX8_dim cX8_dim 3 (some .int) ∈ lw_ok := List.mem_filter.mpr ⟨List.mem_of_getElem? (i := 854) (by decide +kernel), rfl⟩
theorem w_855 : Cond.methodLink "LeakyLineLaw" 123 yX8_sum ∈ lw_ok := List.mem_filter.mpr ⟨List.mem_of_getElem? (i := 855) (by decide +kernel), rfl⟩
theorem w_856 : Cond.instanceMethod yX8_sum ∈ lw_ok := List.mem_filter.mpr ⟨List.mem_of_getElem? (i := 856) (by decide +kernel), rfl⟩
theorem w_857 : Cond.selects RX8 yX8_sum yX8_sum ∈ lw_ok := List.mem_filter.mpr ⟨List.mem_of_getElem? (i := 857) (by decide +kernel), rfl⟩
theorem w_858 : Cond.code yX8_sum cX8_sum 1 (some .int) ∈ lw_ok := List.mem_filter.mpr ⟨List.mem_of_getElem? (i := 858) (by decide +kernel), rfl⟩
theorem w_859 : Cond.methodLink RX8 245 yX8_heardInAll ∈ lw_ok := List.mem_filter.mpr ⟨List.mem_of_getElem? (i := 859) (by decide +kernel), rfl⟩
theorem w_861 : Cond.instanceMethod yX8_heardInAll ∈ lw_ok := List.mem_filter.mpr ⟨List.mem_of_getElem? (i := 861) (by decide +kernel), rfl⟩
theorem w_862 : Cond.code yX8_heardInAll cX8_heardInAll 3 (some .int) ∈ lw_ok := List.mem_filter.mpr ⟨List.mem_of_getElem? (i := 862) (by decide +kernel), rfl⟩
theorem w_863 : Cond.methodLink "LeakyLineLaw" 127 yX8_worst ∈ lw_ok := List.mem_filter.mpr ⟨List.mem_of_getElem? (i := 863) (by decide +kernel), rfl⟩
theorem w_864 : Cond.instanceMethod yX8_worst ∈ lw_ok := List.mem_filter.mpr ⟨List.mem_of_getElem? (i := 864) (by decide +kernel), rfl⟩
theorem w_865 : Cond.selects RX8 yX8_worst yX8_worst ∈ lw_ok := List.mem_filter.mpr ⟨List.mem_of_getElem? (i := 865) (by decide +kernel), rfl⟩
theorem w_866 : Cond.code yX8_worst cX8_worst 4 (some .int) ∈ lw_ok := List.mem_filter.mpr ⟨List.mem_of_getElem? (i := 866) (by decide +kernel), rfl⟩
theorem w_867 : Cond.methodLink "LeakyLineLaw" 131 yX8_damp ∈ lw_ok := List.mem_filter.mpr ⟨List.mem_of_getElem? (i := 867) (by decide +kernel), rfl⟩
theorem w_868 : Cond.instanceMethod yX8_damp ∈ lw_ok := List.mem_filter.mpr ⟨List.mem_of_getElem? (i := 868) (by decide +kernel), rfl⟩
theorem w_869 : Cond.selects RX8 yX8_damp yX8_damp ∈ lw_ok := List.mem_filter.mpr ⟨List.mem_of_getElem? (i := 869) (by decide +kernel), rfl⟩
theorem w_870 : Cond.code yX8_damp cX8_damp 4 (some .int) ∈ lw_ok := List.mem_filter.mpr ⟨List.mem_of_getElem? (i := 870) (by decide +kernel), rfl⟩
theorem w_871 : Cond.methodLink "LeakyLineLaw" 135 yX8_spell ∈ lw_ok := List.mem_filter.mpr ⟨List.mem_of_getElem? (i := 871) (by decide +kernel), rfl⟩
theorem w_872 : Cond.instanceMethod yX8_spell ∈ lw_ok := List.mem_filter.mpr ⟨List.mem_of_getElem? (i := 872) (by decide +kernel), rfl⟩
theorem w_873 : Cond.selects RX8 yX8_spell yX8_spell ∈ lw_ok := List.mem_filter.mpr ⟨List.mem_of_getElem? (i := 873) (by decide +kernel), rfl⟩
theorem w_874 : Cond.code yX8_spell cX8_spell 1 (some .int) ∈ lw_ok := List.mem_filter.mpr ⟨List.mem_of_getElem? (i := 874) (by decide +kernel), rfl⟩
theorem w_875 : Cond.methodLink "LeakyLineLaw" 139 yX8_margin ∈ lw_ok := List.mem_filter.mpr ⟨List.mem_of_getElem? (i := 875) (by decide +kernel), rfl⟩
theorem w_876 : Cond.instanceMethod yX8_margin ∈ lw_ok := List.mem_filter.mpr ⟨List.mem_of_getElem? (i := 876) (by decide +kernel), rfl⟩
theorem w_877 : Cond.selects RX8 yX8_margin yX8_margin ∈ lw_ok := List.mem_filter.mpr ⟨List.mem_of_getElem? (i := 877) (by decide +kernel), rfl⟩
theorem w_878 : Cond.code yX8_margin cX8_margin 3 (some .int) ∈ lw_ok := List.mem_filter.mpr ⟨List.mem_of_getElem? (i := 878) (by decide +kernel), rfl⟩
theorem w_879 : Cond.methodLink "LeakyLineLaw" 143 yX8_bright ∈ lw_ok := List.mem_filter.mpr ⟨List.mem_of_getElem? (i := 879) (by decide +kernel), rfl⟩
theorem w_880 : Cond.instanceMethod yX8_bright ∈ lw_ok := List.mem_filter.mpr ⟨List.mem_of_getElem? (i := 880) (by decide +kernel), rfl⟩
theorem w_881 : Cond.selects RX8 yX8_bright yX8_bright ∈ lw_ok := List.mem_filter.mpr ⟨List.mem_of_getElem? (i := 881) (by decide +kernel), rfl⟩
theorem w_882 : Cond.code yX8_bright cX8_bright 3 (some .int) ∈ lw_ok := List.mem_filter.mpr ⟨List.mem_of_getElem? (i := 882) (by decide +kernel), rfl⟩
theorem w_883 : Cond.methodLink "LeakyLineLaw" 147 yX8_rises ∈ lw_ok := List.mem_filter.mpr ⟨List.mem_of_getElem? (i := 883) (by decide +kernel), rfl⟩
theorem w_884 : Cond.instanceMethod yX8_rises ∈ lw_ok := List.mem_filter.mpr ⟨List.mem_of_getElem? (i := 884) (by decide +kernel), rfl⟩
theorem w_885 : Cond.selects RX8 yX8_rises yX8_rises ∈ lw_ok := List.mem_filter.mpr ⟨List.mem_of_getElem? (i := 885) (by decide +kernel), rfl⟩
theorem w_886 : Cond.code yX8_rises cX8_rises 4 (some .int) ∈ lw_ok := List.mem_filter.mpr ⟨List.mem_of_getElem? (i := 886) (by decide +kernel), rfl⟩
theorem w_887 : Cond.methodLink "LeakyLineLaw" 151 yX8_dry ∈ lw_ok := List.mem_filter.mpr ⟨List.mem_of_getElem? (i := 887) (by decide +kernel), rfl⟩
theorem w_888 : Cond.instanceMethod yX8_dry ∈ lw_ok := List.mem_filter.mpr ⟨List.mem_of_getElem? (i := 888) (by decide +kernel), rfl⟩
theorem w_889 : Cond.selects RX8 yX8_dry yX8_dry ∈ lw_ok := List.mem_filter.mpr ⟨List.mem_of_getElem? (i := 889) (by decide +kernel), rfl⟩
theorem w_890 : Cond.code yX8_dry cX8_dry 1 (some .int) ∈ lw_ok := List.mem_filter.mpr ⟨List.mem_of_getElem? (i := 890) (by decide +kernel), rfl⟩
theorem w_891 : Cond.methodLink "LeakyLineLaw" 155 yX8_ends ∈ lw_ok := List.mem_filter.mpr ⟨List.mem_of_getElem? (i := 891) (by decide +kernel), rfl⟩
theorem w_892 : Cond.instanceMethod yX8_ends ∈ lw_ok := List.mem_filter.mpr ⟨List.mem_of_getElem? (i := 892) (by decide +kernel), rfl⟩
theorem w_893 : Cond.selects RX8 yX8_ends yX8_ends ∈ lw_ok := List.mem_filter.mpr ⟨List.mem_of_getElem? (i := 893) (by decide +kernel), rfl⟩
theorem w_894 : Cond.code yX8_ends cX8_ends 3 (some .int) ∈ lw_ok := List.mem_filter.mpr ⟨List.mem_of_getElem? (i := 894) (by decide +kernel), rfl⟩
theorem w_895 : Cond.methodLink "LeakyLineLaw" 159 yX8_reach ∈ lw_ok := List.mem_filter.mpr ⟨List.mem_of_getElem? (i := 895) (by decide +kernel), rfl⟩
theorem w_896 : Cond.instanceMethod yX8_reach ∈ lw_ok := List.mem_filter.mpr ⟨List.mem_of_getElem? (i := 896) (by decide +kernel), rfl⟩
theorem w_897 : Cond.selects RX8 yX8_reach yX8_reach ∈ lw_ok := List.mem_filter.mpr ⟨List.mem_of_getElem? (i := 897) (by decide +kernel), rfl⟩
theorem w_898 : Cond.code yX8_reach cX8_reach 2 (some .int) ∈ lw_ok := List.mem_filter.mpr ⟨List.mem_of_getElem? (i := 898) (by decide +kernel), rfl⟩
theorem w_899 : Cond.methodLink "LeakyLineLaw" 163 yX8_both ∈ lw_ok := List.mem_filter.mpr ⟨List.mem_of_getElem? (i := 899) (by decide +kernel), rfl⟩
theorem w_900 : Cond.instanceMethod yX8_both ∈ lw_ok := List.mem_filter.mpr ⟨List.mem_of_getElem? (i := 900) (by decide +kernel), rfl⟩
theorem w_901 : Cond.selects RX8 yX8_both yX8_both ∈ lw_ok := List.mem_filter.mpr ⟨List.mem_of_getElem? (i := 901) (by decide +kernel), rfl⟩
theorem w_902 : Cond.code yX8_both cX8_both 3 (some .int) ∈ lw_ok := List.mem_filter.mpr ⟨List.mem_of_getElem? (i := 902) (by decide +kernel), rfl⟩
theorem w_903 : Cond.methodLink "LeakyLineLaw" 167 yX8_apart ∈ lw_ok := List.mem_filter.mpr ⟨List.mem_of_getElem? (i := 903) (by decide +kernel), rfl⟩
theorem w_904 : Cond.instanceMethod yX8_apart ∈ lw_ok := List.mem_filter.mpr ⟨List.mem_of_getElem? (i := 904) (by decide +kernel), rfl⟩
theorem w_905 : Cond.selects RX8 yX8_apart yX8_apart ∈ lw_ok := List.mem_filter.mpr ⟨List.mem_of_getElem? (i := 905) (by decide +kernel), rfl⟩
theorem w_906 : Cond.code yX8_apart cX8_apart 3 (some .int) ∈ lw_ok := List.mem_filter.mpr ⟨List.mem_of_getElem? (i := 906) (by decide +kernel), rfl⟩
theorem w_907 : Cond.methodLink "LeakyLineLaw" 171 yX8_half ∈ lw_ok := List.mem_filter.mpr ⟨List.mem_of_getElem? (i := 907) (by decide +kernel), rfl⟩
theorem w_908 : Cond.instanceMethod yX8_half ∈ lw_ok := List.mem_filter.mpr ⟨List.mem_of_getElem? (i := 908) (by decide +kernel), rfl⟩
theorem w_909 : Cond.selects RX8 yX8_half yX8_half ∈ lw_ok := List.mem_filter.mpr ⟨List.mem_of_getElem? (i := 909) (by decide +kernel), rfl⟩
theorem w_910 : Cond.code yX8_half cX8_half 3 (some .int) ∈ lw_ok := List.mem_filter.mpr ⟨List.mem_of_getElem? (i := 910) (by decide +kernel), rfl⟩
theorem w_911 : Cond.constantLong RX8 255 2 ∈ lw_ok := List.mem_filter.mpr ⟨List.mem_of_getElem? (i := 911) (by decide +kernel), rfl⟩
theorem w_912 : Cond.methodLink "LeakyLineLaw" 175 yX8_grounds ∈ lw_ok := List.mem_filter.mpr ⟨List.mem_of_getElem? (i := 912) (by decide +kernel), rfl⟩
theorem w_913 : Cond.instanceMethod yX8_grounds ∈ lw_ok := List.mem_filter.mpr ⟨List.mem_of_getElem? (i := 913) (by decide +kernel), rfl⟩
theorem w_914 : Cond.selects RX8 yX8_grounds yX8_grounds ∈ lw_ok := List.mem_filter.mpr ⟨List.mem_of_getElem? (i := 914) (by decide +kernel), rfl⟩
theorem w_915 : Cond.code yX8_grounds cX8_grounds 4 (some .int) ∈ lw_ok := List.mem_filter.mpr ⟨List.mem_of_getElem? (i := 915) (by decide +kernel), rfl⟩
theorem w_916 : Cond.methodLink "LeakyLineLaw" 179 yX8_steep ∈ lw_ok := List.mem_filter.mpr ⟨List.mem_of_getElem? (i := 916) (by decide +kernel), rfl⟩
theorem w_917 : Cond.instanceMethod yX8_steep ∈ lw_ok := List.mem_filter.mpr ⟨List.mem_of_getElem? (i := 917) (by decide +kernel), rfl⟩
theorem w_918 : Cond.selects RX8 yX8_steep yX8_steep ∈ lw_ok := List.mem_filter.mpr ⟨List.mem_of_getElem? (i := 918) (by decide +kernel), rfl⟩
theorem w_919 : Cond.code yX8_steep cX8_steep 4 (some .int) ∈ lw_ok := List.mem_filter.mpr ⟨List.mem_of_getElem? (i := 919) (by decide +kernel), rfl⟩
theorem w_920 : Cond.methodLink "LeakyLineLaw" 183 yX8_mute ∈ lw_ok := List.mem_filter.mpr ⟨List.mem_of_getElem? (i := 920) (by decide +kernel), rfl⟩
theorem w_921 : Cond.instanceMethod yX8_mute ∈ lw_ok := List.mem_filter.mpr ⟨List.mem_of_getElem? (i := 921) (by decide +kernel), rfl⟩
theorem w_922 : Cond.selects RX8 yX8_mute yX8_mute ∈ lw_ok := List.mem_filter.mpr ⟨List.mem_of_getElem? (i := 922) (by decide +kernel), rfl⟩
theorem w_923 : Cond.code yX8_mute cX8_mute 3 (some .int) ∈ lw_ok := List.mem_filter.mpr ⟨List.mem_of_getElem? (i := 923) (by decide +kernel), rfl⟩
theorem w_924 : Cond.methodLink "LeakyLineLaw" 187 yX8_changes ∈ lw_ok := List.mem_filter.mpr ⟨List.mem_of_getElem? (i := 924) (by decide +kernel), rfl⟩
theorem w_925 : Cond.instanceMethod yX8_changes ∈ lw_ok := List.mem_filter.mpr ⟨List.mem_of_getElem? (i := 925) (by decide +kernel), rfl⟩
theorem w_926 : Cond.selects RX8 yX8_changes yX8_changes ∈ lw_ok := List.mem_filter.mpr ⟨List.mem_of_getElem? (i := 926) (by decide +kernel), rfl⟩
theorem w_927 : Cond.code yX8_changes cX8_changes 3 (some .int) ∈ lw_ok := List.mem_filter.mpr ⟨List.mem_of_getElem? (i := 927) (by decide +kernel), rfl⟩
theorem w_928 : Cond.methodLink "LeakyLineLaw" 191 yX8_all ∈ lw_ok := List.mem_filter.mpr ⟨List.mem_of_getElem? (i := 928) (by decide +kernel), rfl⟩
theorem w_929 : Cond.instanceMethod yX8_all ∈ lw_ok := List.mem_filter.mpr ⟨List.mem_of_getElem? (i := 929) (by decide +kernel), rfl⟩
theorem w_930 : Cond.selects RX8 yX8_all yX8_all ∈ lw_ok := List.mem_filter.mpr ⟨List.mem_of_getElem? (i := 930) (by decide +kernel), rfl⟩
theorem w_931 : Cond.code yX8_all cX8_all 1 (some .int) ∈ lw_ok := List.mem_filter.mpr ⟨List.mem_of_getElem? (i := 931) (by decide +kernel), rfl⟩
theorem w_932 : Cond.methodLink RX8 257 yX8_allPoles ∈ lw_ok := List.mem_filter.mpr ⟨List.mem_of_getElem? (i := 932) (by decide +kernel), rfl⟩
theorem w_934 : Cond.instanceMethod yX8_allPoles ∈ lw_ok := List.mem_filter.mpr ⟨List.mem_of_getElem? (i := 934) (by decide +kernel), rfl⟩
theorem w_935 : Cond.code yX8_allPoles cX8_allPoles 1 (some .int) ∈ lw_ok := List.mem_filter.mpr ⟨List.mem_of_getElem? (i := 935) (by decide +kernel), rfl⟩
theorem w_936 : Cond.methodLink RX8 260 yX8_worthOf ∈ lw_ok := List.mem_filter.mpr ⟨List.mem_of_getElem? (i := 936) (by decide +kernel), rfl⟩
theorem w_938 : Cond.instanceMethod yX8_worthOf ∈ lw_ok := List.mem_filter.mpr ⟨List.mem_of_getElem? (i := 938) (by decide +kernel), rfl⟩
theorem w_939 : Cond.code yX8_worthOf cX8_worthOf 2 (some .int) ∈ lw_ok := List.mem_filter.mpr ⟨List.mem_of_getElem? (i := 939) (by decide +kernel), rfl⟩
theorem w_940 : Cond.methodLink "LeakyLineLaw" 195 yX8_without ∈ lw_ok := List.mem_filter.mpr ⟨List.mem_of_getElem? (i := 940) (by decide +kernel), rfl⟩
theorem w_941 : Cond.instanceMethod yX8_without ∈ lw_ok := List.mem_filter.mpr ⟨List.mem_of_getElem? (i := 941) (by decide +kernel), rfl⟩
theorem w_942 : Cond.selects RX8 yX8_without yX8_without ∈ lw_ok := List.mem_filter.mpr ⟨List.mem_of_getElem? (i := 942) (by decide +kernel), rfl⟩
theorem w_943 : Cond.code yX8_without cX8_without 2 (some .int) ∈ lw_ok := List.mem_filter.mpr ⟨List.mem_of_getElem? (i := 943) (by decide +kernel), rfl⟩
theorem w_944 : Cond.methodLink "LeakyLineLaw" 199 yX8_cupped ∈ lw_ok := List.mem_filter.mpr ⟨List.mem_of_getElem? (i := 944) (by decide +kernel), rfl⟩
theorem w_945 : Cond.instanceMethod yX8_cupped ∈ lw_ok := List.mem_filter.mpr ⟨List.mem_of_getElem? (i := 945) (by decide +kernel), rfl⟩
theorem w_946 : Cond.selects RX8 yX8_cupped yX8_cupped ∈ lw_ok := List.mem_filter.mpr ⟨List.mem_of_getElem? (i := 946) (by decide +kernel), rfl⟩
theorem w_947 : Cond.code yX8_cupped cX8_cupped 3 (some .int) ∈ lw_ok := List.mem_filter.mpr ⟨List.mem_of_getElem? (i := 947) (by decide +kernel), rfl⟩
theorem w_948 : Cond.methodLink RX8 266 yX2_latestCup ∈ lw_ok := List.mem_filter.mpr ⟨List.mem_of_getElem? (i := 948) (by decide +kernel), rfl⟩
theorem w_949 : Cond.methodLink "LeakyLineLaw" 203 yX8_snapped ∈ lw_ok := List.mem_filter.mpr ⟨List.mem_of_getElem? (i := 949) (by decide +kernel), rfl⟩
theorem w_950 : Cond.instanceMethod yX8_snapped ∈ lw_ok := List.mem_filter.mpr ⟨List.mem_of_getElem? (i := 950) (by decide +kernel), rfl⟩
theorem w_951 : Cond.selects RX8 yX8_snapped yX8_snapped ∈ lw_ok := List.mem_filter.mpr ⟨List.mem_of_getElem? (i := 951) (by decide +kernel), rfl⟩
theorem w_952 : Cond.code yX8_snapped cX8_snapped 2 (some .int) ∈ lw_ok := List.mem_filter.mpr ⟨List.mem_of_getElem? (i := 952) (by decide +kernel), rfl⟩
theorem w_953 : Cond.methodLink RX8 269 yX2_firstSnap ∈ lw_ok := List.mem_filter.mpr ⟨List.mem_of_getElem? (i := 953) (by decide +kernel), rfl⟩
theorem w_954 : Cond.instanceMethod yX2_firstSnap ∈ lw_ok := List.mem_filter.mpr ⟨List.mem_of_getElem? (i := 954) (by decide +kernel), rfl⟩
theorem w_955 : Cond.selects RX2 yX2_firstSnap yX2_firstSnap ∈ lw_ok := List.mem_filter.mpr ⟨List.mem_of_getElem? (i := 955) (by decide +kernel), rfl⟩
theorem w_956 : Cond.code yX2_firstSnap cX2_firstSnap 2 (some .int) ∈ lw_ok := List.mem_filter.mpr ⟨List.mem_of_getElem? (i := 956) (by decide +kernel), rfl⟩
theorem w_957 : Cond.methodLink RX2 92 yJ6_numberOfTrailingZeros_0f7a4 ∈ lw_ok := List.mem_filter.mpr ⟨List.mem_of_getElem? (i := 957) (by decide +kernel), rfl⟩
theorem w_958 : Cond.methodLink "LeakyLineLaw" 207 yX8_lack ∈ lw_ok := List.mem_filter.mpr ⟨List.mem_of_getElem? (i := 958) (by decide +kernel), rfl⟩
theorem w_959 : Cond.instanceMethod yX8_lack ∈ lw_ok := List.mem_filter.mpr ⟨List.mem_of_getElem? (i := 959) (by decide +kernel), rfl⟩
theorem w_960 : Cond.selects RX8 yX8_lack yX8_lack ∈ lw_ok := List.mem_filter.mpr ⟨List.mem_of_getElem? (i := 960) (by decide +kernel), rfl⟩
theorem w_961 : Cond.code yX8_lack cX8_lack 5 (some .int) ∈ lw_ok := List.mem_filter.mpr ⟨List.mem_of_getElem? (i := 961) (by decide +kernel), rfl⟩
theorem w_962 : Cond.methodLink "LeakyLineLaw" 211 yX8_loud ∈ lw_ok := List.mem_filter.mpr ⟨List.mem_of_getElem? (i := 962) (by decide +kernel), rfl⟩
theorem w_963 : Cond.instanceMethod yX8_loud ∈ lw_ok := List.mem_filter.mpr ⟨List.mem_of_getElem? (i := 963) (by decide +kernel), rfl⟩
theorem w_964 : Cond.selects RX8 yX8_loud yX8_loud ∈ lw_ok := List.mem_filter.mpr ⟨List.mem_of_getElem? (i := 964) (by decide +kernel), rfl⟩
theorem w_965 : Cond.code yX8_loud cX8_loud 4 (some .int) ∈ lw_ok := List.mem_filter.mpr ⟨List.mem_of_getElem? (i := 965) (by decide +kernel), rfl⟩
theorem w_966 : Cond.methodLink "LeakyLineLaw" 215 yX8_weakest ∈ lw_ok := List.mem_filter.mpr ⟨List.mem_of_getElem? (i := 966) (by decide +kernel), rfl⟩
theorem w_967 : Cond.instanceMethod yX8_weakest ∈ lw_ok := List.mem_filter.mpr ⟨List.mem_of_getElem? (i := 967) (by decide +kernel), rfl⟩
theorem w_968 : Cond.selects RX8 yX8_weakest yX8_weakest ∈ lw_ok := List.mem_filter.mpr ⟨List.mem_of_getElem? (i := 968) (by decide +kernel), rfl⟩
theorem w_969 : Cond.code yX8_weakest cX8_weakest 1 (some .int) ∈ lw_ok := List.mem_filter.mpr ⟨List.mem_of_getElem? (i := 969) (by decide +kernel), rfl⟩
theorem w_970 : Cond.methodLink RX8 275 yX8_firstByDays ∈ lw_ok := List.mem_filter.mpr ⟨List.mem_of_getElem? (i := 970) (by decide +kernel), rfl⟩
theorem w_972 : Cond.instanceMethod yX8_firstByDays ∈ lw_ok := List.mem_filter.mpr ⟨List.mem_of_getElem? (i := 972) (by decide +kernel), rfl⟩
theorem w_973 : Cond.code yX8_firstByDays cX8_firstByDays 6 (some .int) ∈ lw_ok := List.mem_filter.mpr ⟨List.mem_of_getElem? (i := 973) (by decide +kernel), rfl⟩
theorem w_974 : Cond.methodLink RX8 406 yX8_heardDaysOf ∈ lw_ok := List.mem_filter.mpr ⟨List.mem_of_getElem? (i := 974) (by decide +kernel), rfl⟩
theorem w_976 : Cond.instanceMethod yX8_heardDaysOf ∈ lw_ok := List.mem_filter.mpr ⟨List.mem_of_getElem? (i := 976) (by decide +kernel), rfl⟩
theorem w_977 : Cond.code yX8_heardDaysOf cX8_heardDaysOf 4 (some .int) ∈ lw_ok := List.mem_filter.mpr ⟨List.mem_of_getElem? (i := 977) (by decide +kernel), rfl⟩
theorem w_978 : Cond.methodLink "LeakyLineLaw" 219 yX8_strong ∈ lw_ok := List.mem_filter.mpr ⟨List.mem_of_getElem? (i := 978) (by decide +kernel), rfl⟩
theorem w_979 : Cond.instanceMethod yX8_strong ∈ lw_ok := List.mem_filter.mpr ⟨List.mem_of_getElem? (i := 979) (by decide +kernel), rfl⟩
theorem w_980 : Cond.selects RX8 yX8_strong yX8_strong ∈ lw_ok := List.mem_filter.mpr ⟨List.mem_of_getElem? (i := 980) (by decide +kernel), rfl⟩
theorem w_981 : Cond.code yX8_strong cX8_strong 1 (some .int) ∈ lw_ok := List.mem_filter.mpr ⟨List.mem_of_getElem? (i := 981) (by decide +kernel), rfl⟩
theorem w_982 : Cond.methodLink "LeakyLineLaw" 223 yX8_battery ∈ lw_ok := List.mem_filter.mpr ⟨List.mem_of_getElem? (i := 982) (by decide +kernel), rfl⟩
theorem w_983 : Cond.instanceMethod yX8_battery ∈ lw_ok := List.mem_filter.mpr ⟨List.mem_of_getElem? (i := 983) (by decide +kernel), rfl⟩
theorem w_984 : Cond.selects RX8 yX8_battery yX8_battery ∈ lw_ok := List.mem_filter.mpr ⟨List.mem_of_getElem? (i := 984) (by decide +kernel), rfl⟩
theorem w_985 : Cond.code yX8_battery cX8_battery 2 (some .int) ∈ lw_ok := List.mem_filter.mpr ⟨List.mem_of_getElem? (i := 985) (by decide +kernel), rfl⟩
theorem w_986 : Cond.methodLink RX8 278 yX8_leastBattery ∈ lw_ok := List.mem_filter.mpr ⟨List.mem_of_getElem? (i := 986) (by decide +kernel), rfl⟩
theorem w_988 : Cond.instanceMethod yX8_leastBattery ∈ lw_ok := List.mem_filter.mpr ⟨List.mem_of_getElem? (i := 988) (by decide +kernel), rfl⟩
theorem w_989 : Cond.code yX8_leastBattery cX8_leastBattery 6 (some .int) ∈ lw_ok := List.mem_filter.mpr ⟨List.mem_of_getElem? (i := 989) (by decide +kernel), rfl⟩
theorem w_990 : Cond.methodLink RX8 412 yJ9_max_f86c9 ∈ lw_ok := List.mem_filter.mpr ⟨List.mem_of_getElem? (i := 990) (by decide +kernel), rfl⟩
theorem w_991 : Cond.static yJ9_max_f86c9 ∈ lw_ok := List.mem_filter.mpr ⟨List.mem_of_getElem? (i := 991) (by decide +kernel), rfl⟩
theorem w_992 : Cond.code yJ9_max_f86c9 cJ9_max_f86c9 4 (some .long) ∈ lw_ok := List.mem_filter.mpr ⟨List.mem_of_getElem? (i := 992) (by decide +kernel), rfl⟩
theorem w_993 : Cond.constantLong RX8 415 200 ∈ lw_ok := List.mem_filter.mpr ⟨List.mem_of_getElem? (i := 993) (by decide +kernel), rfl⟩
theorem w_994 : Cond.methodLink "LeakyLineLaw" 227 yX8_batteries ∈ lw_ok := List.mem_filter.mpr ⟨List.mem_of_getElem? (i := 994) (by decide +kernel), rfl⟩
theorem w_995 : Cond.instanceMethod yX8_batteries ∈ lw_ok := List.mem_filter.mpr ⟨List.mem_of_getElem? (i := 995) (by decide +kernel), rfl⟩
theorem w_996 : Cond.selects RX8 yX8_batteries yX8_batteries ∈ lw_ok := List.mem_filter.mpr ⟨List.mem_of_getElem? (i := 996) (by decide +kernel), rfl⟩
theorem w_997 : Cond.code yX8_batteries cX8_batteries 4 (some .int) ∈ lw_ok := List.mem_filter.mpr ⟨List.mem_of_getElem? (i := 997) (by decide +kernel), rfl⟩
theorem w_998 : Cond.methodLink "LeakyLineLaw" 231 yX8_cure ∈ lw_ok := List.mem_filter.mpr ⟨List.mem_of_getElem? (i := 998) (by decide +kernel), rfl⟩
theorem w_999 : Cond.instanceMethod yX8_cure ∈ lw_ok := List.mem_filter.mpr ⟨List.mem_of_getElem? (i := 999) (by decide +kernel), rfl⟩
theorem w_1000 : Cond.selects RX8 yX8_cure yX8_cure ∈ lw_ok := List.mem_filter.mpr ⟨List.mem_of_getElem? (i := 1000) (by decide +kernel), rfl⟩
theorem w_1001 : Cond.code yX8_cure cX8_cure 3 (some .int) ∈ lw_ok := List.mem_filter.mpr ⟨List.mem_of_getElem? (i := 1001) (by decide +kernel), rfl⟩
theorem w_1002 : Cond.methodLink RX8 285 yX8_leastCure ∈ lw_ok := List.mem_filter.mpr ⟨List.mem_of_getElem? (i := 1002) (by decide +kernel), rfl⟩
theorem w_1004 : Cond.instanceMethod yX8_leastCure ∈ lw_ok := List.mem_filter.mpr ⟨List.mem_of_getElem? (i := 1004) (by decide +kernel), rfl⟩
theorem w_1005 : Cond.code yX8_leastCure cX8_leastCure 4 (some .int) ∈ lw_ok := List.mem_filter.mpr ⟨List.mem_of_getElem? (i := 1005) (by decide +kernel), rfl⟩
theorem w_1006 : Cond.methodLink "LeakyLineLaw" 235 yX8_cures ∈ lw_ok := List.mem_filter.mpr ⟨List.mem_of_getElem? (i := 1006) (by decide +kernel), rfl⟩
theorem w_1007 : Cond.instanceMethod yX8_cures ∈ lw_ok := List.mem_filter.mpr ⟨List.mem_of_getElem? (i := 1007) (by decide +kernel), rfl⟩
theorem w_1008 : Cond.selects RX8 yX8_cures yX8_cures ∈ lw_ok := List.mem_filter.mpr ⟨List.mem_of_getElem? (i := 1008) (by decide +kernel), rfl⟩
theorem w_1009 : Cond.code yX8_cures cX8_cures 2 (some .int) ∈ lw_ok := List.mem_filter.mpr ⟨List.mem_of_getElem? (i := 1009) (by decide +kernel), rfl⟩
theorem w_1010 : Cond.methodLink "LeakyLineLaw" 239 yX8_best ∈ lw_ok := List.mem_filter.mpr ⟨List.mem_of_getElem? (i := 1010) (by decide +kernel), rfl⟩
theorem w_1011 : Cond.instanceMethod yX8_best ∈ lw_ok := List.mem_filter.mpr ⟨List.mem_of_getElem? (i := 1011) (by decide +kernel), rfl⟩
theorem w_1012 : Cond.selects RX8 yX8_best yX8_best ∈ lw_ok := List.mem_filter.mpr ⟨List.mem_of_getElem? (i := 1012) (by decide +kernel), rfl⟩
theorem w_1013 : Cond.code yX8_best cX8_best 5 (some .int) ∈ lw_ok := List.mem_filter.mpr ⟨List.mem_of_getElem? (i := 1013) (by decide +kernel), rfl⟩
theorem w_1014 : Cond.methodLink "LeakyLineLaw" 243 yX8_thick ∈ lw_ok := List.mem_filter.mpr ⟨List.mem_of_getElem? (i := 1014) (by decide +kernel), rfl⟩
theorem w_1015 : Cond.instanceMethod yX8_thick ∈ lw_ok := List.mem_filter.mpr ⟨List.mem_of_getElem? (i := 1015) (by decide +kernel), rfl⟩
theorem w_1016 : Cond.selects RX8 yX8_thick yX8_thick ∈ lw_ok := List.mem_filter.mpr ⟨List.mem_of_getElem? (i := 1016) (by decide +kernel), rfl⟩
theorem w_1017 : Cond.code yX8_thick cX8_thick 5 (some .int) ∈ lw_ok := List.mem_filter.mpr ⟨List.mem_of_getElem? (i := 1017) (by decide +kernel), rfl⟩
theorem w_1018 : Cond.methodLink "LeakyLineLaw" 247 yX8_fits ∈ lw_ok := List.mem_filter.mpr ⟨List.mem_of_getElem? (i := 1018) (by decide +kernel), rfl⟩
theorem w_1019 : Cond.instanceMethod yX8_fits ∈ lw_ok := List.mem_filter.mpr ⟨List.mem_of_getElem? (i := 1019) (by decide +kernel), rfl⟩
theorem w_1020 : Cond.selects RX8 yX8_fits yX8_fits ∈ lw_ok := List.mem_filter.mpr ⟨List.mem_of_getElem? (i := 1020) (by decide +kernel), rfl⟩
theorem w_1021 : Cond.code yX8_fits cX8_fits 4 (some .int) ∈ lw_ok := List.mem_filter.mpr ⟨List.mem_of_getElem? (i := 1021) (by decide +kernel), rfl⟩
theorem w_1022 : Cond.methodLink RX8 289 yX8_refusalOfSeen ∈ lw_ok := List.mem_filter.mpr ⟨List.mem_of_getElem? (i := 1022) (by decide +kernel), rfl⟩
theorem w_1024 : Cond.instanceMethod yX8_refusalOfSeen ∈ lw_ok := List.mem_filter.mpr ⟨List.mem_of_getElem? (i := 1024) (by decide +kernel), rfl⟩
theorem w_1025 : Cond.code yX8_refusalOfSeen cX8_refusalOfSeen 3 (some .int) ∈ lw_ok := List.mem_filter.mpr ⟨List.mem_of_getElem? (i := 1025) (by decide +kernel), rfl⟩
theorem w_1026 : Cond.methodLink RX8 302 yX8_refusalOfRow ∈ lw_ok := List.mem_filter.mpr ⟨List.mem_of_getElem? (i := 1026) (by decide +kernel), rfl⟩
theorem w_1028 : Cond.instanceMethod yX8_refusalOfRow ∈ lw_ok := List.mem_filter.mpr ⟨List.mem_of_getElem? (i := 1028) (by decide +kernel), rfl⟩
theorem w_1029 : Cond.code yX8_refusalOfRow cX8_refusalOfRow 6 (some .int) ∈ lw_ok := List.mem_filter.mpr ⟨List.mem_of_getElem? (i := 1029) (by decide +kernel), rfl⟩
theorem w_1030 : Cond.methodLink RX8 364 yX8_isSlot ∈ lw_ok := List.mem_filter.mpr ⟨List.mem_of_getElem? (i := 1030) (by decide +kernel), rfl⟩
theorem w_1031 : Cond.static yX8_isSlot ∈ lw_ok := List.mem_filter.mpr ⟨List.mem_of_getElem? (i := 1031) (by decide +kernel), rfl⟩
theorem w_1032 : Cond.code yX8_isSlot cX8_isSlot 1 (some .boolean) ∈ lw_ok := List.mem_filter.mpr ⟨List.mem_of_getElem? (i := 1032) (by decide +kernel), rfl⟩
theorem w_1033 : Cond.methodLink RX8 370 yX3_has ∈ lw_ok := List.mem_filter.mpr ⟨List.mem_of_getElem? (i := 1033) (by decide +kernel), rfl⟩
theorem w_1034 : Cond.instanceMethod yX3_has ∈ lw_ok := List.mem_filter.mpr ⟨List.mem_of_getElem? (i := 1034) (by decide +kernel), rfl⟩
theorem w_1035 : Cond.selects RX3 yX3_has yX3_has ∈ lw_ok := List.mem_filter.mpr ⟨List.mem_of_getElem? (i := 1035) (by decide +kernel), rfl⟩
theorem w_1036 : Cond.code yX3_has cX3_has 2 (some .boolean) ∈ lw_ok := List.mem_filter.mpr ⟨List.mem_of_getElem? (i := 1036) (by decide +kernel), rfl⟩
theorem w_1037 : Cond.methodLink RX8 417 yX3_at ∈ lw_ok := List.mem_filter.mpr ⟨List.mem_of_getElem? (i := 1037) (by decide +kernel), rfl⟩
theorem w_1038 : Cond.instanceMethod yX3_at ∈ lw_ok := List.mem_filter.mpr ⟨List.mem_of_getElem? (i := 1038) (by decide +kernel), rfl⟩
theorem w_1039 : Cond.selects RX3 yX3_at yX3_at ∈ lw_ok := List.mem_filter.mpr ⟨List.mem_of_getElem? (i := 1039) (by decide +kernel), rfl⟩
theorem w_1040 : Cond.code yX3_at cX3_at 3 (some .long) ∈ lw_ok := List.mem_filter.mpr ⟨List.mem_of_getElem? (i := 1040) (by decide +kernel), rfl⟩
theorem w_1041 : Cond.methodLink RX8 292 yX8_fittingLeaks ∈ lw_ok := List.mem_filter.mpr ⟨List.mem_of_getElem? (i := 1041) (by decide +kernel), rfl⟩
theorem w_1043 : Cond.instanceMethod yX8_fittingLeaks ∈ lw_ok := List.mem_filter.mpr ⟨List.mem_of_getElem? (i := 1043) (by decide +kernel), rfl⟩
theorem w_1044 : Cond.code yX8_fittingLeaks cX8_fittingLeaks 5 (some .int) ∈ lw_ok := List.mem_filter.mpr ⟨List.mem_of_getElem? (i := 1044) (by decide +kernel), rfl⟩
theorem w_1045 : Cond.methodLink RX8 305 yX8_isAsSeen ∈ lw_ok := List.mem_filter.mpr ⟨List.mem_of_getElem? (i := 1045) (by decide +kernel), rfl⟩
theorem w_1047 : Cond.instanceMethod yX8_isAsSeen ∈ lw_ok := List.mem_filter.mpr ⟨List.mem_of_getElem? (i := 1047) (by decide +kernel), rfl⟩
theorem w_1048 : Cond.code yX8_isAsSeen cX8_isAsSeen 4 (some .boolean) ∈ lw_ok := List.mem_filter.mpr ⟨List.mem_of_getElem? (i := 1048) (by decide +kernel), rfl⟩
theorem w_1049 : Cond.methodLink "LeakyLineLaw" 251 yX8_low ∈ lw_ok := List.mem_filter.mpr ⟨List.mem_of_getElem? (i := 1049) (by decide +kernel), rfl⟩
theorem w_1050 : Cond.instanceMethod yX8_low ∈ lw_ok := List.mem_filter.mpr ⟨List.mem_of_getElem? (i := 1050) (by decide +kernel), rfl⟩
theorem w_1051 : Cond.selects RX8 yX8_low yX8_low ∈ lw_ok := List.mem_filter.mpr ⟨List.mem_of_getElem? (i := 1051) (by decide +kernel), rfl⟩
theorem w_1052 : Cond.code yX8_low cX8_low 5 (some .int) ∈ lw_ok := List.mem_filter.mpr ⟨List.mem_of_getElem? (i := 1052) (by decide +kernel), rfl⟩
theorem w_1053 : Cond.methodLink "LeakyLineLaw" 255 yX8_high ∈ lw_ok := List.mem_filter.mpr ⟨List.mem_of_getElem? (i := 1053) (by decide +kernel), rfl⟩
theorem w_1054 : Cond.instanceMethod yX8_high ∈ lw_ok := List.mem_filter.mpr ⟨List.mem_of_getElem? (i := 1054) (by decide +kernel), rfl⟩
theorem w_1055 : Cond.selects RX8 yX8_high yX8_high ∈ lw_ok := List.mem_filter.mpr ⟨List.mem_of_getElem? (i := 1055) (by decide +kernel), rfl⟩
theorem w_1056 : Cond.code yX8_high cX8_high 4 (some .int) ∈ lw_ok := List.mem_filter.mpr ⟨List.mem_of_getElem? (i := 1056) (by decide +kernel), rfl⟩
theorem w_1057 : Cond.methodLink "LeakyLineLaw" 259 yX8_ask ∈ lw_ok := List.mem_filter.mpr ⟨List.mem_of_getElem? (i := 1057) (by decide +kernel), rfl⟩
theorem w_1058 : Cond.instanceMethod yX8_ask ∈ lw_ok := List.mem_filter.mpr ⟨List.mem_of_getElem? (i := 1058) (by decide +kernel), rfl⟩
theorem w_1059 : Cond.selects RX8 yX8_ask yX8_ask ∈ lw_ok := List.mem_filter.mpr ⟨List.mem_of_getElem? (i := 1059) (by decide +kernel), rfl⟩
theorem w_1060 : Cond.code yX8_ask cX8_ask 4 (some .int) ∈ lw_ok := List.mem_filter.mpr ⟨List.mem_of_getElem? (i := 1060) (by decide +kernel), rfl⟩
theorem w_1061 : Cond.methodLink RX8 295 yX8_dayToAsk ∈ lw_ok := List.mem_filter.mpr ⟨List.mem_of_getElem? (i := 1061) (by decide +kernel), rfl⟩
theorem w_1063 : Cond.instanceMethod yX8_dayToAsk ∈ lw_ok := List.mem_filter.mpr ⟨List.mem_of_getElem? (i := 1063) (by decide +kernel), rfl⟩
theorem w_1064 : Cond.code yX8_dayToAsk cX8_dayToAsk 7 (some .int) ∈ lw_ok := List.mem_filter.mpr ⟨List.mem_of_getElem? (i := 1064) (by decide +kernel), rfl⟩
theorem w_1065 : Cond.methodLink RX8 298 yX8_leftAtWorst ∈ lw_ok := List.mem_filter.mpr ⟨List.mem_of_getElem? (i := 1065) (by decide +kernel), rfl⟩
theorem w_1067 : Cond.instanceMethod yX8_leftAtWorst ∈ lw_ok := List.mem_filter.mpr ⟨List.mem_of_getElem? (i := 1067) (by decide +kernel), rfl⟩
theorem w_1068 : Cond.code yX8_leftAtWorst cX8_leftAtWorst 6 (some .int) ∈ lw_ok := List.mem_filter.mpr ⟨List.mem_of_getElem? (i := 1068) (by decide +kernel), rfl⟩
theorem w_1069 : Cond.methodLink RX8 427 yX8_readByLeaks ∈ lw_ok := List.mem_filter.mpr ⟨List.mem_of_getElem? (i := 1069) (by decide +kernel), rfl⟩
theorem w_1071 : Cond.instanceMethod yX8_readByLeaks ∈ lw_ok := List.mem_filter.mpr ⟨List.mem_of_getElem? (i := 1071) (by decide +kernel), rfl⟩
theorem w_1072 : Cond.code yX8_readByLeaks cX8_readByLeaks 5 none ∈ lw_ok := List.mem_filter.mpr ⟨List.mem_of_getElem? (i := 1072) (by decide +kernel), rfl⟩
theorem w_1073 : Cond.methodLink RX8 430 yX8_alikeFrom ∈ lw_ok := List.mem_filter.mpr ⟨List.mem_of_getElem? (i := 1073) (by decide +kernel), rfl⟩
theorem w_1075 : Cond.instanceMethod yX8_alikeFrom ∈ lw_ok := List.mem_filter.mpr ⟨List.mem_of_getElem? (i := 1075) (by decide +kernel), rfl⟩
theorem w_1076 : Cond.code yX8_alikeFrom cX8_alikeFrom 5 (some .int) ∈ lw_ok := List.mem_filter.mpr ⟨List.mem_of_getElem? (i := 1076) (by decide +kernel), rfl⟩
theorem w_1077 : Cond.methodLink "LeakyLineLaw" 263 yX8_leaves ∈ lw_ok := List.mem_filter.mpr ⟨List.mem_of_getElem? (i := 1077) (by decide +kernel), rfl⟩
theorem w_1078 : Cond.instanceMethod yX8_leaves ∈ lw_ok := List.mem_filter.mpr ⟨List.mem_of_getElem? (i := 1078) (by decide +kernel), rfl⟩
theorem w_1079 : Cond.selects RX8 yX8_leaves yX8_leaves ∈ lw_ok := List.mem_filter.mpr ⟨List.mem_of_getElem? (i := 1079) (by decide +kernel), rfl⟩
theorem w_1080 : Cond.code yX8_leaves cX8_leaves 6 (some .int) ∈ lw_ok := List.mem_filter.mpr ⟨List.mem_of_getElem? (i := 1080) (by decide +kernel), rfl⟩
theorem w_1081 : Cond.methodLink "LeakyLineLaw" 267 yX8_spots ∈ lw_ok := List.mem_filter.mpr ⟨List.mem_of_getElem? (i := 1081) (by decide +kernel), rfl⟩
theorem w_1082 : Cond.instanceMethod yX8_spots ∈ lw_ok := List.mem_filter.mpr ⟨List.mem_of_getElem? (i := 1082) (by decide +kernel), rfl⟩
theorem w_1083 : Cond.selects RX8 yX8_spots yX8_spots ∈ lw_ok := List.mem_filter.mpr ⟨List.mem_of_getElem? (i := 1083) (by decide +kernel), rfl⟩
theorem w_1084 : Cond.code yX8_spots cX8_spots 6 (some .int) ∈ lw_ok := List.mem_filter.mpr ⟨List.mem_of_getElem? (i := 1084) (by decide +kernel), rfl⟩
theorem w_1085 : Cond.methodLink "LeakyLineLaw" 271 yX8_breaks ∈ lw_ok := List.mem_filter.mpr ⟨List.mem_of_getElem? (i := 1085) (by decide +kernel), rfl⟩
theorem w_1086 : Cond.instanceMethod yX8_breaks ∈ lw_ok := List.mem_filter.mpr ⟨List.mem_of_getElem? (i := 1086) (by decide +kernel), rfl⟩
theorem w_1087 : Cond.selects RX8 yX8_breaks yX8_breaks ∈ lw_ok := List.mem_filter.mpr ⟨List.mem_of_getElem? (i := 1087) (by decide +kernel), rfl⟩
theorem w_1088 : Cond.code yX8_breaks cX8_breaks 5 (some .int) ∈ lw_ok := List.mem_filter.mpr ⟨List.mem_of_getElem? (i := 1088) (by decide +kernel), rfl⟩
theorem w_1089 : Cond.methodLink "LeakyLineLaw" 275 yX8_laws ∈ lw_ok := List.mem_filter.mpr ⟨List.mem_of_getElem? (i := 1089) (by decide +kernel), rfl⟩
theorem w_1090 : Cond.instanceMethod yX8_laws ∈ lw_ok := List.mem_filter.mpr ⟨List.mem_of_getElem? (i := 1090) (by decide +kernel), rfl⟩
theorem w_1091 : Cond.selects RX8 yX8_laws yX8_laws ∈ lw_ok := List.mem_filter.mpr ⟨List.mem_of_getElem? (i := 1091) (by decide +kernel), rfl⟩
theorem w_1092 : Cond.code yX8_laws cX8_laws 5 (some .int) ∈ lw_ok := List.mem_filter.mpr ⟨List.mem_of_getElem? (i := 1092) (by decide +kernel), rfl⟩
theorem w_1093 : Cond.methodLink "LeakyLineLaw" 279 yX8_by ∈ lw_ok := List.mem_filter.mpr ⟨List.mem_of_getElem? (i := 1093) (by decide +kernel), rfl⟩
theorem w_1094 : Cond.instanceMethod yX8_by ∈ lw_ok := List.mem_filter.mpr ⟨List.mem_of_getElem? (i := 1094) (by decide +kernel), rfl⟩
theorem w_1095 : Cond.selects RX8 yX8_by yX8_by ∈ lw_ok := List.mem_filter.mpr ⟨List.mem_of_getElem? (i := 1095) (by decide +kernel), rfl⟩
theorem w_1096 : Cond.code yX8_by cX8_by 2 (some .int) ∈ lw_ok := List.mem_filter.mpr ⟨List.mem_of_getElem? (i := 1096) (by decide +kernel), rfl⟩
theorem w_1097 : Cond.methodLink RX8 311 yX8_heardByLaw ∈ lw_ok := List.mem_filter.mpr ⟨List.mem_of_getElem? (i := 1097) (by decide +kernel), rfl⟩
theorem w_1099 : Cond.instanceMethod yX8_heardByLaw ∈ lw_ok := List.mem_filter.mpr ⟨List.mem_of_getElem? (i := 1099) (by decide +kernel), rfl⟩
theorem w_1100 : Cond.code yX8_heardByLaw cX8_heardByLaw 2 (some .int) ∈ lw_ok := List.mem_filter.mpr ⟨List.mem_of_getElem? (i := 1100) (by decide +kernel), rfl⟩
theorem w_1101 : Cond.methodLink "LeakyLineLaw" 283 yX8_law ∈ lw_ok := List.mem_filter.mpr ⟨List.mem_of_getElem? (i := 1101) (by decide +kernel), rfl⟩
theorem w_1102 : Cond.instanceMethod yX8_law ∈ lw_ok := List.mem_filter.mpr ⟨List.mem_of_getElem? (i := 1102) (by decide +kernel), rfl⟩
theorem w_1103 : Cond.selects RX8 yX8_law yX8_law ∈ lw_ok := List.mem_filter.mpr ⟨List.mem_of_getElem? (i := 1103) (by decide +kernel), rfl⟩
theorem w_1104 : Cond.code yX8_law cX8_law 5 (some .int) ∈ lw_ok := List.mem_filter.mpr ⟨List.mem_of_getElem? (i := 1104) (by decide +kernel), rfl⟩
theorem w_1105 : Cond.methodLink "LeakyLineLaw" 287 yX8_worth ∈ lw_ok := List.mem_filter.mpr ⟨List.mem_of_getElem? (i := 1105) (by decide +kernel), rfl⟩
theorem w_1106 : Cond.instanceMethod yX8_worth ∈ lw_ok := List.mem_filter.mpr ⟨List.mem_of_getElem? (i := 1106) (by decide +kernel), rfl⟩
theorem w_1107 : Cond.selects RX8 yX8_worth yX8_worth ∈ lw_ok := List.mem_filter.mpr ⟨List.mem_of_getElem? (i := 1107) (by decide +kernel), rfl⟩
theorem w_1108 : Cond.code yX8_worth cX8_worth 2 (some .int) ∈ lw_ok := List.mem_filter.mpr ⟨List.mem_of_getElem? (i := 1108) (by decide +kernel), rfl⟩
theorem w_1109 : Cond.methodLink "LeakyLineLaw" 291 yX8_share ∈ lw_ok := List.mem_filter.mpr ⟨List.mem_of_getElem? (i := 1109) (by decide +kernel), rfl⟩
theorem w_1110 : Cond.instanceMethod yX8_share ∈ lw_ok := List.mem_filter.mpr ⟨List.mem_of_getElem? (i := 1110) (by decide +kernel), rfl⟩
theorem w_1111 : Cond.selects RX8 yX8_share yX8_share ∈ lw_ok := List.mem_filter.mpr ⟨List.mem_of_getElem? (i := 1111) (by decide +kernel), rfl⟩
theorem w_1112 : Cond.code yX8_share cX8_share 9 (some .int) ∈ lw_ok := List.mem_filter.mpr ⟨List.mem_of_getElem? (i := 1112) (by decide +kernel), rfl⟩
theorem w_1113 : Cond.constant RX8 314 (-1000000) ∈ lw_ok := List.mem_filter.mpr ⟨List.mem_of_getElem? (i := 1113) (by decide +kernel), rfl⟩
theorem w_1114 : Cond.methodLink RX8 315 yX8_factorial ∈ lw_ok := List.mem_filter.mpr ⟨List.mem_of_getElem? (i := 1114) (by decide +kernel), rfl⟩
theorem w_1115 : Cond.static yX8_factorial ∈ lw_ok := List.mem_filter.mpr ⟨List.mem_of_getElem? (i := 1115) (by decide +kernel), rfl⟩
theorem w_1116 : Cond.code yX8_factorial cX8_factorial 4 (some .long) ∈ lw_ok := List.mem_filter.mpr ⟨List.mem_of_getElem? (i := 1116) (by decide +kernel), rfl⟩
theorem w_1117 : Cond.methodLink "LeakyLineLaw" 295 yX8_rests ∈ lw_ok := List.mem_filter.mpr ⟨List.mem_of_getElem? (i := 1117) (by decide +kernel), rfl⟩
theorem w_1118 : Cond.instanceMethod yX8_rests ∈ lw_ok := List.mem_filter.mpr ⟨List.mem_of_getElem? (i := 1118) (by decide +kernel), rfl⟩
theorem w_1119 : Cond.selects RX8 yX8_rests yX8_rests ∈ lw_ok := List.mem_filter.mpr ⟨List.mem_of_getElem? (i := 1119) (by decide +kernel), rfl⟩
theorem w_1120 : Cond.code yX8_rests cX8_rests 8 (some .int) ∈ lw_ok := List.mem_filter.mpr ⟨List.mem_of_getElem? (i := 1120) (by decide +kernel), rfl⟩
theorem w_1121 : Cond.methodLink RX8 318 yX8_pairSet ∈ lw_ok := List.mem_filter.mpr ⟨List.mem_of_getElem? (i := 1121) (by decide +kernel), rfl⟩
theorem w_1122 : Cond.static yX8_pairSet ∈ lw_ok := List.mem_filter.mpr ⟨List.mem_of_getElem? (i := 1122) (by decide +kernel), rfl⟩
theorem w_1123 : Cond.code yX8_pairSet cX8_pairSet 4 (some .int) ∈ lw_ok := List.mem_filter.mpr ⟨List.mem_of_getElem? (i := 1123) (by decide +kernel), rfl⟩
theorem w_1124 : Cond.methodLink RX8 322 yX8_gainOf ∈ lw_ok := List.mem_filter.mpr ⟨List.mem_of_getElem? (i := 1124) (by decide +kernel), rfl⟩
theorem w_1126 : Cond.instanceMethod yX8_gainOf ∈ lw_ok := List.mem_filter.mpr ⟨List.mem_of_getElem? (i := 1126) (by decide +kernel), rfl⟩
theorem w_1127 : Cond.code yX8_gainOf cX8_gainOf 4 (some .int) ∈ lw_ok := List.mem_filter.mpr ⟨List.mem_of_getElem? (i := 1127) (by decide +kernel), rfl⟩
theorem w_1128 : Cond.methodLink "LeakyLineLaw" 299 yX8_gets ∈ lw_ok := List.mem_filter.mpr ⟨List.mem_of_getElem? (i := 1128) (by decide +kernel), rfl⟩
theorem w_1129 : Cond.instanceMethod yX8_gets ∈ lw_ok := List.mem_filter.mpr ⟨List.mem_of_getElem? (i := 1129) (by decide +kernel), rfl⟩
theorem w_1130 : Cond.selects RX8 yX8_gets yX8_gets ∈ lw_ok := List.mem_filter.mpr ⟨List.mem_of_getElem? (i := 1130) (by decide +kernel), rfl⟩
theorem w_1131 : Cond.code yX8_gets cX8_gets 5 (some .int) ∈ lw_ok := List.mem_filter.mpr ⟨List.mem_of_getElem? (i := 1131) (by decide +kernel), rfl⟩
theorem w_1132 : Cond.methodLink "LeakyLineLaw" 304 yX8_chance ∈ lw_ok := List.mem_filter.mpr ⟨List.mem_of_getElem? (i := 1132) (by decide +kernel), rfl⟩
theorem w_1133 : Cond.instanceMethod yX8_chance ∈ lw_ok := List.mem_filter.mpr ⟨List.mem_of_getElem? (i := 1133) (by decide +kernel), rfl⟩
theorem w_1134 : Cond.selects RX8 yX8_chance yX8_chance ∈ lw_ok := List.mem_filter.mpr ⟨List.mem_of_getElem? (i := 1134) (by decide +kernel), rfl⟩
theorem w_1135 : Cond.code yX8_chance cX8_chance 4 (some .int) ∈ lw_ok := List.mem_filter.mpr ⟨List.mem_of_getElem? (i := 1135) (by decide +kernel), rfl⟩
theorem w_1136 : Cond.methodLink RX8 325 yX8_isChanceDay ∈ lw_ok := List.mem_filter.mpr ⟨List.mem_of_getElem? (i := 1136) (by decide +kernel), rfl⟩
theorem w_1138 : Cond.instanceMethod yX8_isChanceDay ∈ lw_ok := List.mem_filter.mpr ⟨List.mem_of_getElem? (i := 1138) (by decide +kernel), rfl⟩
theorem w_1139 : Cond.code yX8_isChanceDay cX8_isChanceDay 2 (some .boolean) ∈ lw_ok := List.mem_filter.mpr ⟨List.mem_of_getElem? (i := 1139) (by decide +kernel), rfl⟩
theorem w_1140 : Cond.methodLink RX8 328 yX8_heardByChance ∈ lw_ok := List.mem_filter.mpr ⟨List.mem_of_getElem? (i := 1140) (by decide +kernel), rfl⟩
theorem w_1142 : Cond.instanceMethod yX8_heardByChance ∈ lw_ok := List.mem_filter.mpr ⟨List.mem_of_getElem? (i := 1142) (by decide +kernel), rfl⟩
theorem w_1143 : Cond.code yX8_heardByChance cX8_heardByChance 10 (some .long) ∈ lw_ok := List.mem_filter.mpr ⟨List.mem_of_getElem? (i := 1143) (by decide +kernel), rfl⟩
theorem w_1144 : Cond.methodLink RX8 332 yX8_power ∈ lw_ok := List.mem_filter.mpr ⟨List.mem_of_getElem? (i := 1144) (by decide +kernel), rfl⟩
theorem w_1145 : Cond.static yX8_power ∈ lw_ok := List.mem_filter.mpr ⟨List.mem_of_getElem? (i := 1145) (by decide +kernel), rfl⟩
theorem w_1146 : Cond.code yX8_power cX8_power 5 (some .long) ∈ lw_ok := List.mem_filter.mpr ⟨List.mem_of_getElem? (i := 1146) (by decide +kernel), rfl⟩
theorem w_1147 : Cond.methodLink "LeakyLineLaw" 309 yX8_mean ∈ lw_ok := List.mem_filter.mpr ⟨List.mem_of_getElem? (i := 1147) (by decide +kernel), rfl⟩
theorem w_1148 : Cond.instanceMethod yX8_mean ∈ lw_ok := List.mem_filter.mpr ⟨List.mem_of_getElem? (i := 1148) (by decide +kernel), rfl⟩
theorem w_1149 : Cond.selects RX8 yX8_mean yX8_mean ∈ lw_ok := List.mem_filter.mpr ⟨List.mem_of_getElem? (i := 1149) (by decide +kernel), rfl⟩
theorem w_1150 : Cond.code yX8_mean cX8_mean 3 (some .long) ∈ lw_ok := List.mem_filter.mpr ⟨List.mem_of_getElem? (i := 1150) (by decide +kernel), rfl⟩
theorem w_1151 : Cond.methodLink "LeakyLineLaw" 313 yX8_cups ∈ lw_ok := List.mem_filter.mpr ⟨List.mem_of_getElem? (i := 1151) (by decide +kernel), rfl⟩
theorem w_1152 : Cond.instanceMethod yX8_cups ∈ lw_ok := List.mem_filter.mpr ⟨List.mem_of_getElem? (i := 1152) (by decide +kernel), rfl⟩
theorem w_1153 : Cond.selects RX8 yX8_cups yX8_cups ∈ lw_ok := List.mem_filter.mpr ⟨List.mem_of_getElem? (i := 1153) (by decide +kernel), rfl⟩
theorem w_1154 : Cond.code yX8_cups cX8_cups 3 (some .int) ∈ lw_ok := List.mem_filter.mpr ⟨List.mem_of_getElem? (i := 1154) (by decide +kernel), rfl⟩
theorem w_1155 : Cond.methodLink RX8 338 yX2_act ∈ lw_ok := List.mem_filter.mpr ⟨List.mem_of_getElem? (i := 1155) (by decide +kernel), rfl⟩
theorem w_1156 : Cond.instanceMethod yX2_act ∈ lw_ok := List.mem_filter.mpr ⟨List.mem_of_getElem? (i := 1156) (by decide +kernel), rfl⟩
theorem w_1157 : Cond.selects RX2 yX2_act yX2_act ∈ lw_ok := List.mem_filter.mpr ⟨List.mem_of_getElem? (i := 1157) (by decide +kernel), rfl⟩
theorem w_1158 : Cond.code yX2_act cX2_act 4 none ∈ lw_ok := List.mem_filter.mpr ⟨List.mem_of_getElem? (i := 1158) (by decide +kernel), rfl⟩
theorem w_1159 : Cond.methodLink "LeakyLineLaw" 317 yX8_snaps ∈ lw_ok := List.mem_filter.mpr ⟨List.mem_of_getElem? (i := 1159) (by decide +kernel), rfl⟩
theorem w_1160 : Cond.instanceMethod yX8_snaps ∈ lw_ok := List.mem_filter.mpr ⟨List.mem_of_getElem? (i := 1160) (by decide +kernel), rfl⟩
theorem w_1161 : Cond.selects RX8 yX8_snaps yX8_snaps ∈ lw_ok := List.mem_filter.mpr ⟨List.mem_of_getElem? (i := 1161) (by decide +kernel), rfl⟩
theorem w_1162 : Cond.code yX8_snaps cX8_snaps 3 (some .int) ∈ lw_ok := List.mem_filter.mpr ⟨List.mem_of_getElem? (i := 1162) (by decide +kernel), rfl⟩
theorem w_1163 : Cond.methodLink "LeakyLineLaw" 321 yX8_undo ∈ lw_ok := List.mem_filter.mpr ⟨List.mem_of_getElem? (i := 1163) (by decide +kernel), rfl⟩
theorem w_1164 : Cond.instanceMethod yX8_undo ∈ lw_ok := List.mem_filter.mpr ⟨List.mem_of_getElem? (i := 1164) (by decide +kernel), rfl⟩
theorem w_1165 : Cond.selects RX8 yX8_undo yX8_undo ∈ lw_ok := List.mem_filter.mpr ⟨List.mem_of_getElem? (i := 1165) (by decide +kernel), rfl⟩
theorem w_1166 : Cond.code yX8_undo cX8_undo 1 (some .int) ∈ lw_ok := List.mem_filter.mpr ⟨List.mem_of_getElem? (i := 1166) (by decide +kernel), rfl⟩
theorem w_1167 : Cond.methodLink RX8 342 yX2_keepActs ∈ lw_ok := List.mem_filter.mpr ⟨List.mem_of_getElem? (i := 1167) (by decide +kernel), rfl⟩
theorem w_1168 : Cond.methodLink "LeakyLineLaw" 325 yX8_anew ∈ lw_ok := List.mem_filter.mpr ⟨List.mem_of_getElem? (i := 1168) (by decide +kernel), rfl⟩
theorem w_1169 : Cond.instanceMethod yX8_anew ∈ lw_ok := List.mem_filter.mpr ⟨List.mem_of_getElem? (i := 1169) (by decide +kernel), rfl⟩
theorem w_1170 : Cond.selects RX8 yX8_anew yX8_anew ∈ lw_ok := List.mem_filter.mpr ⟨List.mem_of_getElem? (i := 1170) (by decide +kernel), rfl⟩
theorem w_1171 : Cond.code yX8_anew cX8_anew 2 (some .int) ∈ lw_ok := List.mem_filter.mpr ⟨List.mem_of_getElem? (i := 1171) (by decide +kernel), rfl⟩
theorem w_1172 : Cond.methodLink "LeakyLineLaw" 329 yX8_drawn ∈ lw_ok := List.mem_filter.mpr ⟨List.mem_of_getElem? (i := 1172) (by decide +kernel), rfl⟩
theorem w_1173 : Cond.instanceMethod yX8_drawn ∈ lw_ok := List.mem_filter.mpr ⟨List.mem_of_getElem? (i := 1173) (by decide +kernel), rfl⟩
theorem w_1174 : Cond.selects RX8 yX8_drawn yX8_drawn ∈ lw_ok := List.mem_filter.mpr ⟨List.mem_of_getElem? (i := 1174) (by decide +kernel), rfl⟩
theorem w_1175 : Cond.code yX8_drawn cX8_drawn 3 (some .int) ∈ lw_ok := List.mem_filter.mpr ⟨List.mem_of_getElem? (i := 1175) (by decide +kernel), rfl⟩
theorem w_1176 : Cond.methodLink RX8 345 yX8_isSeed ∈ lw_ok := List.mem_filter.mpr ⟨List.mem_of_getElem? (i := 1176) (by decide +kernel), rfl⟩
theorem w_1177 : Cond.static yX8_isSeed ∈ lw_ok := List.mem_filter.mpr ⟨List.mem_of_getElem? (i := 1177) (by decide +kernel), rfl⟩
theorem w_1178 : Cond.code yX8_isSeed cX8_isSeed 1 (some .boolean) ∈ lw_ok := List.mem_filter.mpr ⟨List.mem_of_getElem? (i := 1178) (by decide +kernel), rfl⟩
theorem w_1179 : Cond.constant RX8 391 2000000000 ∈ lw_ok := List.mem_filter.mpr ⟨List.mem_of_getElem? (i := 1179) (by decide +kernel), rfl⟩
theorem w_1180 : Cond.methodLink RX8 348 yX8_wetByDraws ∈ lw_ok := List.mem_filter.mpr ⟨List.mem_of_getElem? (i := 1180) (by decide +kernel), rfl⟩
theorem w_1182 : Cond.instanceMethod yX8_wetByDraws ∈ lw_ok := List.mem_filter.mpr ⟨List.mem_of_getElem? (i := 1182) (by decide +kernel), rfl⟩
theorem w_1183 : Cond.code yX8_wetByDraws cX8_wetByDraws 6 (some .int) ∈ lw_ok := List.mem_filter.mpr ⟨List.mem_of_getElem? (i := 1183) (by decide +kernel), rfl⟩
theorem w_1184 : Cond.constantLong RX8 433 1103515245 ∈ lw_ok := List.mem_filter.mpr ⟨List.mem_of_getElem? (i := 1184) (by decide +kernel), rfl⟩
theorem w_1185 : Cond.constantLong RX8 435 12345 ∈ lw_ok := List.mem_filter.mpr ⟨List.mem_of_getElem? (i := 1185) (by decide +kernel), rfl⟩
theorem w_1186 : Cond.constantLong RX8 437 2147483648 ∈ lw_ok := List.mem_filter.mpr ⟨List.mem_of_getElem? (i := 1186) (by decide +kernel), rfl⟩
theorem w_1187 : Cond.constantLong RX8 439 65536 ∈ lw_ok := List.mem_filter.mpr ⟨List.mem_of_getElem? (i := 1187) (by decide +kernel), rfl⟩
theorem w_1188 : Cond.constantLong RX8 441 10 ∈ lw_ok := List.mem_filter.mpr ⟨List.mem_of_getElem? (i := 1188) (by decide +kernel), rfl⟩
theorem w_1189 : Cond.methodLink RX8 351 yX8_heardByDraws ∈ lw_ok := List.mem_filter.mpr ⟨List.mem_of_getElem? (i := 1189) (by decide +kernel), rfl⟩
theorem w_1191 : Cond.instanceMethod yX8_heardByDraws ∈ lw_ok := List.mem_filter.mpr ⟨List.mem_of_getElem? (i := 1191) (by decide +kernel), rfl⟩
theorem w_1192 : Cond.code yX8_heardByDraws cX8_heardByDraws 2 (some .int) ∈ lw_ok := List.mem_filter.mpr ⟨List.mem_of_getElem? (i := 1192) (by decide +kernel), rfl⟩
theorem w_1193 : Cond.methodLink "LeakyLineLaw" 333 yX8_luck ∈ lw_ok := List.mem_filter.mpr ⟨List.mem_of_getElem? (i := 1193) (by decide +kernel), rfl⟩
theorem w_1194 : Cond.instanceMethod yX8_luck ∈ lw_ok := List.mem_filter.mpr ⟨List.mem_of_getElem? (i := 1194) (by decide +kernel), rfl⟩
theorem w_1195 : Cond.selects RX8 yX8_luck yX8_luck ∈ lw_ok := List.mem_filter.mpr ⟨List.mem_of_getElem? (i := 1195) (by decide +kernel), rfl⟩
theorem w_1196 : Cond.code yX8_luck cX8_luck 6 (some .int) ∈ lw_ok := List.mem_filter.mpr ⟨List.mem_of_getElem? (i := 1196) (by decide +kernel), rfl⟩
theorem w_1197 : Cond.methodLink "LeakyLineLaw" 337 yX8_rate ∈ lw_ok := List.mem_filter.mpr ⟨List.mem_of_getElem? (i := 1197) (by decide +kernel), rfl⟩
theorem w_1198 : Cond.instanceMethod yX8_rate ∈ lw_ok := List.mem_filter.mpr ⟨List.mem_of_getElem? (i := 1198) (by decide +kernel), rfl⟩
theorem w_1199 : Cond.selects RX8 yX8_rate yX8_rate ∈ lw_ok := List.mem_filter.mpr ⟨List.mem_of_getElem? (i := 1199) (by decide +kernel), rfl⟩
theorem w_1200 : Cond.code yX8_rate cX8_rate 4 (some .int) ∈ lw_ok := List.mem_filter.mpr ⟨List.mem_of_getElem? (i := 1200) (by decide +kernel), rfl⟩
theorem w_1201 : Cond.methodLink "LeakyLineLaw" 341 yX8_count ∈ lw_ok := List.mem_filter.mpr ⟨List.mem_of_getElem? (i := 1201) (by decide +kernel), rfl⟩
theorem w_1202 : Cond.instanceMethod yX8_count ∈ lw_ok := List.mem_filter.mpr ⟨List.mem_of_getElem? (i := 1202) (by decide +kernel), rfl⟩
theorem w_1203 : Cond.selects RX8 yX8_count yX8_count ∈ lw_ok := List.mem_filter.mpr ⟨List.mem_of_getElem? (i := 1203) (by decide +kernel), rfl⟩
theorem w_1204 : Cond.code yX8_count cX8_count 2 (some .int) ∈ lw_ok := List.mem_filter.mpr ⟨List.mem_of_getElem? (i := 1204) (by decide +kernel), rfl⟩
theorem w_1205 : Cond.methodLink RX8 361 yX3_used ∈ lw_ok := List.mem_filter.mpr ⟨List.mem_of_getElem? (i := 1205) (by decide +kernel), rfl⟩
theorem w_1206 : Cond.instanceMethod yX3_used ∈ lw_ok := List.mem_filter.mpr ⟨List.mem_of_getElem? (i := 1206) (by decide +kernel), rfl⟩
theorem w_1207 : Cond.selects RX3 yX3_used yX3_used ∈ lw_ok := List.mem_filter.mpr ⟨List.mem_of_getElem? (i := 1207) (by decide +kernel), rfl⟩
theorem w_1208 : Cond.code yX3_used cX3_used 3 (some .int) ∈ lw_ok := List.mem_filter.mpr ⟨List.mem_of_getElem? (i := 1208) (by decide +kernel), rfl⟩
theorem w_1209 : Cond.methodLink RX3 22 yX3_has ∈ lw_ok := List.mem_filter.mpr ⟨List.mem_of_getElem? (i := 1209) (by decide +kernel), rfl⟩
theorem w_1210 : Cond.methodLink "LeakyLineLaw" 345 yX8_image ∈ lw_ok := List.mem_filter.mpr ⟨List.mem_of_getElem? (i := 1210) (by decide +kernel), rfl⟩
theorem w_1211 : Cond.instanceMethod yX8_image ∈ lw_ok := List.mem_filter.mpr ⟨List.mem_of_getElem? (i := 1211) (by decide +kernel), rfl⟩
theorem w_1212 : Cond.selects RX8 yX8_image yX8_image ∈ lw_ok := List.mem_filter.mpr ⟨List.mem_of_getElem? (i := 1212) (by decide +kernel), rfl⟩
theorem w_1213 : Cond.code yX8_image cX8_image 3 (some .int) ∈ lw_ok := List.mem_filter.mpr ⟨List.mem_of_getElem? (i := 1213) (by decide +kernel), rfl⟩
theorem w_1214 : Cond.methodLink "LeakyLineLaw" 349 yX8_back ∈ lw_ok := List.mem_filter.mpr ⟨List.mem_of_getElem? (i := 1214) (by decide +kernel), rfl⟩
theorem w_1215 : Cond.instanceMethod yX8_back ∈ lw_ok := List.mem_filter.mpr ⟨List.mem_of_getElem? (i := 1215) (by decide +kernel), rfl⟩
theorem w_1216 : Cond.selects RX8 yX8_back yX8_back ∈ lw_ok := List.mem_filter.mpr ⟨List.mem_of_getElem? (i := 1216) (by decide +kernel), rfl⟩
theorem w_1217 : Cond.code yX8_back cX8_back 3 (some .int) ∈ lw_ok := List.mem_filter.mpr ⟨List.mem_of_getElem? (i := 1217) (by decide +kernel), rfl⟩
theorem w_1218 : Cond.methodLink "LeakyLineLaw" 353 yX8_row ∈ lw_ok := List.mem_filter.mpr ⟨List.mem_of_getElem? (i := 1218) (by decide +kernel), rfl⟩
theorem w_1219 : Cond.instanceMethod yX8_row ∈ lw_ok := List.mem_filter.mpr ⟨List.mem_of_getElem? (i := 1219) (by decide +kernel), rfl⟩
theorem w_1220 : Cond.selects RX8 yX8_row yX8_row ∈ lw_ok := List.mem_filter.mpr ⟨List.mem_of_getElem? (i := 1220) (by decide +kernel), rfl⟩
theorem w_1221 : Cond.code yX8_row cX8_row 4 (some .int) ∈ lw_ok := List.mem_filter.mpr ⟨List.mem_of_getElem? (i := 1221) (by decide +kernel), rfl⟩
theorem w_1222 : Cond.methodLink RX8 367 yX3_lay ∈ lw_ok := List.mem_filter.mpr ⟨List.mem_of_getElem? (i := 1222) (by decide +kernel), rfl⟩
theorem w_1223 : Cond.instanceMethod yX3_lay ∈ lw_ok := List.mem_filter.mpr ⟨List.mem_of_getElem? (i := 1223) (by decide +kernel), rfl⟩
theorem w_1224 : Cond.selects RX3 yX3_lay yX3_lay ∈ lw_ok := List.mem_filter.mpr ⟨List.mem_of_getElem? (i := 1224) (by decide +kernel), rfl⟩
theorem w_1225 : Cond.code yX3_lay cX3_lay 4 none ∈ lw_ok := List.mem_filter.mpr ⟨List.mem_of_getElem? (i := 1225) (by decide +kernel), rfl⟩
theorem w_1226 : Cond.methodLink RX3 26 yJ7_fill_bad5a ∈ lw_ok := List.mem_filter.mpr ⟨List.mem_of_getElem? (i := 1226) (by decide +kernel), rfl⟩
theorem w_1227 : Cond.static yJ7_fill_bad5a ∈ lw_ok := List.mem_filter.mpr ⟨List.mem_of_getElem? (i := 1227) (by decide +kernel), rfl⟩
theorem w_1228 : Cond.code yJ7_fill_bad5a cJ7_fill_bad5a 6 none ∈ lw_ok := List.mem_filter.mpr ⟨List.mem_of_getElem? (i := 1228) (by decide +kernel), rfl⟩
theorem w_1229 : Cond.methodLink RJ7 13 yJ7_rangeCheck_23922 ∈ lw_ok := List.mem_filter.mpr ⟨List.mem_of_getElem? (i := 1229) (by decide +kernel), rfl⟩
theorem w_1230 : Cond.static yJ7_rangeCheck_23922 ∈ lw_ok := List.mem_filter.mpr ⟨List.mem_of_getElem? (i := 1230) (by decide +kernel), rfl⟩
theorem w_1231 : Cond.code yJ7_rangeCheck_23922 cJ7_rangeCheck_23922 3 none ∈ lw_ok := List.mem_filter.mpr ⟨List.mem_of_getElem? (i := 1231) (by decide +kernel), rfl⟩
theorem w_1232 : Cond.methodLink "LeakyLineLaw" 359 yX8_write ∈ lw_ok := List.mem_filter.mpr ⟨List.mem_of_getElem? (i := 1232) (by decide +kernel), rfl⟩
theorem w_1233 : Cond.instanceMethod yX8_write ∈ lw_ok := List.mem_filter.mpr ⟨List.mem_of_getElem? (i := 1233) (by decide +kernel), rfl⟩
theorem w_1234 : Cond.selects RX8 yX8_write yX8_write ∈ lw_ok := List.mem_filter.mpr ⟨List.mem_of_getElem? (i := 1234) (by decide +kernel), rfl⟩
theorem w_1235 : Cond.code yX8_write cX8_write 5 (some .int) ∈ lw_ok := List.mem_filter.mpr ⟨List.mem_of_getElem? (i := 1235) (by decide +kernel), rfl⟩
theorem w_1236 : Cond.methodLink RX8 376 yX3_put ∈ lw_ok := List.mem_filter.mpr ⟨List.mem_of_getElem? (i := 1236) (by decide +kernel), rfl⟩
theorem w_1237 : Cond.instanceMethod yX3_put ∈ lw_ok := List.mem_filter.mpr ⟨List.mem_of_getElem? (i := 1237) (by decide +kernel), rfl⟩
theorem w_1238 : Cond.selects RX3 yX3_put yX3_put ∈ lw_ok := List.mem_filter.mpr ⟨List.mem_of_getElem? (i := 1238) (by decide +kernel), rfl⟩
theorem w_1239 : Cond.code yX3_put cX3_put 5 none ∈ lw_ok := List.mem_filter.mpr ⟨List.mem_of_getElem? (i := 1239) (by decide +kernel), rfl⟩
theorem w_1240 : Cond.methodLink RX3 32 yX3_cut ∈ lw_ok := List.mem_filter.mpr ⟨List.mem_of_getElem? (i := 1240) (by decide +kernel), rfl⟩
theorem w_1241 : Cond.static yX3_cut ∈ lw_ok := List.mem_filter.mpr ⟨List.mem_of_getElem? (i := 1241) (by decide +kernel), rfl⟩
theorem w_1242 : Cond.code yX3_cut cX3_cut 3 (some .long) ∈ lw_ok := List.mem_filter.mpr ⟨List.mem_of_getElem? (i := 1242) (by decide +kernel), rfl⟩
theorem w_1243 : Cond.methodLink "LeakyLineLaw" 364 yX8_paste ∈ lw_ok := List.mem_filter.mpr ⟨List.mem_of_getElem? (i := 1243) (by decide +kernel), rfl⟩
theorem w_1244 : Cond.instanceMethod yX8_paste ∈ lw_ok := List.mem_filter.mpr ⟨List.mem_of_getElem? (i := 1244) (by decide +kernel), rfl⟩
theorem w_1245 : Cond.selects RX8 yX8_paste yX8_paste ∈ lw_ok := List.mem_filter.mpr ⟨List.mem_of_getElem? (i := 1245) (by decide +kernel), rfl⟩
theorem w_1246 : Cond.code yX8_paste cX8_paste 6 (some .int) ∈ lw_ok := List.mem_filter.mpr ⟨List.mem_of_getElem? (i := 1246) (by decide +kernel), rfl⟩
theorem w_1247 : Cond.methodLink RX8 383 yX3_holds ∈ lw_ok := List.mem_filter.mpr ⟨List.mem_of_getElem? (i := 1247) (by decide +kernel), rfl⟩
theorem w_1248 : Cond.instanceMethod yX3_holds ∈ lw_ok := List.mem_filter.mpr ⟨List.mem_of_getElem? (i := 1248) (by decide +kernel), rfl⟩
theorem w_1249 : Cond.selects RX3 yX3_holds yX3_holds ∈ lw_ok := List.mem_filter.mpr ⟨List.mem_of_getElem? (i := 1249) (by decide +kernel), rfl⟩
theorem w_1250 : Cond.code yX3_holds cX3_holds 4 (some .boolean) ∈ lw_ok := List.mem_filter.mpr ⟨List.mem_of_getElem? (i := 1250) (by decide +kernel), rfl⟩
theorem w_1251 : Cond.methodLink RX8 387 yX3_copy ∈ lw_ok := List.mem_filter.mpr ⟨List.mem_of_getElem? (i := 1251) (by decide +kernel), rfl⟩
theorem w_1252 : Cond.instanceMethod yX3_copy ∈ lw_ok := List.mem_filter.mpr ⟨List.mem_of_getElem? (i := 1252) (by decide +kernel), rfl⟩
theorem w_1253 : Cond.selects RX3 yX3_copy yX3_copy ∈ lw_ok := List.mem_filter.mpr ⟨List.mem_of_getElem? (i := 1253) (by decide +kernel), rfl⟩
theorem w_1254 : Cond.code yX3_copy cX3_copy 6 none ∈ lw_ok := List.mem_filter.mpr ⟨List.mem_of_getElem? (i := 1254) (by decide +kernel), rfl⟩
theorem w_1255 : Cond.methodLink RX3 36 arraycopyName ∈ lw_ok := List.mem_filter.mpr ⟨List.mem_of_getElem? (i := 1255) (by decide +kernel), rfl⟩
theorem w_1256 : Cond.classLink "LeakyLineLaw" 10 RX9 ∈ lw_ok := List.mem_filter.mpr ⟨List.mem_of_getElem? (i := 1256) (by decide +kernel), rfl⟩
theorem w_1257 : Cond.instantiable RX9 38 ∈ lw_ok := List.mem_filter.mpr ⟨List.mem_of_getElem? (i := 1257) (by decide +kernel), rfl⟩
theorem w_1258 : Cond.methodLink "LeakyLineLaw" 12 yX9_init ∈ lw_ok := List.mem_filter.mpr ⟨List.mem_of_getElem? (i := 1258) (by decide +kernel), rfl⟩
theorem w_1259 : Cond.instanceMethod yX9_init ∈ lw_ok := List.mem_filter.mpr ⟨List.mem_of_getElem? (i := 1259) (by decide +kernel), rfl⟩
theorem w_1260 : Cond.code yX9_init cX9_init 2 none ∈ lw_ok := List.mem_filter.mpr ⟨List.mem_of_getElem? (i := 1260) (by decide +kernel), rfl⟩
theorem w_1261 : Cond.methodLink RX9 1 objectInit ∈ lw_ok := List.mem_filter.mpr ⟨List.mem_of_getElem? (i := 1261) (by decide +kernel), rfl⟩
theorem w_1262 : Cond.fieldLink RX9 68 "LeakyLineModel" "thrown" "I" ∈ lw_ok := List.mem_filter.mpr ⟨List.mem_of_getElem? (i := 1262) (by decide +kernel), rfl⟩
theorem w_1263 : Cond.fieldLink RX9 7 "LeakyLineModel" "width" "[I" ∈ lw_ok := List.mem_filter.mpr ⟨List.mem_of_getElem? (i := 1263) (by decide +kernel), rfl⟩
theorem w_1264 : Cond.fieldLink RX9 13 "LeakyLineModel" "many" "[I" ∈ lw_ok := List.mem_filter.mpr ⟨List.mem_of_getElem? (i := 1264) (by decide +kernel), rfl⟩
theorem w_1265 : Cond.fieldLink RX9 16 "LeakyLineModel" "cells" "[J" ∈ lw_ok := List.mem_filter.mpr ⟨List.mem_of_getElem? (i := 1265) (by decide +kernel), rfl⟩
theorem w_1266 : Cond.fieldLink RX9 20 "LeakyLineModel" "moved" "[J" ∈ lw_ok := List.mem_filter.mpr ⟨List.mem_of_getElem? (i := 1266) (by decide +kernel), rfl⟩
theorem w_1267 : Cond.fieldLink RX9 23 "LeakyLineModel" "tape" "[B" ∈ lw_ok := List.mem_filter.mpr ⟨List.mem_of_getElem? (i := 1267) (by decide +kernel), rfl⟩
theorem w_1268 : Cond.fieldLink RX9 85 "LeakyLineModel" "taped" "I" ∈ lw_ok := List.mem_filter.mpr ⟨List.mem_of_getElem? (i := 1268) (by decide +kernel), rfl⟩
theorem w_1269 : Cond.fieldLink RX9 92 "LeakyLineModel" "spot" "I" ∈ lw_ok := List.mem_filter.mpr ⟨List.mem_of_getElem? (i := 1269) (by decide +kernel), rfl⟩
theorem w_1270 : Cond.fieldLink RX9 109 "LeakyLineModel" "token" "I" ∈ lw_ok := List.mem_filter.mpr ⟨List.mem_of_getElem? (i := 1270) (by decide +kernel), rfl⟩
theorem w_1271 : Cond.fieldLink RX9 99 "LeakyLineModel" "place" "I" ∈ lw_ok := List.mem_filter.mpr ⟨List.mem_of_getElem? (i := 1271) (by decide +kernel), rfl⟩
theorem w_1272 : Cond.fieldLink RX9 102 "LeakyLineModel" "value" "I" ∈ lw_ok := List.mem_filter.mpr ⟨List.mem_of_getElem? (i := 1272) (by decide +kernel), rfl⟩
theorem w_1273 : Cond.fieldLink RX9 105 "LeakyLineModel" "word" "J" ∈ lw_ok := List.mem_filter.mpr ⟨List.mem_of_getElem? (i := 1273) (by decide +kernel), rfl⟩
theorem w_1274 : Cond.fieldLink RX9 120 "LeakyLineModel" "bad" "I" ∈ lw_ok := List.mem_filter.mpr ⟨List.mem_of_getElem? (i := 1274) (by decide +kernel), rfl⟩
theorem w_1275 : Cond.fieldLink RX9 123 "LeakyLineModel" "badPlace" "I" ∈ lw_ok := List.mem_filter.mpr ⟨List.mem_of_getElem? (i := 1275) (by decide +kernel), rfl⟩
theorem w_1276 : Cond.fieldLink RX9 147 "LeakyLineModel" "fault" "I" ∈ lw_ok := List.mem_filter.mpr ⟨List.mem_of_getElem? (i := 1276) (by decide +kernel), rfl⟩
theorem w_1277 : Cond.fieldLink RX9 27 "LeakyLineModel" "faultPlace" "I" ∈ lw_ok := List.mem_filter.mpr ⟨List.mem_of_getElem? (i := 1277) (by decide +kernel), rfl⟩
theorem w_1278 : Cond.fieldLink RX9 31 "LeakyLineModel" "lines" "[I" ∈ lw_ok := List.mem_filter.mpr ⟨List.mem_of_getElem? (i := 1278) (by decide +kernel), rfl⟩
theorem w_1279 : Cond.fieldLink RX9 34 "LeakyLineModel" "has" "[I" ∈ lw_ok := List.mem_filter.mpr ⟨List.mem_of_getElem? (i := 1279) (by decide +kernel), rfl⟩
theorem w_1280 : Cond.fieldLink RX9 37 "LeakyLineModel" "spanOf" "[I" ∈ lw_ok := List.mem_filter.mpr ⟨List.mem_of_getElem? (i := 1280) (by decide +kernel), rfl⟩
theorem w_1281 : Cond.fieldLink RX9 40 "LeakyLineModel" "wetOf" "[I" ∈ lw_ok := List.mem_filter.mpr ⟨List.mem_of_getElem? (i := 1281) (by decide +kernel), rfl⟩
theorem w_1282 : Cond.fieldLink RX9 43 "LeakyLineModel" "act" "[I" ∈ lw_ok := List.mem_filter.mpr ⟨List.mem_of_getElem? (i := 1282) (by decide +kernel), rfl⟩
theorem w_1283 : Cond.fieldLink RX9 46 "LeakyLineModel" "isKept" "[Z" ∈ lw_ok := List.mem_filter.mpr ⟨List.mem_of_getElem? (i := 1283) (by decide +kernel), rfl⟩
theorem w_1284 : Cond.fieldLink RX9 225 "LeakyLineModel" "law" "I" ∈ lw_ok := List.mem_filter.mpr ⟨List.mem_of_getElem? (i := 1284) (by decide +kernel), rfl⟩
theorem w_1285 : Cond.fieldLink RX9 228 "LeakyLineModel" "wet" "I" ∈ lw_ok := List.mem_filter.mpr ⟨List.mem_of_getElem? (i := 1285) (by decide +kernel), rfl⟩
theorem w_1286 : Cond.fieldLink RX9 231 "LeakyLineModel" "cupped" "I" ∈ lw_ok := List.mem_filter.mpr ⟨List.mem_of_getElem? (i := 1286) (by decide +kernel), rfl⟩
theorem w_1287 : Cond.fieldLink RX9 234 "LeakyLineModel" "gone" "I" ∈ lw_ok := List.mem_filter.mpr ⟨List.mem_of_getElem? (i := 1287) (by decide +kernel), rfl⟩
theorem w_1288 : Cond.fieldLink RX9 237 "LeakyLineModel" "battery0" "I" ∈ lw_ok := List.mem_filter.mpr ⟨List.mem_of_getElem? (i := 1288) (by decide +kernel), rfl⟩
theorem w_1289 : Cond.fieldLink RX9 50 "LeakyLineModel" "ohmsTold" "[I" ∈ lw_ok := List.mem_filter.mpr ⟨List.mem_of_getElem? (i := 1289) (by decide +kernel), rfl⟩
theorem w_1290 : Cond.fieldLink RX9 53 "LeakyLineModel" "leakTold" "[I" ∈ lw_ok := List.mem_filter.mpr ⟨List.mem_of_getElem? (i := 1290) (by decide +kernel), rfl⟩
theorem w_1291 : Cond.fieldLink RX9 250 "LeakyLineModel" "joins" "I" ∈ lw_ok := List.mem_filter.mpr ⟨List.mem_of_getElem? (i := 1291) (by decide +kernel), rfl⟩
theorem w_1292 : Cond.fieldLink RX9 56 "LeakyLineModel" "part0" "[J" ∈ lw_ok := List.mem_filter.mpr ⟨List.mem_of_getElem? (i := 1292) (by decide +kernel), rfl⟩
theorem w_1293 : Cond.fieldLink RX9 59 "LeakyLineModel" "flow" "[J" ∈ lw_ok := List.mem_filter.mpr ⟨List.mem_of_getElem? (i := 1293) (by decide +kernel), rfl⟩
theorem w_1294 : Cond.fieldLink RX9 259 "LeakyLineModel" "batteryPart" "J" ∈ lw_ok := List.mem_filter.mpr ⟨List.mem_of_getElem? (i := 1294) (by decide +kernel), rfl⟩
theorem w_1295 : Cond.fieldLink RX9 343 "LeakyLineModel" "seenBits" "I" ∈ lw_ok := List.mem_filter.mpr ⟨List.mem_of_getElem? (i := 1295) (by decide +kernel), rfl⟩
theorem w_1296 : Cond.fieldLink RX9 349 "LeakyLineModel" "askBest" "I" ∈ lw_ok := List.mem_filter.mpr ⟨List.mem_of_getElem? (i := 1296) (by decide +kernel), rfl⟩
theorem w_1297 : Cond.fieldLink RX9 352 "LeakyLineModel" "askLeaves" "I" ∈ lw_ok := List.mem_filter.mpr ⟨List.mem_of_getElem? (i := 1297) (by decide +kernel), rfl⟩
theorem w_1298 : Cond.fieldLink RX9 62 "LeakyLineModel" "aboveAt" "[J" ∈ lw_ok := List.mem_filter.mpr ⟨List.mem_of_getElem? (i := 1298) (by decide +kernel), rfl⟩
theorem w_1299 : Cond.fieldLink RX9 65 "LeakyLineModel" "belowAt" "[J" ∈ lw_ok := List.mem_filter.mpr ⟨List.mem_of_getElem? (i := 1299) (by decide +kernel), rfl⟩
theorem w_1377 : Cond.arrayClass (.boolean) ∈ lw_ok := List.mem_filter.mpr ⟨List.mem_of_getElem? (i := 1377) (by decide +kernel), rfl⟩
theorem w_1378 : Cond.methodLink "LeakyLineLaw" 356 yX9_row ∈ lw_ok := List.mem_filter.mpr ⟨List.mem_of_getElem? (i := 1378) (by decide +kernel), rfl⟩
theorem w_1379 : Cond.instanceMethod yX9_row ∈ lw_ok := List.mem_filter.mpr ⟨List.mem_of_getElem? (i := 1379) (by decide +kernel), rfl⟩
theorem w_1380 : Cond.selects RX9 yX9_row yX9_row ∈ lw_ok := List.mem_filter.mpr ⟨List.mem_of_getElem? (i := 1380) (by decide +kernel), rfl⟩
theorem w_1381 : Cond.code yX9_row cX9_row 5 (some .int) ∈ lw_ok := List.mem_filter.mpr ⟨List.mem_of_getElem? (i := 1381) (by decide +kernel), rfl⟩
theorem w_1382 : Cond.methodLink RX9 77 yX9_isSlot ∈ lw_ok := List.mem_filter.mpr ⟨List.mem_of_getElem? (i := 1382) (by decide +kernel), rfl⟩
theorem w_1383 : Cond.static yX9_isSlot ∈ lw_ok := List.mem_filter.mpr ⟨List.mem_of_getElem? (i := 1383) (by decide +kernel), rfl⟩
theorem w_1384 : Cond.code yX9_isSlot cX9_isSlot 1 (some .boolean) ∈ lw_ok := List.mem_filter.mpr ⟨List.mem_of_getElem? (i := 1384) (by decide +kernel), rfl⟩
theorem w_1385 : Cond.constantLong RX9 71 3 ∈ lw_ok := List.mem_filter.mpr ⟨List.mem_of_getElem? (i := 1385) (by decide +kernel), rfl⟩
theorem w_1386 : Cond.methodLink RX9 73 yX9_in ∈ lw_ok := List.mem_filter.mpr ⟨List.mem_of_getElem? (i := 1386) (by decide +kernel), rfl⟩
theorem w_1387 : Cond.static yX9_in ∈ lw_ok := List.mem_filter.mpr ⟨List.mem_of_getElem? (i := 1387) (by decide +kernel), rfl⟩
theorem w_1388 : Cond.code yX9_in cX9_in 6 (some .boolean) ∈ lw_ok := List.mem_filter.mpr ⟨List.mem_of_getElem? (i := 1388) (by decide +kernel), rfl⟩
theorem w_1389 : Cond.methodLink "LeakyLineLaw" 363 yX9_write ∈ lw_ok := List.mem_filter.mpr ⟨List.mem_of_getElem? (i := 1389) (by decide +kernel), rfl⟩
theorem w_1390 : Cond.instanceMethod yX9_write ∈ lw_ok := List.mem_filter.mpr ⟨List.mem_of_getElem? (i := 1390) (by decide +kernel), rfl⟩
theorem w_1391 : Cond.selects RX9 yX9_write yX9_write ∈ lw_ok := List.mem_filter.mpr ⟨List.mem_of_getElem? (i := 1391) (by decide +kernel), rfl⟩
theorem w_1392 : Cond.code yX9_write cX9_write 5 (some .int) ∈ lw_ok := List.mem_filter.mpr ⟨List.mem_of_getElem? (i := 1392) (by decide +kernel), rfl⟩
theorem w_1393 : Cond.methodLink RX9 81 yX9_cut ∈ lw_ok := List.mem_filter.mpr ⟨List.mem_of_getElem? (i := 1393) (by decide +kernel), rfl⟩
theorem w_1394 : Cond.static yX9_cut ∈ lw_ok := List.mem_filter.mpr ⟨List.mem_of_getElem? (i := 1394) (by decide +kernel), rfl⟩
theorem w_1395 : Cond.code yX9_cut cX9_cut 3 (some .long) ∈ lw_ok := List.mem_filter.mpr ⟨List.mem_of_getElem? (i := 1395) (by decide +kernel), rfl⟩
theorem w_1396 : Cond.methodLink "LeakyLineLaw" 367 yX9_paste ∈ lw_ok := List.mem_filter.mpr ⟨List.mem_of_getElem? (i := 1396) (by decide +kernel), rfl⟩
theorem w_1397 : Cond.instanceMethod yX9_paste ∈ lw_ok := List.mem_filter.mpr ⟨List.mem_of_getElem? (i := 1397) (by decide +kernel), rfl⟩
theorem w_1398 : Cond.selects RX9 yX9_paste yX9_paste ∈ lw_ok := List.mem_filter.mpr ⟨List.mem_of_getElem? (i := 1398) (by decide +kernel), rfl⟩
theorem w_1399 : Cond.code yX9_paste cX9_paste 7 (some .int) ∈ lw_ok := List.mem_filter.mpr ⟨List.mem_of_getElem? (i := 1399) (by decide +kernel), rfl⟩
theorem w_1400 : Cond.methodLink "LeakyLineLaw" 17 yX9_feed ∈ lw_ok := List.mem_filter.mpr ⟨List.mem_of_getElem? (i := 1400) (by decide +kernel), rfl⟩
theorem w_1401 : Cond.instanceMethod yX9_feed ∈ lw_ok := List.mem_filter.mpr ⟨List.mem_of_getElem? (i := 1401) (by decide +kernel), rfl⟩
theorem w_1402 : Cond.selects RX9 yX9_feed yX9_feed ∈ lw_ok := List.mem_filter.mpr ⟨List.mem_of_getElem? (i := 1402) (by decide +kernel), rfl⟩
theorem w_1403 : Cond.code yX9_feed cX9_feed 6 (some .int) ∈ lw_ok := List.mem_filter.mpr ⟨List.mem_of_getElem? (i := 1403) (by decide +kernel), rfl⟩
theorem w_1404 : Cond.methodLink RX9 88 yX9_four ∈ lw_ok := List.mem_filter.mpr ⟨List.mem_of_getElem? (i := 1404) (by decide +kernel), rfl⟩
theorem w_1406 : Cond.instanceMethod yX9_four ∈ lw_ok := List.mem_filter.mpr ⟨List.mem_of_getElem? (i := 1406) (by decide +kernel), rfl⟩
theorem w_1407 : Cond.code yX9_four cX9_four 3 none ∈ lw_ok := List.mem_filter.mpr ⟨List.mem_of_getElem? (i := 1407) (by decide +kernel), rfl⟩
theorem w_1408 : Cond.methodLink "LeakyLineLaw" 22 yX9_end ∈ lw_ok := List.mem_filter.mpr ⟨List.mem_of_getElem? (i := 1408) (by decide +kernel), rfl⟩
theorem w_1409 : Cond.instanceMethod yX9_end ∈ lw_ok := List.mem_filter.mpr ⟨List.mem_of_getElem? (i := 1409) (by decide +kernel), rfl⟩
theorem w_1410 : Cond.selects RX9 yX9_end yX9_end ∈ lw_ok := List.mem_filter.mpr ⟨List.mem_of_getElem? (i := 1410) (by decide +kernel), rfl⟩
theorem w_1411 : Cond.code yX9_end cX9_end 2 (some .int) ∈ lw_ok := List.mem_filter.mpr ⟨List.mem_of_getElem? (i := 1411) (by decide +kernel), rfl⟩
theorem w_1412 : Cond.methodLink "LeakyLineLaw" 31 yX9_fault ∈ lw_ok := List.mem_filter.mpr ⟨List.mem_of_getElem? (i := 1412) (by decide +kernel), rfl⟩
theorem w_1413 : Cond.instanceMethod yX9_fault ∈ lw_ok := List.mem_filter.mpr ⟨List.mem_of_getElem? (i := 1413) (by decide +kernel), rfl⟩
theorem w_1414 : Cond.selects RX9 yX9_fault yX9_fault ∈ lw_ok := List.mem_filter.mpr ⟨List.mem_of_getElem? (i := 1414) (by decide +kernel), rfl⟩
theorem w_1415 : Cond.code yX9_fault cX9_fault 2 (some .int) ∈ lw_ok := List.mem_filter.mpr ⟨List.mem_of_getElem? (i := 1415) (by decide +kernel), rfl⟩
theorem w_1416 : Cond.methodLink "LeakyLineLaw" 27 yX9_wire ∈ lw_ok := List.mem_filter.mpr ⟨List.mem_of_getElem? (i := 1416) (by decide +kernel), rfl⟩
theorem w_1417 : Cond.instanceMethod yX9_wire ∈ lw_ok := List.mem_filter.mpr ⟨List.mem_of_getElem? (i := 1417) (by decide +kernel), rfl⟩
theorem w_1418 : Cond.selects RX9 yX9_wire yX9_wire ∈ lw_ok := List.mem_filter.mpr ⟨List.mem_of_getElem? (i := 1418) (by decide +kernel), rfl⟩
theorem w_1419 : Cond.code yX9_wire cX9_wire 1 (some .int) ∈ lw_ok := List.mem_filter.mpr ⟨List.mem_of_getElem? (i := 1419) (by decide +kernel), rfl⟩
theorem w_1420 : Cond.methodLink RX9 176 yX9_clears ∈ lw_ok := List.mem_filter.mpr ⟨List.mem_of_getElem? (i := 1420) (by decide +kernel), rfl⟩
theorem w_1422 : Cond.instanceMethod yX9_clears ∈ lw_ok := List.mem_filter.mpr ⟨List.mem_of_getElem? (i := 1422) (by decide +kernel), rfl⟩
theorem w_1423 : Cond.code yX9_clears cX9_clears 2 none ∈ lw_ok := List.mem_filter.mpr ⟨List.mem_of_getElem? (i := 1423) (by decide +kernel), rfl⟩
theorem w_1424 : Cond.methodLink RX9 161 yX9_tells ∈ lw_ok := List.mem_filter.mpr ⟨List.mem_of_getElem? (i := 1424) (by decide +kernel), rfl⟩
theorem w_1426 : Cond.instanceMethod yX9_tells ∈ lw_ok := List.mem_filter.mpr ⟨List.mem_of_getElem? (i := 1426) (by decide +kernel), rfl⟩
theorem w_1427 : Cond.code yX9_tells cX9_tells 3 none ∈ lw_ok := List.mem_filter.mpr ⟨List.mem_of_getElem? (i := 1427) (by decide +kernel), rfl⟩
theorem w_1428 : Cond.methodLink RX9 179 yX9_begins ∈ lw_ok := List.mem_filter.mpr ⟨List.mem_of_getElem? (i := 1428) (by decide +kernel), rfl⟩
theorem w_1430 : Cond.instanceMethod yX9_begins ∈ lw_ok := List.mem_filter.mpr ⟨List.mem_of_getElem? (i := 1430) (by decide +kernel), rfl⟩
theorem w_1431 : Cond.code yX9_begins cX9_begins 1 none ∈ lw_ok := List.mem_filter.mpr ⟨List.mem_of_getElem? (i := 1431) (by decide +kernel), rfl⟩
theorem w_1432 : Cond.methodLink RX9 130 yX9_next ∈ lw_ok := List.mem_filter.mpr ⟨List.mem_of_getElem? (i := 1432) (by decide +kernel), rfl⟩
theorem w_1434 : Cond.instanceMethod yX9_next ∈ lw_ok := List.mem_filter.mpr ⟨List.mem_of_getElem? (i := 1434) (by decide +kernel), rfl⟩
theorem w_1435 : Cond.code yX9_next cX9_next 2 none ∈ lw_ok := List.mem_filter.mpr ⟨List.mem_of_getElem? (i := 1435) (by decide +kernel), rfl⟩
theorem w_1436 : Cond.methodLink RX9 95 yX9_isByte ∈ lw_ok := List.mem_filter.mpr ⟨List.mem_of_getElem? (i := 1436) (by decide +kernel), rfl⟩
theorem w_1438 : Cond.instanceMethod yX9_isByte ∈ lw_ok := List.mem_filter.mpr ⟨List.mem_of_getElem? (i := 1438) (by decide +kernel), rfl⟩
theorem w_1439 : Cond.code yX9_isByte cX9_isByte 4 (some .boolean) ∈ lw_ok := List.mem_filter.mpr ⟨List.mem_of_getElem? (i := 1439) (by decide +kernel), rfl⟩
theorem w_1440 : Cond.constantLong RX9 112 (-1) ∈ lw_ok := List.mem_filter.mpr ⟨List.mem_of_getElem? (i := 1440) (by decide +kernel), rfl⟩
theorem w_1441 : Cond.constantLong RX9 114 27 ∈ lw_ok := List.mem_filter.mpr ⟨List.mem_of_getElem? (i := 1441) (by decide +kernel), rfl⟩
theorem w_1442 : Cond.constantLong RX9 116 96 ∈ lw_ok := List.mem_filter.mpr ⟨List.mem_of_getElem? (i := 1442) (by decide +kernel), rfl⟩
theorem w_1443 : Cond.constant RX9 118 100000 ∈ lw_ok := List.mem_filter.mpr ⟨List.mem_of_getElem? (i := 1443) (by decide +kernel), rfl⟩
theorem w_1444 : Cond.constant RX9 119 1000000 ∈ lw_ok := List.mem_filter.mpr ⟨List.mem_of_getElem? (i := 1444) (by decide +kernel), rfl⟩
theorem w_1445 : Cond.methodLink RX9 182 yX9_isGood ∈ lw_ok := List.mem_filter.mpr ⟨List.mem_of_getElem? (i := 1445) (by decide +kernel), rfl⟩
theorem w_1447 : Cond.instanceMethod yX9_isGood ∈ lw_ok := List.mem_filter.mpr ⟨List.mem_of_getElem? (i := 1447) (by decide +kernel), rfl⟩
theorem w_1448 : Cond.code yX9_isGood cX9_isGood 1 (some .boolean) ∈ lw_ok := List.mem_filter.mpr ⟨List.mem_of_getElem? (i := 1448) (by decide +kernel), rfl⟩
theorem w_1449 : Cond.constantLong RX9 186 459761 ∈ lw_ok := List.mem_filter.mpr ⟨List.mem_of_getElem? (i := 1449) (by decide +kernel), rfl⟩
theorem w_1450 : Cond.methodLink RX9 139 yX9_asks ∈ lw_ok := List.mem_filter.mpr ⟨List.mem_of_getElem? (i := 1450) (by decide +kernel), rfl⟩
theorem w_1452 : Cond.instanceMethod yX9_asks ∈ lw_ok := List.mem_filter.mpr ⟨List.mem_of_getElem? (i := 1452) (by decide +kernel), rfl⟩
theorem w_1453 : Cond.code yX9_asks cX9_asks 3 none ∈ lw_ok := List.mem_filter.mpr ⟨List.mem_of_getElem? (i := 1453) (by decide +kernel), rfl⟩
theorem w_1454 : Cond.methodLink RX9 133 yX9_takesWord ∈ lw_ok := List.mem_filter.mpr ⟨List.mem_of_getElem? (i := 1454) (by decide +kernel), rfl⟩
theorem w_1456 : Cond.instanceMethod yX9_takesWord ∈ lw_ok := List.mem_filter.mpr ⟨List.mem_of_getElem? (i := 1456) (by decide +kernel), rfl⟩
theorem w_1457 : Cond.code yX9_takesWord cX9_takesWord 3 (some .boolean) ∈ lw_ok := List.mem_filter.mpr ⟨List.mem_of_getElem? (i := 1457) (by decide +kernel), rfl⟩
theorem w_1458 : Cond.methodLink RX9 126 yX9_is ∈ lw_ok := List.mem_filter.mpr ⟨List.mem_of_getElem? (i := 1458) (by decide +kernel), rfl⟩
theorem w_1460 : Cond.instanceMethod yX9_is ∈ lw_ok := List.mem_filter.mpr ⟨List.mem_of_getElem? (i := 1460) (by decide +kernel), rfl⟩
theorem w_1461 : Cond.code yX9_is cX9_is 3 (some .boolean) ∈ lw_ok := List.mem_filter.mpr ⟨List.mem_of_getElem? (i := 1461) (by decide +kernel), rfl⟩
theorem w_1462 : Cond.methodLink RX9 136 yX9_fails ∈ lw_ok := List.mem_filter.mpr ⟨List.mem_of_getElem? (i := 1462) (by decide +kernel), rfl⟩
theorem w_1464 : Cond.instanceMethod yX9_fails ∈ lw_ok := List.mem_filter.mpr ⟨List.mem_of_getElem? (i := 1464) (by decide +kernel), rfl⟩
theorem w_1465 : Cond.code yX9_fails cX9_fails 2 none ∈ lw_ok := List.mem_filter.mpr ⟨List.mem_of_getElem? (i := 1465) (by decide +kernel), rfl⟩
theorem w_1466 : Cond.constantLong RX9 188 80155 ∈ lw_ok := List.mem_filter.mpr ⟨List.mem_of_getElem? (i := 1466) (by decide +kernel), rfl⟩
theorem w_1467 : Cond.methodLink RX9 156 yX9_number_ ∈ lw_ok := List.mem_filter.mpr ⟨List.mem_of_getElem? (i := 1467) (by decide +kernel), rfl⟩
theorem w_1469 : Cond.instanceMethod yX9_number_ ∈ lw_ok := List.mem_filter.mpr ⟨List.mem_of_getElem? (i := 1469) (by decide +kernel), rfl⟩
theorem w_1470 : Cond.code yX9_number_ cX9_number_ 5 (some .int) ∈ lw_ok := List.mem_filter.mpr ⟨List.mem_of_getElem? (i := 1470) (by decide +kernel), rfl⟩
theorem w_1471 : Cond.methodLink RX9 143 yX9_number ∈ lw_ok := List.mem_filter.mpr ⟨List.mem_of_getElem? (i := 1471) (by decide +kernel), rfl⟩
theorem w_1473 : Cond.instanceMethod yX9_number ∈ lw_ok := List.mem_filter.mpr ⟨List.mem_of_getElem? (i := 1473) (by decide +kernel), rfl⟩
theorem w_1474 : Cond.code yX9_number cX9_number 4 (some .int) ∈ lw_ok := List.mem_filter.mpr ⟨List.mem_of_getElem? (i := 1474) (by decide +kernel), rfl⟩
theorem w_1475 : Cond.constantLong RX9 190 8798 ∈ lw_ok := List.mem_filter.mpr ⟨List.mem_of_getElem? (i := 1475) (by decide +kernel), rfl⟩
theorem w_1476 : Cond.constantLong RX9 192 298288 ∈ lw_ok := List.mem_filter.mpr ⟨List.mem_of_getElem? (i := 1476) (by decide +kernel), rfl⟩
theorem w_1477 : Cond.constantLong RX9 194 11996254 ∈ lw_ok := List.mem_filter.mpr ⟨List.mem_of_getElem? (i := 1477) (by decide +kernel), rfl⟩
theorem w_1478 : Cond.methodLink RX9 196 yX9_lineHere ∈ lw_ok := List.mem_filter.mpr ⟨List.mem_of_getElem? (i := 1478) (by decide +kernel), rfl⟩
theorem w_1480 : Cond.instanceMethod yX9_lineHere ∈ lw_ok := List.mem_filter.mpr ⟨List.mem_of_getElem? (i := 1480) (by decide +kernel), rfl⟩
theorem w_1481 : Cond.code yX9_lineHere cX9_lineHere 1 none ∈ lw_ok := List.mem_filter.mpr ⟨List.mem_of_getElem? (i := 1481) (by decide +kernel), rfl⟩
theorem w_1482 : Cond.constantLong RX9 165 385682 ∈ lw_ok := List.mem_filter.mpr ⟨List.mem_of_getElem? (i := 1482) (by decide +kernel), rfl⟩
theorem w_1483 : Cond.methodLink RX9 167 yX9_isRoom ∈ lw_ok := List.mem_filter.mpr ⟨List.mem_of_getElem? (i := 1483) (by decide +kernel), rfl⟩
theorem w_1485 : Cond.instanceMethod yX9_isRoom ∈ lw_ok := List.mem_filter.mpr ⟨List.mem_of_getElem? (i := 1485) (by decide +kernel), rfl⟩
theorem w_1486 : Cond.code yX9_isRoom cX9_isRoom 4 (some .boolean) ∈ lw_ok := List.mem_filter.mpr ⟨List.mem_of_getElem? (i := 1486) (by decide +kernel), rfl⟩
theorem w_1487 : Cond.methodLink RX9 150 yX9_hasRead ∈ lw_ok := List.mem_filter.mpr ⟨List.mem_of_getElem? (i := 1487) (by decide +kernel), rfl⟩
theorem w_1489 : Cond.instanceMethod yX9_hasRead ∈ lw_ok := List.mem_filter.mpr ⟨List.mem_of_getElem? (i := 1489) (by decide +kernel), rfl⟩
theorem w_1490 : Cond.code yX9_hasRead cX9_hasRead 2 (some .int) ∈ lw_ok := List.mem_filter.mpr ⟨List.mem_of_getElem? (i := 1490) (by decide +kernel), rfl⟩
theorem w_1491 : Cond.methodLink RX9 171 yX9_spanLine ∈ lw_ok := List.mem_filter.mpr ⟨List.mem_of_getElem? (i := 1491) (by decide +kernel), rfl⟩
theorem w_1493 : Cond.instanceMethod yX9_spanLine ∈ lw_ok := List.mem_filter.mpr ⟨List.mem_of_getElem? (i := 1493) (by decide +kernel), rfl⟩
theorem w_1494 : Cond.code yX9_spanLine cX9_spanLine 2 none ∈ lw_ok := List.mem_filter.mpr ⟨List.mem_of_getElem? (i := 1494) (by decide +kernel), rfl⟩
theorem w_1495 : Cond.constantLong RX9 154 239879 ∈ lw_ok := List.mem_filter.mpr ⟨List.mem_of_getElem? (i := 1495) (by decide +kernel), rfl⟩
theorem w_1496 : Cond.constantLong RX9 159 7542361 ∈ lw_ok := List.mem_filter.mpr ⟨List.mem_of_getElem? (i := 1496) (by decide +kernel), rfl⟩
theorem w_1497 : Cond.constantLong RX9 174 16922 ∈ lw_ok := List.mem_filter.mpr ⟨List.mem_of_getElem? (i := 1497) (by decide +kernel), rfl⟩
theorem w_1498 : Cond.methodLink RX9 199 yX9_closes ∈ lw_ok := List.mem_filter.mpr ⟨List.mem_of_getElem? (i := 1498) (by decide +kernel), rfl⟩
theorem w_1500 : Cond.instanceMethod yX9_closes ∈ lw_ok := List.mem_filter.mpr ⟨List.mem_of_getElem? (i := 1500) (by decide +kernel), rfl⟩
theorem w_1501 : Cond.code yX9_closes cX9_closes 1 none ∈ lw_ok := List.mem_filter.mpr ⟨List.mem_of_getElem? (i := 1501) (by decide +kernel), rfl⟩
theorem w_1502 : Cond.methodLink RX9 202 yX9_isOver ∈ lw_ok := List.mem_filter.mpr ⟨List.mem_of_getElem? (i := 1502) (by decide +kernel), rfl⟩
theorem w_1504 : Cond.instanceMethod yX9_isOver ∈ lw_ok := List.mem_filter.mpr ⟨List.mem_of_getElem? (i := 1504) (by decide +kernel), rfl⟩
theorem w_1505 : Cond.code yX9_isOver cX9_isOver 1 none ∈ lw_ok := List.mem_filter.mpr ⟨List.mem_of_getElem? (i := 1505) (by decide +kernel), rfl⟩
theorem w_1506 : Cond.methodLink RX9 205 yX9_copyWire ∈ lw_ok := List.mem_filter.mpr ⟨List.mem_of_getElem? (i := 1506) (by decide +kernel), rfl⟩
theorem w_1508 : Cond.instanceMethod yX9_copyWire ∈ lw_ok := List.mem_filter.mpr ⟨List.mem_of_getElem? (i := 1508) (by decide +kernel), rfl⟩
theorem w_1509 : Cond.code yX9_copyWire cX9_copyWire 3 none ∈ lw_ok := List.mem_filter.mpr ⟨List.mem_of_getElem? (i := 1509) (by decide +kernel), rfl⟩
theorem w_1510 : Cond.methodLink RX9 208 yX9_copyRow ∈ lw_ok := List.mem_filter.mpr ⟨List.mem_of_getElem? (i := 1510) (by decide +kernel), rfl⟩
theorem w_1511 : Cond.static yX9_copyRow ∈ lw_ok := List.mem_filter.mpr ⟨List.mem_of_getElem? (i := 1511) (by decide +kernel), rfl⟩
theorem w_1512 : Cond.code yX9_copyRow cX9_copyRow 5 none ∈ lw_ok := List.mem_filter.mpr ⟨List.mem_of_getElem? (i := 1512) (by decide +kernel), rfl⟩
theorem w_1513 : Cond.methodLink "LeakyLineLaw" 36 yX9_span ∈ lw_ok := List.mem_filter.mpr ⟨List.mem_of_getElem? (i := 1513) (by decide +kernel), rfl⟩
theorem w_1514 : Cond.instanceMethod yX9_span ∈ lw_ok := List.mem_filter.mpr ⟨List.mem_of_getElem? (i := 1514) (by decide +kernel), rfl⟩
theorem w_1515 : Cond.selects RX9 yX9_span yX9_span ∈ lw_ok := List.mem_filter.mpr ⟨List.mem_of_getElem? (i := 1515) (by decide +kernel), rfl⟩
theorem w_1516 : Cond.code yX9_span cX9_span 3 (some .int) ∈ lw_ok := List.mem_filter.mpr ⟨List.mem_of_getElem? (i := 1516) (by decide +kernel), rfl⟩
theorem w_1517 : Cond.methodLink RX9 216 yX9_isSpan ∈ lw_ok := List.mem_filter.mpr ⟨List.mem_of_getElem? (i := 1517) (by decide +kernel), rfl⟩
theorem w_1519 : Cond.instanceMethod yX9_isSpan ∈ lw_ok := List.mem_filter.mpr ⟨List.mem_of_getElem? (i := 1519) (by decide +kernel), rfl⟩
theorem w_1520 : Cond.code yX9_isSpan cX9_isSpan 2 (some .boolean) ∈ lw_ok := List.mem_filter.mpr ⟨List.mem_of_getElem? (i := 1520) (by decide +kernel), rfl⟩
theorem w_1521 : Cond.methodLink RX9 212 yX9_spans ∈ lw_ok := List.mem_filter.mpr ⟨List.mem_of_getElem? (i := 1521) (by decide +kernel), rfl⟩
theorem w_1523 : Cond.instanceMethod yX9_spans ∈ lw_ok := List.mem_filter.mpr ⟨List.mem_of_getElem? (i := 1523) (by decide +kernel), rfl⟩
theorem w_1524 : Cond.code yX9_spans cX9_spans 1 (some .int) ∈ lw_ok := List.mem_filter.mpr ⟨List.mem_of_getElem? (i := 1524) (by decide +kernel), rfl⟩
theorem w_1525 : Cond.constantLong RX9 281 2 ∈ lw_ok := List.mem_filter.mpr ⟨List.mem_of_getElem? (i := 1525) (by decide +kernel), rfl⟩
theorem w_1526 : Cond.methodLink "LeakyLineLaw" 40 yX9_stations ∈ lw_ok := List.mem_filter.mpr ⟨List.mem_of_getElem? (i := 1526) (by decide +kernel), rfl⟩
theorem w_1527 : Cond.instanceMethod yX9_stations ∈ lw_ok := List.mem_filter.mpr ⟨List.mem_of_getElem? (i := 1527) (by decide +kernel), rfl⟩
theorem w_1528 : Cond.selects RX9 yX9_stations yX9_stations ∈ lw_ok := List.mem_filter.mpr ⟨List.mem_of_getElem? (i := 1528) (by decide +kernel), rfl⟩
theorem w_1529 : Cond.code yX9_stations cX9_stations 1 (some .int) ∈ lw_ok := List.mem_filter.mpr ⟨List.mem_of_getElem? (i := 1529) (by decide +kernel), rfl⟩
theorem w_1530 : Cond.methodLink RX9 219 yX9_isWire ∈ lw_ok := List.mem_filter.mpr ⟨List.mem_of_getElem? (i := 1530) (by decide +kernel), rfl⟩
theorem w_1532 : Cond.instanceMethod yX9_isWire ∈ lw_ok := List.mem_filter.mpr ⟨List.mem_of_getElem? (i := 1532) (by decide +kernel), rfl⟩
theorem w_1533 : Cond.code yX9_isWire cX9_isWire 1 (some .boolean) ∈ lw_ok := List.mem_filter.mpr ⟨List.mem_of_getElem? (i := 1533) (by decide +kernel), rfl⟩
theorem w_1534 : Cond.methodLink RX9 283 yX9_stationsAll ∈ lw_ok := List.mem_filter.mpr ⟨List.mem_of_getElem? (i := 1534) (by decide +kernel), rfl⟩
theorem w_1536 : Cond.instanceMethod yX9_stationsAll ∈ lw_ok := List.mem_filter.mpr ⟨List.mem_of_getElem? (i := 1536) (by decide +kernel), rfl⟩
theorem w_1537 : Cond.code yX9_stationsAll cX9_stationsAll 3 (some .int) ∈ lw_ok := List.mem_filter.mpr ⟨List.mem_of_getElem? (i := 1537) (by decide +kernel), rfl⟩
theorem w_1538 : Cond.methodLink RX9 268 yX9_isStation ∈ lw_ok := List.mem_filter.mpr ⟨List.mem_of_getElem? (i := 1538) (by decide +kernel), rfl⟩
theorem w_1540 : Cond.instanceMethod yX9_isStation ∈ lw_ok := List.mem_filter.mpr ⟨List.mem_of_getElem? (i := 1540) (by decide +kernel), rfl⟩
theorem w_1541 : Cond.code yX9_isStation cX9_isStation 2 (some .boolean) ∈ lw_ok := List.mem_filter.mpr ⟨List.mem_of_getElem? (i := 1541) (by decide +kernel), rfl⟩
theorem w_1542 : Cond.methodLink "LeakyLineLaw" 44 yX9_wets ∈ lw_ok := List.mem_filter.mpr ⟨List.mem_of_getElem? (i := 1542) (by decide +kernel), rfl⟩
theorem w_1543 : Cond.instanceMethod yX9_wets ∈ lw_ok := List.mem_filter.mpr ⟨List.mem_of_getElem? (i := 1543) (by decide +kernel), rfl⟩
theorem w_1544 : Cond.selects RX9 yX9_wets yX9_wets ∈ lw_ok := List.mem_filter.mpr ⟨List.mem_of_getElem? (i := 1544) (by decide +kernel), rfl⟩
theorem w_1545 : Cond.code yX9_wets cX9_wets 1 (some .int) ∈ lw_ok := List.mem_filter.mpr ⟨List.mem_of_getElem? (i := 1545) (by decide +kernel), rfl⟩
theorem w_1546 : Cond.methodLink RX9 286 yX9_lays ∈ lw_ok := List.mem_filter.mpr ⟨List.mem_of_getElem? (i := 1546) (by decide +kernel), rfl⟩
theorem w_1548 : Cond.instanceMethod yX9_lays ∈ lw_ok := List.mem_filter.mpr ⟨List.mem_of_getElem? (i := 1548) (by decide +kernel), rfl⟩
theorem w_1549 : Cond.code yX9_lays cX9_lays 2 none ∈ lw_ok := List.mem_filter.mpr ⟨List.mem_of_getElem? (i := 1549) (by decide +kernel), rfl⟩
theorem w_1550 : Cond.methodLink RX9 222 yX9_days ∈ lw_ok := List.mem_filter.mpr ⟨List.mem_of_getElem? (i := 1550) (by decide +kernel), rfl⟩
theorem w_1552 : Cond.instanceMethod yX9_days ∈ lw_ok := List.mem_filter.mpr ⟨List.mem_of_getElem? (i := 1552) (by decide +kernel), rfl⟩
theorem w_1553 : Cond.code yX9_days cX9_days 1 (some .int) ∈ lw_ok := List.mem_filter.mpr ⟨List.mem_of_getElem? (i := 1553) (by decide +kernel), rfl⟩
theorem w_1554 : Cond.methodLink "LeakyLineLaw" 48 yX9_leak ∈ lw_ok := List.mem_filter.mpr ⟨List.mem_of_getElem? (i := 1554) (by decide +kernel), rfl⟩
theorem w_1555 : Cond.instanceMethod yX9_leak ∈ lw_ok := List.mem_filter.mpr ⟨List.mem_of_getElem? (i := 1555) (by decide +kernel), rfl⟩
theorem w_1556 : Cond.selects RX9 yX9_leak yX9_leak ∈ lw_ok := List.mem_filter.mpr ⟨List.mem_of_getElem? (i := 1556) (by decide +kernel), rfl⟩
theorem w_1557 : Cond.code yX9_leak cX9_leak 3 (some .int) ∈ lw_ok := List.mem_filter.mpr ⟨List.mem_of_getElem? (i := 1557) (by decide +kernel), rfl⟩
theorem w_1558 : Cond.methodLink RX9 289 yX9_isDay ∈ lw_ok := List.mem_filter.mpr ⟨List.mem_of_getElem? (i := 1558) (by decide +kernel), rfl⟩
theorem w_1560 : Cond.instanceMethod yX9_isDay ∈ lw_ok := List.mem_filter.mpr ⟨List.mem_of_getElem? (i := 1560) (by decide +kernel), rfl⟩
theorem w_1561 : Cond.code yX9_isDay cX9_isDay 3 (some .boolean) ∈ lw_ok := List.mem_filter.mpr ⟨List.mem_of_getElem? (i := 1561) (by decide +kernel), rfl⟩
theorem w_1562 : Cond.methodLink RX9 256 yX9_leakOf ∈ lw_ok := List.mem_filter.mpr ⟨List.mem_of_getElem? (i := 1562) (by decide +kernel), rfl⟩
theorem w_1564 : Cond.instanceMethod yX9_leakOf ∈ lw_ok := List.mem_filter.mpr ⟨List.mem_of_getElem? (i := 1564) (by decide +kernel), rfl⟩
theorem w_1565 : Cond.code yX9_leakOf cX9_leakOf 7 (some .int) ∈ lw_ok := List.mem_filter.mpr ⟨List.mem_of_getElem? (i := 1565) (by decide +kernel), rfl⟩
theorem w_1566 : Cond.methodLink RX9 247 yX9_cupOf ∈ lw_ok := List.mem_filter.mpr ⟨List.mem_of_getElem? (i := 1566) (by decide +kernel), rfl⟩
theorem w_1568 : Cond.instanceMethod yX9_cupOf ∈ lw_ok := List.mem_filter.mpr ⟨List.mem_of_getElem? (i := 1568) (by decide +kernel), rfl⟩
theorem w_1569 : Cond.code yX9_cupOf cX9_cupOf 5 (some .int) ∈ lw_ok := List.mem_filter.mpr ⟨List.mem_of_getElem? (i := 1569) (by decide +kernel), rfl⟩
theorem w_1570 : Cond.methodLink RX9 240 yX9_isBit ∈ lw_ok := List.mem_filter.mpr ⟨List.mem_of_getElem? (i := 1570) (by decide +kernel), rfl⟩
theorem w_1571 : Cond.static yX9_isBit ∈ lw_ok := List.mem_filter.mpr ⟨List.mem_of_getElem? (i := 1571) (by decide +kernel), rfl⟩
theorem w_1572 : Cond.code yX9_isBit cX9_isBit 2 (some .boolean) ∈ lw_ok := List.mem_filter.mpr ⟨List.mem_of_getElem? (i := 1572) (by decide +kernel), rfl⟩
theorem w_1573 : Cond.methodLink RX9 244 yX9_moreOf ∈ lw_ok := List.mem_filter.mpr ⟨List.mem_of_getElem? (i := 1573) (by decide +kernel), rfl⟩
theorem w_1574 : Cond.static yX9_moreOf ∈ lw_ok := List.mem_filter.mpr ⟨List.mem_of_getElem? (i := 1574) (by decide +kernel), rfl⟩
theorem w_1575 : Cond.code yX9_moreOf cX9_moreOf 2 (some .int) ∈ lw_ok := List.mem_filter.mpr ⟨List.mem_of_getElem? (i := 1575) (by decide +kernel), rfl⟩
theorem w_1576 : Cond.methodLink "LeakyLineLaw" 52 yX9_joined ∈ lw_ok := List.mem_filter.mpr ⟨List.mem_of_getElem? (i := 1576) (by decide +kernel), rfl⟩
theorem w_1577 : Cond.instanceMethod yX9_joined ∈ lw_ok := List.mem_filter.mpr ⟨List.mem_of_getElem? (i := 1577) (by decide +kernel), rfl⟩
theorem w_1578 : Cond.selects RX9 yX9_joined yX9_joined ∈ lw_ok := List.mem_filter.mpr ⟨List.mem_of_getElem? (i := 1578) (by decide +kernel), rfl⟩
theorem w_1579 : Cond.code yX9_joined cX9_joined 2 (some .int) ∈ lw_ok := List.mem_filter.mpr ⟨List.mem_of_getElem? (i := 1579) (by decide +kernel), rfl⟩
theorem w_1580 : Cond.methodLink RX9 262 yX9_laysDay ∈ lw_ok := List.mem_filter.mpr ⟨List.mem_of_getElem? (i := 1580) (by decide +kernel), rfl⟩
theorem w_1582 : Cond.instanceMethod yX9_laysDay ∈ lw_ok := List.mem_filter.mpr ⟨List.mem_of_getElem? (i := 1582) (by decide +kernel), rfl⟩
theorem w_1583 : Cond.code yX9_laysDay cX9_laysDay 7 none ∈ lw_ok := List.mem_filter.mpr ⟨List.mem_of_getElem? (i := 1583) (by decide +kernel), rfl⟩
theorem w_1584 : Cond.methodLink RX9 253 yX9_isBroken ∈ lw_ok := List.mem_filter.mpr ⟨List.mem_of_getElem? (i := 1584) (by decide +kernel), rfl⟩
theorem w_1586 : Cond.instanceMethod yX9_isBroken ∈ lw_ok := List.mem_filter.mpr ⟨List.mem_of_getElem? (i := 1586) (by decide +kernel), rfl⟩
theorem w_1587 : Cond.code yX9_isBroken cX9_isBroken 4 (some .boolean) ∈ lw_ok := List.mem_filter.mpr ⟨List.mem_of_getElem? (i := 1587) (by decide +kernel), rfl⟩
theorem w_1588 : Cond.methodLink "LeakyLineLaw" 57 yX9_ohms ∈ lw_ok := List.mem_filter.mpr ⟨List.mem_of_getElem? (i := 1588) (by decide +kernel), rfl⟩
theorem w_1589 : Cond.instanceMethod yX9_ohms ∈ lw_ok := List.mem_filter.mpr ⟨List.mem_of_getElem? (i := 1589) (by decide +kernel), rfl⟩
theorem w_1590 : Cond.selects RX9 yX9_ohms yX9_ohms ∈ lw_ok := List.mem_filter.mpr ⟨List.mem_of_getElem? (i := 1590) (by decide +kernel), rfl⟩
theorem w_1591 : Cond.code yX9_ohms cX9_ohms 3 (some .long) ∈ lw_ok := List.mem_filter.mpr ⟨List.mem_of_getElem? (i := 1591) (by decide +kernel), rfl⟩
theorem w_1592 : Cond.methodLink RX9 292 yX9_isHalf ∈ lw_ok := List.mem_filter.mpr ⟨List.mem_of_getElem? (i := 1592) (by decide +kernel), rfl⟩
theorem w_1593 : Cond.static yX9_isHalf ∈ lw_ok := List.mem_filter.mpr ⟨List.mem_of_getElem? (i := 1593) (by decide +kernel), rfl⟩
theorem w_1594 : Cond.code yX9_isHalf cX9_isHalf 1 (some .boolean) ∈ lw_ok := List.mem_filter.mpr ⟨List.mem_of_getElem? (i := 1594) (by decide +kernel), rfl⟩
theorem w_1595 : Cond.constantLong RX9 295 (-2) ∈ lw_ok := List.mem_filter.mpr ⟨List.mem_of_getElem? (i := 1595) (by decide +kernel), rfl⟩
theorem w_1596 : Cond.methodLink RX9 297 yX9_partOf ∈ lw_ok := List.mem_filter.mpr ⟨List.mem_of_getElem? (i := 1596) (by decide +kernel), rfl⟩
theorem w_1597 : Cond.static yX9_partOf ∈ lw_ok := List.mem_filter.mpr ⟨List.mem_of_getElem? (i := 1597) (by decide +kernel), rfl⟩
theorem w_1598 : Cond.code yX9_partOf cX9_partOf 5 (some .long) ∈ lw_ok := List.mem_filter.mpr ⟨List.mem_of_getElem? (i := 1598) (by decide +kernel), rfl⟩
theorem w_1599 : Cond.methodLink RX9 277 yX9_common ∈ lw_ok := List.mem_filter.mpr ⟨List.mem_of_getElem? (i := 1599) (by decide +kernel), rfl⟩
theorem w_1600 : Cond.static yX9_common ∈ lw_ok := List.mem_filter.mpr ⟨List.mem_of_getElem? (i := 1600) (by decide +kernel), rfl⟩
theorem w_1601 : Cond.code yX9_common cX9_common 4 (some .long) ∈ lw_ok := List.mem_filter.mpr ⟨List.mem_of_getElem? (i := 1601) (by decide +kernel), rfl⟩
theorem w_1602 : Cond.methodLink "LeakyLineLaw" 61 yX9_amps ∈ lw_ok := List.mem_filter.mpr ⟨List.mem_of_getElem? (i := 1602) (by decide +kernel), rfl⟩
theorem w_1603 : Cond.instanceMethod yX9_amps ∈ lw_ok := List.mem_filter.mpr ⟨List.mem_of_getElem? (i := 1603) (by decide +kernel), rfl⟩
theorem w_1604 : Cond.selects RX9 yX9_amps yX9_amps ∈ lw_ok := List.mem_filter.mpr ⟨List.mem_of_getElem? (i := 1604) (by decide +kernel), rfl⟩
theorem w_1605 : Cond.code yX9_amps cX9_amps 3 (some .long) ∈ lw_ok := List.mem_filter.mpr ⟨List.mem_of_getElem? (i := 1605) (by decide +kernel), rfl⟩
theorem w_1606 : Cond.methodLink "LeakyLineLaw" 66 yX9_volts ∈ lw_ok := List.mem_filter.mpr ⟨List.mem_of_getElem? (i := 1606) (by decide +kernel), rfl⟩
theorem w_1607 : Cond.instanceMethod yX9_volts ∈ lw_ok := List.mem_filter.mpr ⟨List.mem_of_getElem? (i := 1607) (by decide +kernel), rfl⟩
theorem w_1608 : Cond.selects RX9 yX9_volts yX9_volts ∈ lw_ok := List.mem_filter.mpr ⟨List.mem_of_getElem? (i := 1608) (by decide +kernel), rfl⟩
theorem w_1609 : Cond.code yX9_volts cX9_volts 4 (some .long) ∈ lw_ok := List.mem_filter.mpr ⟨List.mem_of_getElem? (i := 1609) (by decide +kernel), rfl⟩
theorem w_1610 : Cond.methodLink RX9 301 yX9_isOf ∈ lw_ok := List.mem_filter.mpr ⟨List.mem_of_getElem? (i := 1610) (by decide +kernel), rfl⟩
theorem w_1612 : Cond.instanceMethod yX9_isOf ∈ lw_ok := List.mem_filter.mpr ⟨List.mem_of_getElem? (i := 1612) (by decide +kernel), rfl⟩
theorem w_1613 : Cond.code yX9_isOf cX9_isOf 4 (some .boolean) ∈ lw_ok := List.mem_filter.mpr ⟨List.mem_of_getElem? (i := 1613) (by decide +kernel), rfl⟩
theorem w_1614 : Cond.methodLink "LeakyLineLaw" 70 yX9_whole ∈ lw_ok := List.mem_filter.mpr ⟨List.mem_of_getElem? (i := 1614) (by decide +kernel), rfl⟩
theorem w_1615 : Cond.instanceMethod yX9_whole ∈ lw_ok := List.mem_filter.mpr ⟨List.mem_of_getElem? (i := 1615) (by decide +kernel), rfl⟩
theorem w_1616 : Cond.selects RX9 yX9_whole yX9_whole ∈ lw_ok := List.mem_filter.mpr ⟨List.mem_of_getElem? (i := 1616) (by decide +kernel), rfl⟩
theorem w_1617 : Cond.code yX9_whole cX9_whole 3 (some .int) ∈ lw_ok := List.mem_filter.mpr ⟨List.mem_of_getElem? (i := 1617) (by decide +kernel), rfl⟩
theorem w_1618 : Cond.methodLink "LeakyLineLaw" 74 yX9_falls ∈ lw_ok := List.mem_filter.mpr ⟨List.mem_of_getElem? (i := 1618) (by decide +kernel), rfl⟩
theorem w_1619 : Cond.instanceMethod yX9_falls ∈ lw_ok := List.mem_filter.mpr ⟨List.mem_of_getElem? (i := 1619) (by decide +kernel), rfl⟩
theorem w_1620 : Cond.selects RX9 yX9_falls yX9_falls ∈ lw_ok := List.mem_filter.mpr ⟨List.mem_of_getElem? (i := 1620) (by decide +kernel), rfl⟩
theorem w_1621 : Cond.code yX9_falls cX9_falls 4 (some .long) ∈ lw_ok := List.mem_filter.mpr ⟨List.mem_of_getElem? (i := 1621) (by decide +kernel), rfl⟩
theorem w_1622 : Cond.methodLink "LeakyLineLaw" 78 yX9_earth ∈ lw_ok := List.mem_filter.mpr ⟨List.mem_of_getElem? (i := 1622) (by decide +kernel), rfl⟩
theorem w_1623 : Cond.instanceMethod yX9_earth ∈ lw_ok := List.mem_filter.mpr ⟨List.mem_of_getElem? (i := 1623) (by decide +kernel), rfl⟩
theorem w_1624 : Cond.selects RX9 yX9_earth yX9_earth ∈ lw_ok := List.mem_filter.mpr ⟨List.mem_of_getElem? (i := 1624) (by decide +kernel), rfl⟩
theorem w_1625 : Cond.code yX9_earth cX9_earth 4 (some .long) ∈ lw_ok := List.mem_filter.mpr ⟨List.mem_of_getElem? (i := 1625) (by decide +kernel), rfl⟩
theorem w_1626 : Cond.methodLink "LeakyLineLaw" 82 yX9_sore ∈ lw_ok := List.mem_filter.mpr ⟨List.mem_of_getElem? (i := 1626) (by decide +kernel), rfl⟩
theorem w_1627 : Cond.instanceMethod yX9_sore ∈ lw_ok := List.mem_filter.mpr ⟨List.mem_of_getElem? (i := 1627) (by decide +kernel), rfl⟩
theorem w_1628 : Cond.selects RX9 yX9_sore yX9_sore ∈ lw_ok := List.mem_filter.mpr ⟨List.mem_of_getElem? (i := 1628) (by decide +kernel), rfl⟩
theorem w_1629 : Cond.code yX9_sore cX9_sore 4 (some .int) ∈ lw_ok := List.mem_filter.mpr ⟨List.mem_of_getElem? (i := 1629) (by decide +kernel), rfl⟩
theorem w_1630 : Cond.methodLink "LeakyLineLaw" 86 yX9_hears ∈ lw_ok := List.mem_filter.mpr ⟨List.mem_of_getElem? (i := 1630) (by decide +kernel), rfl⟩
theorem w_1631 : Cond.instanceMethod yX9_hears ∈ lw_ok := List.mem_filter.mpr ⟨List.mem_of_getElem? (i := 1631) (by decide +kernel), rfl⟩
theorem w_1632 : Cond.selects RX9 yX9_hears yX9_hears ∈ lw_ok := List.mem_filter.mpr ⟨List.mem_of_getElem? (i := 1632) (by decide +kernel), rfl⟩
theorem w_1633 : Cond.code yX9_hears cX9_hears 2 (some .int) ∈ lw_ok := List.mem_filter.mpr ⟨List.mem_of_getElem? (i := 1633) (by decide +kernel), rfl⟩
theorem w_1634 : Cond.methodLink RX9 271 yX9_hearsOn ∈ lw_ok := List.mem_filter.mpr ⟨List.mem_of_getElem? (i := 1634) (by decide +kernel), rfl⟩
theorem w_1636 : Cond.instanceMethod yX9_hearsOn ∈ lw_ok := List.mem_filter.mpr ⟨List.mem_of_getElem? (i := 1636) (by decide +kernel), rfl⟩
theorem w_1637 : Cond.code yX9_hearsOn cX9_hearsOn 4 (some .int) ∈ lw_ok := List.mem_filter.mpr ⟨List.mem_of_getElem? (i := 1637) (by decide +kernel), rfl⟩
theorem w_1638 : Cond.methodLink RX9 265 yX9_isHearing ∈ lw_ok := List.mem_filter.mpr ⟨List.mem_of_getElem? (i := 1638) (by decide +kernel), rfl⟩
theorem w_1640 : Cond.instanceMethod yX9_isHearing ∈ lw_ok := List.mem_filter.mpr ⟨List.mem_of_getElem? (i := 1640) (by decide +kernel), rfl⟩
theorem w_1641 : Cond.code yX9_isHearing cX9_isHearing 3 (some .boolean) ∈ lw_ok := List.mem_filter.mpr ⟨List.mem_of_getElem? (i := 1641) (by decide +kernel), rfl⟩
theorem w_1642 : Cond.methodLink "LeakyLineLaw" 90 yX9_silent ∈ lw_ok := List.mem_filter.mpr ⟨List.mem_of_getElem? (i := 1642) (by decide +kernel), rfl⟩
theorem w_1643 : Cond.instanceMethod yX9_silent ∈ lw_ok := List.mem_filter.mpr ⟨List.mem_of_getElem? (i := 1643) (by decide +kernel), rfl⟩
theorem w_1644 : Cond.selects RX9 yX9_silent yX9_silent ∈ lw_ok := List.mem_filter.mpr ⟨List.mem_of_getElem? (i := 1644) (by decide +kernel), rfl⟩
theorem w_1645 : Cond.code yX9_silent cX9_silent 2 (some .int) ∈ lw_ok := List.mem_filter.mpr ⟨List.mem_of_getElem? (i := 1645) (by decide +kernel), rfl⟩
theorem w_1646 : Cond.methodLink "LeakyLineLaw" 94 yX9_faint ∈ lw_ok := List.mem_filter.mpr ⟨List.mem_of_getElem? (i := 1646) (by decide +kernel), rfl⟩
theorem w_1647 : Cond.instanceMethod yX9_faint ∈ lw_ok := List.mem_filter.mpr ⟨List.mem_of_getElem? (i := 1647) (by decide +kernel), rfl⟩
theorem w_1648 : Cond.selects RX9 yX9_faint yX9_faint ∈ lw_ok := List.mem_filter.mpr ⟨List.mem_of_getElem? (i := 1648) (by decide +kernel), rfl⟩
theorem w_1649 : Cond.code yX9_faint cX9_faint 4 (some .int) ∈ lw_ok := List.mem_filter.mpr ⟨List.mem_of_getElem? (i := 1649) (by decide +kernel), rfl⟩
theorem w_1650 : Cond.methodLink RX9 304 yX9_partAt ∈ lw_ok := List.mem_filter.mpr ⟨List.mem_of_getElem? (i := 1650) (by decide +kernel), rfl⟩
theorem w_1652 : Cond.instanceMethod yX9_partAt ∈ lw_ok := List.mem_filter.mpr ⟨List.mem_of_getElem? (i := 1652) (by decide +kernel), rfl⟩
theorem w_1653 : Cond.code yX9_partAt cX9_partAt 2 (some .long) ∈ lw_ok := List.mem_filter.mpr ⟨List.mem_of_getElem? (i := 1653) (by decide +kernel), rfl⟩
theorem w_1654 : Cond.methodLink "LeakyLineLaw" 98 yX9_when ∈ lw_ok := List.mem_filter.mpr ⟨List.mem_of_getElem? (i := 1654) (by decide +kernel), rfl⟩
theorem w_1655 : Cond.instanceMethod yX9_when ∈ lw_ok := List.mem_filter.mpr ⟨List.mem_of_getElem? (i := 1655) (by decide +kernel), rfl⟩
theorem w_1656 : Cond.selects RX9 yX9_when yX9_when ∈ lw_ok := List.mem_filter.mpr ⟨List.mem_of_getElem? (i := 1656) (by decide +kernel), rfl⟩
theorem w_1657 : Cond.code yX9_when cX9_when 3 (some .int) ∈ lw_ok := List.mem_filter.mpr ⟨List.mem_of_getElem? (i := 1657) (by decide +kernel), rfl⟩
theorem w_1658 : Cond.methodLink RX9 308 yX9_isHeard ∈ lw_ok := List.mem_filter.mpr ⟨List.mem_of_getElem? (i := 1658) (by decide +kernel), rfl⟩
theorem w_1660 : Cond.instanceMethod yX9_isHeard ∈ lw_ok := List.mem_filter.mpr ⟨List.mem_of_getElem? (i := 1660) (by decide +kernel), rfl⟩
theorem w_1661 : Cond.code yX9_isHeard cX9_isHeard 3 (some .boolean) ∈ lw_ok := List.mem_filter.mpr ⟨List.mem_of_getElem? (i := 1661) (by decide +kernel), rfl⟩
theorem w_1662 : Cond.methodLink "LeakyLineLaw" 102 yX9_deaf ∈ lw_ok := List.mem_filter.mpr ⟨List.mem_of_getElem? (i := 1662) (by decide +kernel), rfl⟩
theorem w_1663 : Cond.instanceMethod yX9_deaf ∈ lw_ok := List.mem_filter.mpr ⟨List.mem_of_getElem? (i := 1663) (by decide +kernel), rfl⟩
theorem w_1664 : Cond.selects RX9 yX9_deaf yX9_deaf ∈ lw_ok := List.mem_filter.mpr ⟨List.mem_of_getElem? (i := 1664) (by decide +kernel), rfl⟩
theorem w_1665 : Cond.code yX9_deaf cX9_deaf 4 (some .int) ∈ lw_ok := List.mem_filter.mpr ⟨List.mem_of_getElem? (i := 1665) (by decide +kernel), rfl⟩
theorem w_1666 : Cond.methodLink "LeakyLineLaw" 106 yX9_longest ∈ lw_ok := List.mem_filter.mpr ⟨List.mem_of_getElem? (i := 1666) (by decide +kernel), rfl⟩
theorem w_1667 : Cond.instanceMethod yX9_longest ∈ lw_ok := List.mem_filter.mpr ⟨List.mem_of_getElem? (i := 1667) (by decide +kernel), rfl⟩
theorem w_1668 : Cond.selects RX9 yX9_longest yX9_longest ∈ lw_ok := List.mem_filter.mpr ⟨List.mem_of_getElem? (i := 1668) (by decide +kernel), rfl⟩
theorem w_1669 : Cond.code yX9_longest cX9_longest 5 (some .int) ∈ lw_ok := List.mem_filter.mpr ⟨List.mem_of_getElem? (i := 1669) (by decide +kernel), rfl⟩
theorem w_1670 : Cond.methodLink "LeakyLineLaw" 110 yX9_flips ∈ lw_ok := List.mem_filter.mpr ⟨List.mem_of_getElem? (i := 1670) (by decide +kernel), rfl⟩
theorem w_1671 : Cond.instanceMethod yX9_flips ∈ lw_ok := List.mem_filter.mpr ⟨List.mem_of_getElem? (i := 1671) (by decide +kernel), rfl⟩
theorem w_1672 : Cond.selects RX9 yX9_flips yX9_flips ∈ lw_ok := List.mem_filter.mpr ⟨List.mem_of_getElem? (i := 1672) (by decide +kernel), rfl⟩
theorem w_1673 : Cond.code yX9_flips cX9_flips 4 (some .int) ∈ lw_ok := List.mem_filter.mpr ⟨List.mem_of_getElem? (i := 1673) (by decide +kernel), rfl⟩
theorem w_1674 : Cond.methodLink "LeakyLineLaw" 114 yX9_clear ∈ lw_ok := List.mem_filter.mpr ⟨List.mem_of_getElem? (i := 1674) (by decide +kernel), rfl⟩
theorem w_1675 : Cond.instanceMethod yX9_clear ∈ lw_ok := List.mem_filter.mpr ⟨List.mem_of_getElem? (i := 1675) (by decide +kernel), rfl⟩
theorem w_1676 : Cond.selects RX9 yX9_clear yX9_clear ∈ lw_ok := List.mem_filter.mpr ⟨List.mem_of_getElem? (i := 1676) (by decide +kernel), rfl⟩
theorem w_1677 : Cond.code yX9_clear cX9_clear 3 (some .int) ∈ lw_ok := List.mem_filter.mpr ⟨List.mem_of_getElem? (i := 1677) (by decide +kernel), rfl⟩
theorem w_1678 : Cond.methodLink "LeakyLineLaw" 118 yX9_last ∈ lw_ok := List.mem_filter.mpr ⟨List.mem_of_getElem? (i := 1678) (by decide +kernel), rfl⟩
theorem w_1679 : Cond.instanceMethod yX9_last ∈ lw_ok := List.mem_filter.mpr ⟨List.mem_of_getElem? (i := 1679) (by decide +kernel), rfl⟩
theorem w_1680 : Cond.selects RX9 yX9_last yX9_last ∈ lw_ok := List.mem_filter.mpr ⟨List.mem_of_getElem? (i := 1680) (by decide +kernel), rfl⟩
theorem w_1681 : Cond.code yX9_last cX9_last 2 (some .int) ∈ lw_ok := List.mem_filter.mpr ⟨List.mem_of_getElem? (i := 1681) (by decide +kernel), rfl⟩
theorem w_1682 : Cond.methodLink "LeakyLineLaw" 122 yX9_dim ∈ lw_ok := List.mem_filter.mpr ⟨List.mem_of_getElem? (i := 1682) (by decide +kernel), rfl⟩
theorem w_1683 : Cond.instanceMethod yX9_dim ∈ lw_ok := List.mem_filter.mpr ⟨List.mem_of_getElem? (i := 1683) (by decide +kernel), rfl⟩
theorem w_1684 : Cond.selects RX9 yX9_dim yX9_dim ∈ lw_ok := List.mem_filter.mpr ⟨List.mem_of_getElem? (i := 1684) (by decide +kernel), rfl⟩
theorem w_1685 : Cond.code yX9_dim cX9_dim 1 (some .int) ∈ lw_ok := List.mem_filter.mpr ⟨List.mem_of_getElem? (i := 1685) (by decide +kernel), rfl⟩
theorem w_1686 : Cond.methodLink RX9 311 yX9_dayBy ∈ lw_ok := List.mem_filter.mpr ⟨List.mem_of_getElem? (i := 1686) (by decide +kernel), rfl⟩
theorem w_1688 : Cond.instanceMethod yX9_dayBy ∈ lw_ok := List.mem_filter.mpr ⟨List.mem_of_getElem? (i := 1688) (by decide +kernel), rfl⟩
theorem w_1689 : Cond.code yX9_dayBy cX9_dayBy 6 (some .int) ∈ lw_ok := List.mem_filter.mpr ⟨List.mem_of_getElem? (i := 1689) (by decide +kernel), rfl⟩
theorem w_1690 : Cond.methodLink RX9 274 yX9_sizeOf ∈ lw_ok := List.mem_filter.mpr ⟨List.mem_of_getElem? (i := 1690) (by decide +kernel), rfl⟩
theorem w_1691 : Cond.static yX9_sizeOf ∈ lw_ok := List.mem_filter.mpr ⟨List.mem_of_getElem? (i := 1691) (by decide +kernel), rfl⟩
theorem w_1692 : Cond.code yX9_sizeOf cX9_sizeOf 3 (some .int) ∈ lw_ok := List.mem_filter.mpr ⟨List.mem_of_getElem? (i := 1692) (by decide +kernel), rfl⟩
theorem w_1693 : Cond.methodLink "LeakyLineLaw" 146 yX9_bright ∈ lw_ok := List.mem_filter.mpr ⟨List.mem_of_getElem? (i := 1693) (by decide +kernel), rfl⟩
theorem w_1694 : Cond.instanceMethod yX9_bright ∈ lw_ok := List.mem_filter.mpr ⟨List.mem_of_getElem? (i := 1694) (by decide +kernel), rfl⟩
theorem w_1695 : Cond.selects RX9 yX9_bright yX9_bright ∈ lw_ok := List.mem_filter.mpr ⟨List.mem_of_getElem? (i := 1695) (by decide +kernel), rfl⟩
theorem w_1696 : Cond.code yX9_bright cX9_bright 1 (some .int) ∈ lw_ok := List.mem_filter.mpr ⟨List.mem_of_getElem? (i := 1696) (by decide +kernel), rfl⟩
theorem w_1697 : Cond.methodLink "LeakyLineLaw" 126 yX9_sum ∈ lw_ok := List.mem_filter.mpr ⟨List.mem_of_getElem? (i := 1697) (by decide +kernel), rfl⟩
theorem w_1698 : Cond.instanceMethod yX9_sum ∈ lw_ok := List.mem_filter.mpr ⟨List.mem_of_getElem? (i := 1698) (by decide +kernel), rfl⟩
theorem w_1699 : Cond.selects RX9 yX9_sum yX9_sum ∈ lw_ok := List.mem_filter.mpr ⟨List.mem_of_getElem? (i := 1699) (by decide +kernel), rfl⟩
theorem w_1700 : Cond.code yX9_sum cX9_sum 1 (some .int) ∈ lw_ok := List.mem_filter.mpr ⟨List.mem_of_getElem? (i := 1700) (by decide +kernel), rfl⟩
theorem w_1701 : Cond.methodLink RX9 314 yX9_sumNow ∈ lw_ok := List.mem_filter.mpr ⟨List.mem_of_getElem? (i := 1701) (by decide +kernel), rfl⟩
theorem w_1703 : Cond.instanceMethod yX9_sumNow ∈ lw_ok := List.mem_filter.mpr ⟨List.mem_of_getElem? (i := 1703) (by decide +kernel), rfl⟩
theorem w_1704 : Cond.code yX9_sumNow cX9_sumNow 3 (some .int) ∈ lw_ok := List.mem_filter.mpr ⟨List.mem_of_getElem? (i := 1704) (by decide +kernel), rfl⟩
theorem w_1705 : Cond.methodLink "LeakyLineLaw" 130 yX9_worst ∈ lw_ok := List.mem_filter.mpr ⟨List.mem_of_getElem? (i := 1705) (by decide +kernel), rfl⟩
theorem w_1706 : Cond.instanceMethod yX9_worst ∈ lw_ok := List.mem_filter.mpr ⟨List.mem_of_getElem? (i := 1706) (by decide +kernel), rfl⟩
theorem w_1707 : Cond.selects RX9 yX9_worst yX9_worst ∈ lw_ok := List.mem_filter.mpr ⟨List.mem_of_getElem? (i := 1707) (by decide +kernel), rfl⟩
theorem w_1708 : Cond.code yX9_worst cX9_worst 4 (some .int) ∈ lw_ok := List.mem_filter.mpr ⟨List.mem_of_getElem? (i := 1708) (by decide +kernel), rfl⟩
theorem w_1709 : Cond.methodLink "LeakyLineLaw" 134 yX9_damp ∈ lw_ok := List.mem_filter.mpr ⟨List.mem_of_getElem? (i := 1709) (by decide +kernel), rfl⟩
theorem w_1710 : Cond.instanceMethod yX9_damp ∈ lw_ok := List.mem_filter.mpr ⟨List.mem_of_getElem? (i := 1710) (by decide +kernel), rfl⟩
theorem w_1711 : Cond.selects RX9 yX9_damp yX9_damp ∈ lw_ok := List.mem_filter.mpr ⟨List.mem_of_getElem? (i := 1711) (by decide +kernel), rfl⟩
theorem w_1712 : Cond.code yX9_damp cX9_damp 4 (some .int) ∈ lw_ok := List.mem_filter.mpr ⟨List.mem_of_getElem? (i := 1712) (by decide +kernel), rfl⟩
theorem w_1713 : Cond.methodLink "LeakyLineLaw" 138 yX9_spell ∈ lw_ok := List.mem_filter.mpr ⟨List.mem_of_getElem? (i := 1713) (by decide +kernel), rfl⟩
theorem w_1714 : Cond.instanceMethod yX9_spell ∈ lw_ok := List.mem_filter.mpr ⟨List.mem_of_getElem? (i := 1714) (by decide +kernel), rfl⟩
theorem w_1715 : Cond.selects RX9 yX9_spell yX9_spell ∈ lw_ok := List.mem_filter.mpr ⟨List.mem_of_getElem? (i := 1715) (by decide +kernel), rfl⟩
theorem w_1716 : Cond.code yX9_spell cX9_spell 1 (some .int) ∈ lw_ok := List.mem_filter.mpr ⟨List.mem_of_getElem? (i := 1716) (by decide +kernel), rfl⟩
theorem w_1717 : Cond.methodLink RX9 317 yX9_spellOf ∈ lw_ok := List.mem_filter.mpr ⟨List.mem_of_getElem? (i := 1717) (by decide +kernel), rfl⟩
theorem w_1719 : Cond.instanceMethod yX9_spellOf ∈ lw_ok := List.mem_filter.mpr ⟨List.mem_of_getElem? (i := 1719) (by decide +kernel), rfl⟩
theorem w_1720 : Cond.code yX9_spellOf cX9_spellOf 5 (some .int) ∈ lw_ok := List.mem_filter.mpr ⟨List.mem_of_getElem? (i := 1720) (by decide +kernel), rfl⟩
theorem w_1721 : Cond.methodLink "LeakyLineLaw" 154 yX9_dry ∈ lw_ok := List.mem_filter.mpr ⟨List.mem_of_getElem? (i := 1721) (by decide +kernel), rfl⟩
theorem w_1722 : Cond.instanceMethod yX9_dry ∈ lw_ok := List.mem_filter.mpr ⟨List.mem_of_getElem? (i := 1722) (by decide +kernel), rfl⟩
theorem w_1723 : Cond.selects RX9 yX9_dry yX9_dry ∈ lw_ok := List.mem_filter.mpr ⟨List.mem_of_getElem? (i := 1723) (by decide +kernel), rfl⟩
theorem w_1724 : Cond.code yX9_dry cX9_dry 1 (some .int) ∈ lw_ok := List.mem_filter.mpr ⟨List.mem_of_getElem? (i := 1724) (by decide +kernel), rfl⟩
theorem w_1725 : Cond.methodLink "LeakyLineLaw" 142 yX9_margin ∈ lw_ok := List.mem_filter.mpr ⟨List.mem_of_getElem? (i := 1725) (by decide +kernel), rfl⟩
theorem w_1726 : Cond.instanceMethod yX9_margin ∈ lw_ok := List.mem_filter.mpr ⟨List.mem_of_getElem? (i := 1726) (by decide +kernel), rfl⟩
theorem w_1727 : Cond.selects RX9 yX9_margin yX9_margin ∈ lw_ok := List.mem_filter.mpr ⟨List.mem_of_getElem? (i := 1727) (by decide +kernel), rfl⟩
theorem w_1728 : Cond.code yX9_margin cX9_margin 3 (some .int) ∈ lw_ok := List.mem_filter.mpr ⟨List.mem_of_getElem? (i := 1728) (by decide +kernel), rfl⟩
theorem w_1729 : Cond.methodLink "LeakyLineLaw" 150 yX9_rises ∈ lw_ok := List.mem_filter.mpr ⟨List.mem_of_getElem? (i := 1729) (by decide +kernel), rfl⟩
theorem w_1730 : Cond.instanceMethod yX9_rises ∈ lw_ok := List.mem_filter.mpr ⟨List.mem_of_getElem? (i := 1730) (by decide +kernel), rfl⟩
theorem w_1731 : Cond.selects RX9 yX9_rises yX9_rises ∈ lw_ok := List.mem_filter.mpr ⟨List.mem_of_getElem? (i := 1731) (by decide +kernel), rfl⟩
theorem w_1732 : Cond.code yX9_rises cX9_rises 4 (some .int) ∈ lw_ok := List.mem_filter.mpr ⟨List.mem_of_getElem? (i := 1732) (by decide +kernel), rfl⟩
theorem w_1733 : Cond.methodLink "LeakyLineLaw" 158 yX9_ends ∈ lw_ok := List.mem_filter.mpr ⟨List.mem_of_getElem? (i := 1733) (by decide +kernel), rfl⟩
theorem w_1734 : Cond.instanceMethod yX9_ends ∈ lw_ok := List.mem_filter.mpr ⟨List.mem_of_getElem? (i := 1734) (by decide +kernel), rfl⟩
theorem w_1735 : Cond.selects RX9 yX9_ends yX9_ends ∈ lw_ok := List.mem_filter.mpr ⟨List.mem_of_getElem? (i := 1735) (by decide +kernel), rfl⟩
theorem w_1736 : Cond.code yX9_ends cX9_ends 2 (some .int) ∈ lw_ok := List.mem_filter.mpr ⟨List.mem_of_getElem? (i := 1736) (by decide +kernel), rfl⟩
theorem w_1737 : Cond.methodLink "LeakyLineLaw" 162 yX9_reach ∈ lw_ok := List.mem_filter.mpr ⟨List.mem_of_getElem? (i := 1737) (by decide +kernel), rfl⟩
theorem w_1738 : Cond.instanceMethod yX9_reach ∈ lw_ok := List.mem_filter.mpr ⟨List.mem_of_getElem? (i := 1738) (by decide +kernel), rfl⟩
theorem w_1739 : Cond.selects RX9 yX9_reach yX9_reach ∈ lw_ok := List.mem_filter.mpr ⟨List.mem_of_getElem? (i := 1739) (by decide +kernel), rfl⟩
theorem w_1740 : Cond.code yX9_reach cX9_reach 4 (some .int) ∈ lw_ok := List.mem_filter.mpr ⟨List.mem_of_getElem? (i := 1740) (by decide +kernel), rfl⟩
theorem w_1741 : Cond.methodLink "LeakyLineLaw" 166 yX9_both ∈ lw_ok := List.mem_filter.mpr ⟨List.mem_of_getElem? (i := 1741) (by decide +kernel), rfl⟩
theorem w_1742 : Cond.instanceMethod yX9_both ∈ lw_ok := List.mem_filter.mpr ⟨List.mem_of_getElem? (i := 1742) (by decide +kernel), rfl⟩
theorem w_1743 : Cond.selects RX9 yX9_both yX9_both ∈ lw_ok := List.mem_filter.mpr ⟨List.mem_of_getElem? (i := 1743) (by decide +kernel), rfl⟩
theorem w_1744 : Cond.code yX9_both cX9_both 3 (some .int) ∈ lw_ok := List.mem_filter.mpr ⟨List.mem_of_getElem? (i := 1744) (by decide +kernel), rfl⟩
theorem w_1745 : Cond.methodLink RX9 321 yX9_daysOf ∈ lw_ok := List.mem_filter.mpr ⟨List.mem_of_getElem? (i := 1745) (by decide +kernel), rfl⟩
theorem w_1747 : Cond.instanceMethod yX9_daysOf ∈ lw_ok := List.mem_filter.mpr ⟨List.mem_of_getElem? (i := 1747) (by decide +kernel), rfl⟩
theorem w_1748 : Cond.code yX9_daysOf cX9_daysOf 7 (some .int) ∈ lw_ok := List.mem_filter.mpr ⟨List.mem_of_getElem? (i := 1748) (by decide +kernel), rfl⟩
theorem w_1749 : Cond.methodLink "LeakyLineLaw" 170 yX9_apart ∈ lw_ok := List.mem_filter.mpr ⟨List.mem_of_getElem? (i := 1749) (by decide +kernel), rfl⟩
theorem w_1750 : Cond.instanceMethod yX9_apart ∈ lw_ok := List.mem_filter.mpr ⟨List.mem_of_getElem? (i := 1750) (by decide +kernel), rfl⟩
theorem w_1751 : Cond.selects RX9 yX9_apart yX9_apart ∈ lw_ok := List.mem_filter.mpr ⟨List.mem_of_getElem? (i := 1751) (by decide +kernel), rfl⟩
theorem w_1752 : Cond.code yX9_apart cX9_apart 3 (some .int) ∈ lw_ok := List.mem_filter.mpr ⟨List.mem_of_getElem? (i := 1752) (by decide +kernel), rfl⟩
theorem w_1753 : Cond.methodLink "LeakyLineLaw" 174 yX9_half ∈ lw_ok := List.mem_filter.mpr ⟨List.mem_of_getElem? (i := 1753) (by decide +kernel), rfl⟩
theorem w_1754 : Cond.instanceMethod yX9_half ∈ lw_ok := List.mem_filter.mpr ⟨List.mem_of_getElem? (i := 1754) (by decide +kernel), rfl⟩
theorem w_1755 : Cond.selects RX9 yX9_half yX9_half ∈ lw_ok := List.mem_filter.mpr ⟨List.mem_of_getElem? (i := 1755) (by decide +kernel), rfl⟩
theorem w_1756 : Cond.code yX9_half cX9_half 3 (some .int) ∈ lw_ok := List.mem_filter.mpr ⟨List.mem_of_getElem? (i := 1756) (by decide +kernel), rfl⟩
theorem w_1757 : Cond.methodLink "LeakyLineLaw" 178 yX9_grounds ∈ lw_ok := List.mem_filter.mpr ⟨List.mem_of_getElem? (i := 1757) (by decide +kernel), rfl⟩
theorem w_1758 : Cond.instanceMethod yX9_grounds ∈ lw_ok := List.mem_filter.mpr ⟨List.mem_of_getElem? (i := 1758) (by decide +kernel), rfl⟩
theorem w_1759 : Cond.selects RX9 yX9_grounds yX9_grounds ∈ lw_ok := List.mem_filter.mpr ⟨List.mem_of_getElem? (i := 1759) (by decide +kernel), rfl⟩
theorem w_1760 : Cond.code yX9_grounds cX9_grounds 4 (some .int) ∈ lw_ok := List.mem_filter.mpr ⟨List.mem_of_getElem? (i := 1760) (by decide +kernel), rfl⟩
theorem w_1761 : Cond.methodLink "LeakyLineLaw" 182 yX9_steep ∈ lw_ok := List.mem_filter.mpr ⟨List.mem_of_getElem? (i := 1761) (by decide +kernel), rfl⟩
theorem w_1762 : Cond.instanceMethod yX9_steep ∈ lw_ok := List.mem_filter.mpr ⟨List.mem_of_getElem? (i := 1762) (by decide +kernel), rfl⟩
theorem w_1763 : Cond.selects RX9 yX9_steep yX9_steep ∈ lw_ok := List.mem_filter.mpr ⟨List.mem_of_getElem? (i := 1763) (by decide +kernel), rfl⟩
theorem w_1764 : Cond.code yX9_steep cX9_steep 4 (some .int) ∈ lw_ok := List.mem_filter.mpr ⟨List.mem_of_getElem? (i := 1764) (by decide +kernel), rfl⟩
theorem w_1765 : Cond.methodLink "LeakyLineLaw" 186 yX9_mute ∈ lw_ok := List.mem_filter.mpr ⟨List.mem_of_getElem? (i := 1765) (by decide +kernel), rfl⟩
theorem w_1766 : Cond.instanceMethod yX9_mute ∈ lw_ok := List.mem_filter.mpr ⟨List.mem_of_getElem? (i := 1766) (by decide +kernel), rfl⟩
theorem w_1767 : Cond.selects RX9 yX9_mute yX9_mute ∈ lw_ok := List.mem_filter.mpr ⟨List.mem_of_getElem? (i := 1767) (by decide +kernel), rfl⟩
theorem w_1768 : Cond.code yX9_mute cX9_mute 3 (some .int) ∈ lw_ok := List.mem_filter.mpr ⟨List.mem_of_getElem? (i := 1768) (by decide +kernel), rfl⟩
theorem w_1769 : Cond.methodLink "LeakyLineLaw" 190 yX9_changes ∈ lw_ok := List.mem_filter.mpr ⟨List.mem_of_getElem? (i := 1769) (by decide +kernel), rfl⟩
theorem w_1770 : Cond.instanceMethod yX9_changes ∈ lw_ok := List.mem_filter.mpr ⟨List.mem_of_getElem? (i := 1770) (by decide +kernel), rfl⟩
theorem w_1771 : Cond.selects RX9 yX9_changes yX9_changes ∈ lw_ok := List.mem_filter.mpr ⟨List.mem_of_getElem? (i := 1771) (by decide +kernel), rfl⟩
theorem w_1772 : Cond.code yX9_changes cX9_changes 3 (some .int) ∈ lw_ok := List.mem_filter.mpr ⟨List.mem_of_getElem? (i := 1772) (by decide +kernel), rfl⟩
theorem w_1773 : Cond.methodLink "LeakyLineLaw" 194 yX9_all ∈ lw_ok := List.mem_filter.mpr ⟨List.mem_of_getElem? (i := 1773) (by decide +kernel), rfl⟩
theorem w_1774 : Cond.instanceMethod yX9_all ∈ lw_ok := List.mem_filter.mpr ⟨List.mem_of_getElem? (i := 1774) (by decide +kernel), rfl⟩
theorem w_1775 : Cond.selects RX9 yX9_all yX9_all ∈ lw_ok := List.mem_filter.mpr ⟨List.mem_of_getElem? (i := 1775) (by decide +kernel), rfl⟩
theorem w_1776 : Cond.code yX9_all cX9_all 1 (some .int) ∈ lw_ok := List.mem_filter.mpr ⟨List.mem_of_getElem? (i := 1776) (by decide +kernel), rfl⟩
theorem w_1777 : Cond.methodLink RX9 325 yX9_worthOf ∈ lw_ok := List.mem_filter.mpr ⟨List.mem_of_getElem? (i := 1777) (by decide +kernel), rfl⟩
theorem w_1779 : Cond.instanceMethod yX9_worthOf ∈ lw_ok := List.mem_filter.mpr ⟨List.mem_of_getElem? (i := 1779) (by decide +kernel), rfl⟩
theorem w_1780 : Cond.code yX9_worthOf cX9_worthOf 2 (some .int) ∈ lw_ok := List.mem_filter.mpr ⟨List.mem_of_getElem? (i := 1780) (by decide +kernel), rfl⟩
theorem w_1781 : Cond.methodLink "LeakyLineLaw" 198 yX9_without ∈ lw_ok := List.mem_filter.mpr ⟨List.mem_of_getElem? (i := 1781) (by decide +kernel), rfl⟩
theorem w_1782 : Cond.instanceMethod yX9_without ∈ lw_ok := List.mem_filter.mpr ⟨List.mem_of_getElem? (i := 1782) (by decide +kernel), rfl⟩
theorem w_1783 : Cond.selects RX9 yX9_without yX9_without ∈ lw_ok := List.mem_filter.mpr ⟨List.mem_of_getElem? (i := 1783) (by decide +kernel), rfl⟩
theorem w_1784 : Cond.code yX9_without cX9_without 2 (some .int) ∈ lw_ok := List.mem_filter.mpr ⟨List.mem_of_getElem? (i := 1784) (by decide +kernel), rfl⟩
theorem w_1785 : Cond.methodLink "LeakyLineLaw" 202 yX9_cupped ∈ lw_ok := List.mem_filter.mpr ⟨List.mem_of_getElem? (i := 1785) (by decide +kernel), rfl⟩
theorem w_1786 : Cond.instanceMethod yX9_cupped ∈ lw_ok := List.mem_filter.mpr ⟨List.mem_of_getElem? (i := 1786) (by decide +kernel), rfl⟩
theorem w_1787 : Cond.selects RX9 yX9_cupped yX9_cupped ∈ lw_ok := List.mem_filter.mpr ⟨List.mem_of_getElem? (i := 1787) (by decide +kernel), rfl⟩
theorem w_1788 : Cond.code yX9_cupped cX9_cupped 3 (some .int) ∈ lw_ok := List.mem_filter.mpr ⟨List.mem_of_getElem? (i := 1788) (by decide +kernel), rfl⟩
theorem w_1789 : Cond.methodLink "LeakyLineLaw" 206 yX9_snapped ∈ lw_ok := List.mem_filter.mpr ⟨List.mem_of_getElem? (i := 1789) (by decide +kernel), rfl⟩
theorem w_1790 : Cond.instanceMethod yX9_snapped ∈ lw_ok := List.mem_filter.mpr ⟨List.mem_of_getElem? (i := 1790) (by decide +kernel), rfl⟩
theorem w_1791 : Cond.selects RX9 yX9_snapped yX9_snapped ∈ lw_ok := List.mem_filter.mpr ⟨List.mem_of_getElem? (i := 1791) (by decide +kernel), rfl⟩
theorem w_1792 : Cond.code yX9_snapped cX9_snapped 3 (some .int) ∈ lw_ok := List.mem_filter.mpr ⟨List.mem_of_getElem? (i := 1792) (by decide +kernel), rfl⟩
theorem w_1793 : Cond.methodLink "LeakyLineLaw" 210 yX9_lack ∈ lw_ok := List.mem_filter.mpr ⟨List.mem_of_getElem? (i := 1793) (by decide +kernel), rfl⟩
theorem w_1794 : Cond.instanceMethod yX9_lack ∈ lw_ok := List.mem_filter.mpr ⟨List.mem_of_getElem? (i := 1794) (by decide +kernel), rfl⟩
theorem w_1795 : Cond.selects RX9 yX9_lack yX9_lack ∈ lw_ok := List.mem_filter.mpr ⟨List.mem_of_getElem? (i := 1795) (by decide +kernel), rfl⟩
theorem w_1796 : Cond.code yX9_lack cX9_lack 5 (some .int) ∈ lw_ok := List.mem_filter.mpr ⟨List.mem_of_getElem? (i := 1796) (by decide +kernel), rfl⟩
theorem w_1797 : Cond.methodLink "LeakyLineLaw" 214 yX9_loud ∈ lw_ok := List.mem_filter.mpr ⟨List.mem_of_getElem? (i := 1797) (by decide +kernel), rfl⟩
theorem w_1798 : Cond.instanceMethod yX9_loud ∈ lw_ok := List.mem_filter.mpr ⟨List.mem_of_getElem? (i := 1798) (by decide +kernel), rfl⟩
theorem w_1799 : Cond.selects RX9 yX9_loud yX9_loud ∈ lw_ok := List.mem_filter.mpr ⟨List.mem_of_getElem? (i := 1799) (by decide +kernel), rfl⟩
theorem w_1800 : Cond.code yX9_loud cX9_loud 4 (some .int) ∈ lw_ok := List.mem_filter.mpr ⟨List.mem_of_getElem? (i := 1800) (by decide +kernel), rfl⟩
theorem w_1801 : Cond.methodLink "LeakyLineLaw" 218 yX9_weakest ∈ lw_ok := List.mem_filter.mpr ⟨List.mem_of_getElem? (i := 1801) (by decide +kernel), rfl⟩
theorem w_1802 : Cond.instanceMethod yX9_weakest ∈ lw_ok := List.mem_filter.mpr ⟨List.mem_of_getElem? (i := 1802) (by decide +kernel), rfl⟩
theorem w_1803 : Cond.selects RX9 yX9_weakest yX9_weakest ∈ lw_ok := List.mem_filter.mpr ⟨List.mem_of_getElem? (i := 1803) (by decide +kernel), rfl⟩
theorem w_1804 : Cond.code yX9_weakest cX9_weakest 1 (some .int) ∈ lw_ok := List.mem_filter.mpr ⟨List.mem_of_getElem? (i := 1804) (by decide +kernel), rfl⟩
theorem w_1805 : Cond.methodLink RX9 328 yX9_stationBy ∈ lw_ok := List.mem_filter.mpr ⟨List.mem_of_getElem? (i := 1805) (by decide +kernel), rfl⟩
theorem w_1807 : Cond.instanceMethod yX9_stationBy ∈ lw_ok := List.mem_filter.mpr ⟨List.mem_of_getElem? (i := 1807) (by decide +kernel), rfl⟩
theorem w_1808 : Cond.code yX9_stationBy cX9_stationBy 7 (some .int) ∈ lw_ok := List.mem_filter.mpr ⟨List.mem_of_getElem? (i := 1808) (by decide +kernel), rfl⟩
theorem w_1809 : Cond.methodLink "LeakyLineLaw" 222 yX9_strong ∈ lw_ok := List.mem_filter.mpr ⟨List.mem_of_getElem? (i := 1809) (by decide +kernel), rfl⟩
theorem w_1810 : Cond.instanceMethod yX9_strong ∈ lw_ok := List.mem_filter.mpr ⟨List.mem_of_getElem? (i := 1810) (by decide +kernel), rfl⟩
theorem w_1811 : Cond.selects RX9 yX9_strong yX9_strong ∈ lw_ok := List.mem_filter.mpr ⟨List.mem_of_getElem? (i := 1811) (by decide +kernel), rfl⟩
theorem w_1812 : Cond.code yX9_strong cX9_strong 1 (some .int) ∈ lw_ok := List.mem_filter.mpr ⟨List.mem_of_getElem? (i := 1812) (by decide +kernel), rfl⟩
theorem w_1813 : Cond.methodLink "LeakyLineLaw" 226 yX9_battery ∈ lw_ok := List.mem_filter.mpr ⟨List.mem_of_getElem? (i := 1813) (by decide +kernel), rfl⟩
theorem w_1814 : Cond.instanceMethod yX9_battery ∈ lw_ok := List.mem_filter.mpr ⟨List.mem_of_getElem? (i := 1814) (by decide +kernel), rfl⟩
theorem w_1815 : Cond.selects RX9 yX9_battery yX9_battery ∈ lw_ok := List.mem_filter.mpr ⟨List.mem_of_getElem? (i := 1815) (by decide +kernel), rfl⟩
theorem w_1816 : Cond.code yX9_battery cX9_battery 2 (some .int) ∈ lw_ok := List.mem_filter.mpr ⟨List.mem_of_getElem? (i := 1816) (by decide +kernel), rfl⟩
theorem w_1817 : Cond.methodLink RX9 334 yX9_batteryOf ∈ lw_ok := List.mem_filter.mpr ⟨List.mem_of_getElem? (i := 1817) (by decide +kernel), rfl⟩
theorem w_1819 : Cond.instanceMethod yX9_batteryOf ∈ lw_ok := List.mem_filter.mpr ⟨List.mem_of_getElem? (i := 1819) (by decide +kernel), rfl⟩
theorem w_1820 : Cond.code yX9_batteryOf cX9_batteryOf 4 (some .int) ∈ lw_ok := List.mem_filter.mpr ⟨List.mem_of_getElem? (i := 1820) (by decide +kernel), rfl⟩
theorem w_1821 : Cond.methodLink RX9 331 yX9_isClear ∈ lw_ok := List.mem_filter.mpr ⟨List.mem_of_getElem? (i := 1821) (by decide +kernel), rfl⟩
theorem w_1823 : Cond.instanceMethod yX9_isClear ∈ lw_ok := List.mem_filter.mpr ⟨List.mem_of_getElem? (i := 1823) (by decide +kernel), rfl⟩
theorem w_1824 : Cond.code yX9_isClear cX9_isClear 4 (some .boolean) ∈ lw_ok := List.mem_filter.mpr ⟨List.mem_of_getElem? (i := 1824) (by decide +kernel), rfl⟩
theorem w_1825 : Cond.methodLink "LeakyLineLaw" 230 yX9_batteries ∈ lw_ok := List.mem_filter.mpr ⟨List.mem_of_getElem? (i := 1825) (by decide +kernel), rfl⟩
theorem w_1826 : Cond.instanceMethod yX9_batteries ∈ lw_ok := List.mem_filter.mpr ⟨List.mem_of_getElem? (i := 1826) (by decide +kernel), rfl⟩
theorem w_1827 : Cond.selects RX9 yX9_batteries yX9_batteries ∈ lw_ok := List.mem_filter.mpr ⟨List.mem_of_getElem? (i := 1827) (by decide +kernel), rfl⟩
theorem w_1828 : Cond.code yX9_batteries cX9_batteries 1 (some .int) ∈ lw_ok := List.mem_filter.mpr ⟨List.mem_of_getElem? (i := 1828) (by decide +kernel), rfl⟩
theorem w_1829 : Cond.methodLink "LeakyLineLaw" 234 yX9_cure ∈ lw_ok := List.mem_filter.mpr ⟨List.mem_of_getElem? (i := 1829) (by decide +kernel), rfl⟩
theorem w_1830 : Cond.instanceMethod yX9_cure ∈ lw_ok := List.mem_filter.mpr ⟨List.mem_of_getElem? (i := 1830) (by decide +kernel), rfl⟩
theorem w_1831 : Cond.selects RX9 yX9_cure yX9_cure ∈ lw_ok := List.mem_filter.mpr ⟨List.mem_of_getElem? (i := 1831) (by decide +kernel), rfl⟩
theorem w_1832 : Cond.code yX9_cure cX9_cure 3 (some .int) ∈ lw_ok := List.mem_filter.mpr ⟨List.mem_of_getElem? (i := 1832) (by decide +kernel), rfl⟩
theorem w_1833 : Cond.methodLink RX9 337 yX9_cureOf ∈ lw_ok := List.mem_filter.mpr ⟨List.mem_of_getElem? (i := 1833) (by decide +kernel), rfl⟩
theorem w_1835 : Cond.instanceMethod yX9_cureOf ∈ lw_ok := List.mem_filter.mpr ⟨List.mem_of_getElem? (i := 1835) (by decide +kernel), rfl⟩
theorem w_1836 : Cond.code yX9_cureOf cX9_cureOf 4 (some .int) ∈ lw_ok := List.mem_filter.mpr ⟨List.mem_of_getElem? (i := 1836) (by decide +kernel), rfl⟩
theorem w_1837 : Cond.methodLink "LeakyLineLaw" 238 yX9_cures ∈ lw_ok := List.mem_filter.mpr ⟨List.mem_of_getElem? (i := 1837) (by decide +kernel), rfl⟩
theorem w_1838 : Cond.instanceMethod yX9_cures ∈ lw_ok := List.mem_filter.mpr ⟨List.mem_of_getElem? (i := 1838) (by decide +kernel), rfl⟩
theorem w_1839 : Cond.selects RX9 yX9_cures yX9_cures ∈ lw_ok := List.mem_filter.mpr ⟨List.mem_of_getElem? (i := 1839) (by decide +kernel), rfl⟩
theorem w_1840 : Cond.code yX9_cures cX9_cures 2 (some .int) ∈ lw_ok := List.mem_filter.mpr ⟨List.mem_of_getElem? (i := 1840) (by decide +kernel), rfl⟩
theorem w_1841 : Cond.methodLink "LeakyLineLaw" 242 yX9_best ∈ lw_ok := List.mem_filter.mpr ⟨List.mem_of_getElem? (i := 1841) (by decide +kernel), rfl⟩
theorem w_1842 : Cond.instanceMethod yX9_best ∈ lw_ok := List.mem_filter.mpr ⟨List.mem_of_getElem? (i := 1842) (by decide +kernel), rfl⟩
theorem w_1843 : Cond.selects RX9 yX9_best yX9_best ∈ lw_ok := List.mem_filter.mpr ⟨List.mem_of_getElem? (i := 1843) (by decide +kernel), rfl⟩
theorem w_1844 : Cond.code yX9_best cX9_best 5 (some .int) ∈ lw_ok := List.mem_filter.mpr ⟨List.mem_of_getElem? (i := 1844) (by decide +kernel), rfl⟩
theorem w_1845 : Cond.methodLink "LeakyLineLaw" 246 yX9_thick ∈ lw_ok := List.mem_filter.mpr ⟨List.mem_of_getElem? (i := 1845) (by decide +kernel), rfl⟩
theorem w_1846 : Cond.instanceMethod yX9_thick ∈ lw_ok := List.mem_filter.mpr ⟨List.mem_of_getElem? (i := 1846) (by decide +kernel), rfl⟩
theorem w_1847 : Cond.selects RX9 yX9_thick yX9_thick ∈ lw_ok := List.mem_filter.mpr ⟨List.mem_of_getElem? (i := 1847) (by decide +kernel), rfl⟩
theorem w_1848 : Cond.code yX9_thick cX9_thick 5 (some .int) ∈ lw_ok := List.mem_filter.mpr ⟨List.mem_of_getElem? (i := 1848) (by decide +kernel), rfl⟩
theorem w_1849 : Cond.methodLink "LeakyLineLaw" 250 yX9_fits ∈ lw_ok := List.mem_filter.mpr ⟨List.mem_of_getElem? (i := 1849) (by decide +kernel), rfl⟩
theorem w_1850 : Cond.instanceMethod yX9_fits ∈ lw_ok := List.mem_filter.mpr ⟨List.mem_of_getElem? (i := 1850) (by decide +kernel), rfl⟩
theorem w_1851 : Cond.selects RX9 yX9_fits yX9_fits ∈ lw_ok := List.mem_filter.mpr ⟨List.mem_of_getElem? (i := 1851) (by decide +kernel), rfl⟩
theorem w_1852 : Cond.code yX9_fits cX9_fits 4 (some .int) ∈ lw_ok := List.mem_filter.mpr ⟨List.mem_of_getElem? (i := 1852) (by decide +kernel), rfl⟩
theorem w_1853 : Cond.methodLink RX9 358 yX9_whyNot ∈ lw_ok := List.mem_filter.mpr ⟨List.mem_of_getElem? (i := 1853) (by decide +kernel), rfl⟩
theorem w_1855 : Cond.instanceMethod yX9_whyNot ∈ lw_ok := List.mem_filter.mpr ⟨List.mem_of_getElem? (i := 1855) (by decide +kernel), rfl⟩
theorem w_1856 : Cond.code yX9_whyNot cX9_whyNot 5 (some .int) ∈ lw_ok := List.mem_filter.mpr ⟨List.mem_of_getElem? (i := 1856) (by decide +kernel), rfl⟩
theorem w_1857 : Cond.methodLink RX9 362 yX9_laysSeen ∈ lw_ok := List.mem_filter.mpr ⟨List.mem_of_getElem? (i := 1857) (by decide +kernel), rfl⟩
theorem w_1859 : Cond.instanceMethod yX9_laysSeen ∈ lw_ok := List.mem_filter.mpr ⟨List.mem_of_getElem? (i := 1859) (by decide +kernel), rfl⟩
theorem w_1860 : Cond.code yX9_laysSeen cX9_laysSeen 5 none ∈ lw_ok := List.mem_filter.mpr ⟨List.mem_of_getElem? (i := 1860) (by decide +kernel), rfl⟩
theorem w_1861 : Cond.methodLink RX9 346 yX9_isLeak ∈ lw_ok := List.mem_filter.mpr ⟨List.mem_of_getElem? (i := 1861) (by decide +kernel), rfl⟩
theorem w_1863 : Cond.instanceMethod yX9_isLeak ∈ lw_ok := List.mem_filter.mpr ⟨List.mem_of_getElem? (i := 1863) (by decide +kernel), rfl⟩
theorem w_1864 : Cond.code yX9_isLeak cX9_isLeak 4 (some .boolean) ∈ lw_ok := List.mem_filter.mpr ⟨List.mem_of_getElem? (i := 1864) (by decide +kernel), rfl⟩
theorem w_1865 : Cond.methodLink RX9 340 yX9_isSo ∈ lw_ok := List.mem_filter.mpr ⟨List.mem_of_getElem? (i := 1865) (by decide +kernel), rfl⟩
theorem w_1867 : Cond.instanceMethod yX9_isSo ∈ lw_ok := List.mem_filter.mpr ⟨List.mem_of_getElem? (i := 1867) (by decide +kernel), rfl⟩
theorem w_1868 : Cond.code yX9_isSo cX9_isSo 8 (some .boolean) ∈ lw_ok := List.mem_filter.mpr ⟨List.mem_of_getElem? (i := 1868) (by decide +kernel), rfl⟩
theorem w_1869 : Cond.methodLink RX9 355 yX9_worstAt ∈ lw_ok := List.mem_filter.mpr ⟨List.mem_of_getElem? (i := 1869) (by decide +kernel), rfl⟩
theorem w_1871 : Cond.instanceMethod yX9_worstAt ∈ lw_ok := List.mem_filter.mpr ⟨List.mem_of_getElem? (i := 1871) (by decide +kernel), rfl⟩
theorem w_1872 : Cond.code yX9_worstAt cX9_worstAt 6 (some .int) ∈ lw_ok := List.mem_filter.mpr ⟨List.mem_of_getElem? (i := 1872) (by decide +kernel), rfl⟩
theorem w_1873 : Cond.methodLink "LeakyLineLaw" 254 yX9_low ∈ lw_ok := List.mem_filter.mpr ⟨List.mem_of_getElem? (i := 1873) (by decide +kernel), rfl⟩
theorem w_1874 : Cond.instanceMethod yX9_low ∈ lw_ok := List.mem_filter.mpr ⟨List.mem_of_getElem? (i := 1874) (by decide +kernel), rfl⟩
theorem w_1875 : Cond.selects RX9 yX9_low yX9_low ∈ lw_ok := List.mem_filter.mpr ⟨List.mem_of_getElem? (i := 1875) (by decide +kernel), rfl⟩
theorem w_1876 : Cond.code yX9_low cX9_low 5 (some .int) ∈ lw_ok := List.mem_filter.mpr ⟨List.mem_of_getElem? (i := 1876) (by decide +kernel), rfl⟩
theorem w_1877 : Cond.methodLink "LeakyLineLaw" 258 yX9_high ∈ lw_ok := List.mem_filter.mpr ⟨List.mem_of_getElem? (i := 1877) (by decide +kernel), rfl⟩
theorem w_1878 : Cond.instanceMethod yX9_high ∈ lw_ok := List.mem_filter.mpr ⟨List.mem_of_getElem? (i := 1878) (by decide +kernel), rfl⟩
theorem w_1879 : Cond.selects RX9 yX9_high yX9_high ∈ lw_ok := List.mem_filter.mpr ⟨List.mem_of_getElem? (i := 1879) (by decide +kernel), rfl⟩
theorem w_1880 : Cond.code yX9_high cX9_high 5 (some .int) ∈ lw_ok := List.mem_filter.mpr ⟨List.mem_of_getElem? (i := 1880) (by decide +kernel), rfl⟩
theorem w_1881 : Cond.methodLink "LeakyLineLaw" 262 yX9_ask ∈ lw_ok := List.mem_filter.mpr ⟨List.mem_of_getElem? (i := 1881) (by decide +kernel), rfl⟩
theorem w_1882 : Cond.instanceMethod yX9_ask ∈ lw_ok := List.mem_filter.mpr ⟨List.mem_of_getElem? (i := 1882) (by decide +kernel), rfl⟩
theorem w_1883 : Cond.selects RX9 yX9_ask yX9_ask ∈ lw_ok := List.mem_filter.mpr ⟨List.mem_of_getElem? (i := 1883) (by decide +kernel), rfl⟩
theorem w_1884 : Cond.code yX9_ask cX9_ask 4 (some .int) ∈ lw_ok := List.mem_filter.mpr ⟨List.mem_of_getElem? (i := 1884) (by decide +kernel), rfl⟩
theorem w_1885 : Cond.methodLink "LeakyLineLaw" 266 yX9_leaves ∈ lw_ok := List.mem_filter.mpr ⟨List.mem_of_getElem? (i := 1885) (by decide +kernel), rfl⟩
theorem w_1886 : Cond.instanceMethod yX9_leaves ∈ lw_ok := List.mem_filter.mpr ⟨List.mem_of_getElem? (i := 1886) (by decide +kernel), rfl⟩
theorem w_1887 : Cond.selects RX9 yX9_leaves yX9_leaves ∈ lw_ok := List.mem_filter.mpr ⟨List.mem_of_getElem? (i := 1887) (by decide +kernel), rfl⟩
theorem w_1888 : Cond.code yX9_leaves cX9_leaves 4 (some .int) ∈ lw_ok := List.mem_filter.mpr ⟨List.mem_of_getElem? (i := 1888) (by decide +kernel), rfl⟩
theorem w_1889 : Cond.methodLink "LeakyLineLaw" 270 yX9_spots ∈ lw_ok := List.mem_filter.mpr ⟨List.mem_of_getElem? (i := 1889) (by decide +kernel), rfl⟩
theorem w_1890 : Cond.instanceMethod yX9_spots ∈ lw_ok := List.mem_filter.mpr ⟨List.mem_of_getElem? (i := 1890) (by decide +kernel), rfl⟩
theorem w_1891 : Cond.selects RX9 yX9_spots yX9_spots ∈ lw_ok := List.mem_filter.mpr ⟨List.mem_of_getElem? (i := 1891) (by decide +kernel), rfl⟩
theorem w_1892 : Cond.code yX9_spots cX9_spots 6 (some .int) ∈ lw_ok := List.mem_filter.mpr ⟨List.mem_of_getElem? (i := 1892) (by decide +kernel), rfl⟩
theorem w_1893 : Cond.methodLink "LeakyLineLaw" 274 yX9_breaks ∈ lw_ok := List.mem_filter.mpr ⟨List.mem_of_getElem? (i := 1893) (by decide +kernel), rfl⟩
theorem w_1894 : Cond.instanceMethod yX9_breaks ∈ lw_ok := List.mem_filter.mpr ⟨List.mem_of_getElem? (i := 1894) (by decide +kernel), rfl⟩
theorem w_1895 : Cond.selects RX9 yX9_breaks yX9_breaks ∈ lw_ok := List.mem_filter.mpr ⟨List.mem_of_getElem? (i := 1895) (by decide +kernel), rfl⟩
theorem w_1896 : Cond.code yX9_breaks cX9_breaks 5 (some .int) ∈ lw_ok := List.mem_filter.mpr ⟨List.mem_of_getElem? (i := 1896) (by decide +kernel), rfl⟩
theorem w_1897 : Cond.methodLink "LeakyLineLaw" 278 yX9_laws ∈ lw_ok := List.mem_filter.mpr ⟨List.mem_of_getElem? (i := 1897) (by decide +kernel), rfl⟩
theorem w_1898 : Cond.instanceMethod yX9_laws ∈ lw_ok := List.mem_filter.mpr ⟨List.mem_of_getElem? (i := 1898) (by decide +kernel), rfl⟩
theorem w_1899 : Cond.selects RX9 yX9_laws yX9_laws ∈ lw_ok := List.mem_filter.mpr ⟨List.mem_of_getElem? (i := 1899) (by decide +kernel), rfl⟩
theorem w_1900 : Cond.code yX9_laws cX9_laws 5 (some .int) ∈ lw_ok := List.mem_filter.mpr ⟨List.mem_of_getElem? (i := 1900) (by decide +kernel), rfl⟩
theorem w_1901 : Cond.methodLink "LeakyLineLaw" 282 yX9_by ∈ lw_ok := List.mem_filter.mpr ⟨List.mem_of_getElem? (i := 1901) (by decide +kernel), rfl⟩
theorem w_1902 : Cond.instanceMethod yX9_by ∈ lw_ok := List.mem_filter.mpr ⟨List.mem_of_getElem? (i := 1902) (by decide +kernel), rfl⟩
theorem w_1903 : Cond.selects RX9 yX9_by yX9_by ∈ lw_ok := List.mem_filter.mpr ⟨List.mem_of_getElem? (i := 1903) (by decide +kernel), rfl⟩
theorem w_1904 : Cond.code yX9_by cX9_by 2 (some .int) ∈ lw_ok := List.mem_filter.mpr ⟨List.mem_of_getElem? (i := 1904) (by decide +kernel), rfl⟩
theorem w_1905 : Cond.methodLink RX9 365 yX9_sumBy ∈ lw_ok := List.mem_filter.mpr ⟨List.mem_of_getElem? (i := 1905) (by decide +kernel), rfl⟩
theorem w_1907 : Cond.instanceMethod yX9_sumBy ∈ lw_ok := List.mem_filter.mpr ⟨List.mem_of_getElem? (i := 1907) (by decide +kernel), rfl⟩
theorem w_1908 : Cond.code yX9_sumBy cX9_sumBy 2 (some .int) ∈ lw_ok := List.mem_filter.mpr ⟨List.mem_of_getElem? (i := 1908) (by decide +kernel), rfl⟩
theorem w_1909 : Cond.methodLink "LeakyLineLaw" 286 yX9_law ∈ lw_ok := List.mem_filter.mpr ⟨List.mem_of_getElem? (i := 1909) (by decide +kernel), rfl⟩
theorem w_1910 : Cond.instanceMethod yX9_law ∈ lw_ok := List.mem_filter.mpr ⟨List.mem_of_getElem? (i := 1910) (by decide +kernel), rfl⟩
theorem w_1911 : Cond.selects RX9 yX9_law yX9_law ∈ lw_ok := List.mem_filter.mpr ⟨List.mem_of_getElem? (i := 1911) (by decide +kernel), rfl⟩
theorem w_1912 : Cond.code yX9_law cX9_law 3 (some .int) ∈ lw_ok := List.mem_filter.mpr ⟨List.mem_of_getElem? (i := 1912) (by decide +kernel), rfl⟩
theorem w_1913 : Cond.methodLink "LeakyLineLaw" 290 yX9_worth ∈ lw_ok := List.mem_filter.mpr ⟨List.mem_of_getElem? (i := 1913) (by decide +kernel), rfl⟩
theorem w_1914 : Cond.instanceMethod yX9_worth ∈ lw_ok := List.mem_filter.mpr ⟨List.mem_of_getElem? (i := 1914) (by decide +kernel), rfl⟩
theorem w_1915 : Cond.selects RX9 yX9_worth yX9_worth ∈ lw_ok := List.mem_filter.mpr ⟨List.mem_of_getElem? (i := 1915) (by decide +kernel), rfl⟩
theorem w_1916 : Cond.code yX9_worth cX9_worth 2 (some .int) ∈ lw_ok := List.mem_filter.mpr ⟨List.mem_of_getElem? (i := 1916) (by decide +kernel), rfl⟩
theorem w_1917 : Cond.methodLink "LeakyLineLaw" 294 yX9_share ∈ lw_ok := List.mem_filter.mpr ⟨List.mem_of_getElem? (i := 1917) (by decide +kernel), rfl⟩
theorem w_1918 : Cond.instanceMethod yX9_share ∈ lw_ok := List.mem_filter.mpr ⟨List.mem_of_getElem? (i := 1918) (by decide +kernel), rfl⟩
theorem w_1919 : Cond.selects RX9 yX9_share yX9_share ∈ lw_ok := List.mem_filter.mpr ⟨List.mem_of_getElem? (i := 1919) (by decide +kernel), rfl⟩
theorem w_1920 : Cond.code yX9_share cX9_share 6 (some .int) ∈ lw_ok := List.mem_filter.mpr ⟨List.mem_of_getElem? (i := 1920) (by decide +kernel), rfl⟩
theorem w_1921 : Cond.constant RX9 371 (-1000000) ∈ lw_ok := List.mem_filter.mpr ⟨List.mem_of_getElem? (i := 1921) (by decide +kernel), rfl⟩
theorem w_1922 : Cond.methodLink RX9 368 yX9_times ∈ lw_ok := List.mem_filter.mpr ⟨List.mem_of_getElem? (i := 1922) (by decide +kernel), rfl⟩
theorem w_1923 : Cond.static yX9_times ∈ lw_ok := List.mem_filter.mpr ⟨List.mem_of_getElem? (i := 1923) (by decide +kernel), rfl⟩
theorem w_1924 : Cond.code yX9_times cX9_times 1 (some .int) ∈ lw_ok := List.mem_filter.mpr ⟨List.mem_of_getElem? (i := 1924) (by decide +kernel), rfl⟩
theorem w_1925 : Cond.methodLink "LeakyLineLaw" 298 yX9_rests ∈ lw_ok := List.mem_filter.mpr ⟨List.mem_of_getElem? (i := 1925) (by decide +kernel), rfl⟩
theorem w_1926 : Cond.instanceMethod yX9_rests ∈ lw_ok := List.mem_filter.mpr ⟨List.mem_of_getElem? (i := 1926) (by decide +kernel), rfl⟩
theorem w_1927 : Cond.selects RX9 yX9_rests yX9_rests ∈ lw_ok := List.mem_filter.mpr ⟨List.mem_of_getElem? (i := 1927) (by decide +kernel), rfl⟩
theorem w_1928 : Cond.code yX9_rests cX9_rests 8 (some .int) ∈ lw_ok := List.mem_filter.mpr ⟨List.mem_of_getElem? (i := 1928) (by decide +kernel), rfl⟩
theorem w_1929 : Cond.methodLink RX9 372 yX9_areTwo ∈ lw_ok := List.mem_filter.mpr ⟨List.mem_of_getElem? (i := 1929) (by decide +kernel), rfl⟩
theorem w_1931 : Cond.instanceMethod yX9_areTwo ∈ lw_ok := List.mem_filter.mpr ⟨List.mem_of_getElem? (i := 1931) (by decide +kernel), rfl⟩
theorem w_1932 : Cond.code yX9_areTwo cX9_areTwo 3 (some .boolean) ∈ lw_ok := List.mem_filter.mpr ⟨List.mem_of_getElem? (i := 1932) (by decide +kernel), rfl⟩
theorem w_1933 : Cond.methodLink RX9 375 yX9_getsBy ∈ lw_ok := List.mem_filter.mpr ⟨List.mem_of_getElem? (i := 1933) (by decide +kernel), rfl⟩
theorem w_1935 : Cond.instanceMethod yX9_getsBy ∈ lw_ok := List.mem_filter.mpr ⟨List.mem_of_getElem? (i := 1935) (by decide +kernel), rfl⟩
theorem w_1936 : Cond.code yX9_getsBy cX9_getsBy 8 (some .int) ∈ lw_ok := List.mem_filter.mpr ⟨List.mem_of_getElem? (i := 1936) (by decide +kernel), rfl⟩
theorem w_1937 : Cond.methodLink "LeakyLineLaw" 303 yX9_gets ∈ lw_ok := List.mem_filter.mpr ⟨List.mem_of_getElem? (i := 1937) (by decide +kernel), rfl⟩
theorem w_1938 : Cond.instanceMethod yX9_gets ∈ lw_ok := List.mem_filter.mpr ⟨List.mem_of_getElem? (i := 1938) (by decide +kernel), rfl⟩
theorem w_1939 : Cond.selects RX9 yX9_gets yX9_gets ∈ lw_ok := List.mem_filter.mpr ⟨List.mem_of_getElem? (i := 1939) (by decide +kernel), rfl⟩
theorem w_1940 : Cond.code yX9_gets cX9_gets 5 (some .int) ∈ lw_ok := List.mem_filter.mpr ⟨List.mem_of_getElem? (i := 1940) (by decide +kernel), rfl⟩
theorem w_1941 : Cond.methodLink "LeakyLineLaw" 308 yX9_chance ∈ lw_ok := List.mem_filter.mpr ⟨List.mem_of_getElem? (i := 1941) (by decide +kernel), rfl⟩
theorem w_1942 : Cond.instanceMethod yX9_chance ∈ lw_ok := List.mem_filter.mpr ⟨List.mem_of_getElem? (i := 1942) (by decide +kernel), rfl⟩
theorem w_1943 : Cond.selects RX9 yX9_chance yX9_chance ∈ lw_ok := List.mem_filter.mpr ⟨List.mem_of_getElem? (i := 1943) (by decide +kernel), rfl⟩
theorem w_1944 : Cond.code yX9_chance cX9_chance 4 (some .int) ∈ lw_ok := List.mem_filter.mpr ⟨List.mem_of_getElem? (i := 1944) (by decide +kernel), rfl⟩
theorem w_1945 : Cond.methodLink RX9 384 yX9_isSoon ∈ lw_ok := List.mem_filter.mpr ⟨List.mem_of_getElem? (i := 1945) (by decide +kernel), rfl⟩
theorem w_1947 : Cond.instanceMethod yX9_isSoon ∈ lw_ok := List.mem_filter.mpr ⟨List.mem_of_getElem? (i := 1947) (by decide +kernel), rfl⟩
theorem w_1948 : Cond.code yX9_isSoon cX9_isSoon 2 (some .boolean) ∈ lw_ok := List.mem_filter.mpr ⟨List.mem_of_getElem? (i := 1948) (by decide +kernel), rfl⟩
theorem w_1949 : Cond.methodLink RX9 387 yX9_weightOf ∈ lw_ok := List.mem_filter.mpr ⟨List.mem_of_getElem? (i := 1949) (by decide +kernel), rfl⟩
theorem w_1951 : Cond.instanceMethod yX9_weightOf ∈ lw_ok := List.mem_filter.mpr ⟨List.mem_of_getElem? (i := 1951) (by decide +kernel), rfl⟩
theorem w_1952 : Cond.code yX9_weightOf cX9_weightOf 9 (some .long) ∈ lw_ok := List.mem_filter.mpr ⟨List.mem_of_getElem? (i := 1952) (by decide +kernel), rfl⟩
theorem w_1953 : Cond.methodLink RX9 379 yX9_power ∈ lw_ok := List.mem_filter.mpr ⟨List.mem_of_getElem? (i := 1953) (by decide +kernel), rfl⟩
theorem w_1954 : Cond.static yX9_power ∈ lw_ok := List.mem_filter.mpr ⟨List.mem_of_getElem? (i := 1954) (by decide +kernel), rfl⟩
theorem w_1955 : Cond.code yX9_power cX9_power 3 (some .long) ∈ lw_ok := List.mem_filter.mpr ⟨List.mem_of_getElem? (i := 1955) (by decide +kernel), rfl⟩
theorem w_1956 : Cond.constantLong RX9 382 10 ∈ lw_ok := List.mem_filter.mpr ⟨List.mem_of_getElem? (i := 1956) (by decide +kernel), rfl⟩
theorem w_1957 : Cond.methodLink "LeakyLineLaw" 312 yX9_mean ∈ lw_ok := List.mem_filter.mpr ⟨List.mem_of_getElem? (i := 1957) (by decide +kernel), rfl⟩
theorem w_1958 : Cond.instanceMethod yX9_mean ∈ lw_ok := List.mem_filter.mpr ⟨List.mem_of_getElem? (i := 1958) (by decide +kernel), rfl⟩
theorem w_1959 : Cond.selects RX9 yX9_mean yX9_mean ∈ lw_ok := List.mem_filter.mpr ⟨List.mem_of_getElem? (i := 1959) (by decide +kernel), rfl⟩
theorem w_1960 : Cond.code yX9_mean cX9_mean 3 (some .long) ∈ lw_ok := List.mem_filter.mpr ⟨List.mem_of_getElem? (i := 1960) (by decide +kernel), rfl⟩
theorem w_1961 : Cond.methodLink "LeakyLineLaw" 332 yX9_drawn ∈ lw_ok := List.mem_filter.mpr ⟨List.mem_of_getElem? (i := 1961) (by decide +kernel), rfl⟩
theorem w_1962 : Cond.instanceMethod yX9_drawn ∈ lw_ok := List.mem_filter.mpr ⟨List.mem_of_getElem? (i := 1962) (by decide +kernel), rfl⟩
theorem w_1963 : Cond.selects RX9 yX9_drawn yX9_drawn ∈ lw_ok := List.mem_filter.mpr ⟨List.mem_of_getElem? (i := 1963) (by decide +kernel), rfl⟩
theorem w_1964 : Cond.code yX9_drawn cX9_drawn 3 (some .int) ∈ lw_ok := List.mem_filter.mpr ⟨List.mem_of_getElem? (i := 1964) (by decide +kernel), rfl⟩
theorem w_1965 : Cond.methodLink RX9 401 yX9_isSeed ∈ lw_ok := List.mem_filter.mpr ⟨List.mem_of_getElem? (i := 1965) (by decide +kernel), rfl⟩
theorem w_1966 : Cond.static yX9_isSeed ∈ lw_ok := List.mem_filter.mpr ⟨List.mem_of_getElem? (i := 1966) (by decide +kernel), rfl⟩
theorem w_1967 : Cond.code yX9_isSeed cX9_isSeed 1 (some .boolean) ∈ lw_ok := List.mem_filter.mpr ⟨List.mem_of_getElem? (i := 1967) (by decide +kernel), rfl⟩
theorem w_1968 : Cond.constantLong RX9 399 2000000000 ∈ lw_ok := List.mem_filter.mpr ⟨List.mem_of_getElem? (i := 1968) (by decide +kernel), rfl⟩
theorem w_1969 : Cond.methodLink RX9 404 yX9_draws ∈ lw_ok := List.mem_filter.mpr ⟨List.mem_of_getElem? (i := 1969) (by decide +kernel), rfl⟩
theorem w_1971 : Cond.instanceMethod yX9_draws ∈ lw_ok := List.mem_filter.mpr ⟨List.mem_of_getElem? (i := 1971) (by decide +kernel), rfl⟩
theorem w_1972 : Cond.code yX9_draws cX9_draws 6 none ∈ lw_ok := List.mem_filter.mpr ⟨List.mem_of_getElem? (i := 1972) (by decide +kernel), rfl⟩
theorem w_1973 : Cond.constantLong RX9 391 1103515245 ∈ lw_ok := List.mem_filter.mpr ⟨List.mem_of_getElem? (i := 1973) (by decide +kernel), rfl⟩
theorem w_1974 : Cond.constantLong RX9 393 12345 ∈ lw_ok := List.mem_filter.mpr ⟨List.mem_of_getElem? (i := 1974) (by decide +kernel), rfl⟩
theorem w_1975 : Cond.constantLong RX9 395 2147483648 ∈ lw_ok := List.mem_filter.mpr ⟨List.mem_of_getElem? (i := 1975) (by decide +kernel), rfl⟩
theorem w_1976 : Cond.constantLong RX9 397 65536 ∈ lw_ok := List.mem_filter.mpr ⟨List.mem_of_getElem? (i := 1976) (by decide +kernel), rfl⟩
theorem w_1977 : Cond.methodLink "LeakyLineLaw" 336 yX9_luck ∈ lw_ok := List.mem_filter.mpr ⟨List.mem_of_getElem? (i := 1977) (by decide +kernel), rfl⟩
theorem w_1978 : Cond.instanceMethod yX9_luck ∈ lw_ok := List.mem_filter.mpr ⟨List.mem_of_getElem? (i := 1978) (by decide +kernel), rfl⟩
theorem w_1979 : Cond.selects RX9 yX9_luck yX9_luck ∈ lw_ok := List.mem_filter.mpr ⟨List.mem_of_getElem? (i := 1979) (by decide +kernel), rfl⟩
theorem w_1980 : Cond.code yX9_luck cX9_luck 6 (some .int) ∈ lw_ok := List.mem_filter.mpr ⟨List.mem_of_getElem? (i := 1980) (by decide +kernel), rfl⟩
theorem w_1981 : Cond.constantLong RX9 407 20 ∈ lw_ok := List.mem_filter.mpr ⟨List.mem_of_getElem? (i := 1981) (by decide +kernel), rfl⟩
theorem w_1982 : Cond.methodLink "LeakyLineLaw" 316 yX9_cups ∈ lw_ok := List.mem_filter.mpr ⟨List.mem_of_getElem? (i := 1982) (by decide +kernel), rfl⟩
theorem w_1983 : Cond.instanceMethod yX9_cups ∈ lw_ok := List.mem_filter.mpr ⟨List.mem_of_getElem? (i := 1983) (by decide +kernel), rfl⟩
theorem w_1984 : Cond.selects RX9 yX9_cups yX9_cups ∈ lw_ok := List.mem_filter.mpr ⟨List.mem_of_getElem? (i := 1984) (by decide +kernel), rfl⟩
theorem w_1985 : Cond.code yX9_cups cX9_cups 3 (some .int) ∈ lw_ok := List.mem_filter.mpr ⟨List.mem_of_getElem? (i := 1985) (by decide +kernel), rfl⟩
theorem w_1986 : Cond.methodLink RX9 409 yX9_does ∈ lw_ok := List.mem_filter.mpr ⟨List.mem_of_getElem? (i := 1986) (by decide +kernel), rfl⟩
theorem w_1988 : Cond.instanceMethod yX9_does ∈ lw_ok := List.mem_filter.mpr ⟨List.mem_of_getElem? (i := 1988) (by decide +kernel), rfl⟩
theorem w_1989 : Cond.code yX9_does cX9_does 5 none ∈ lw_ok := List.mem_filter.mpr ⟨List.mem_of_getElem? (i := 1989) (by decide +kernel), rfl⟩
theorem w_1990 : Cond.methodLink "LeakyLineLaw" 320 yX9_snaps ∈ lw_ok := List.mem_filter.mpr ⟨List.mem_of_getElem? (i := 1990) (by decide +kernel), rfl⟩
theorem w_1991 : Cond.instanceMethod yX9_snaps ∈ lw_ok := List.mem_filter.mpr ⟨List.mem_of_getElem? (i := 1991) (by decide +kernel), rfl⟩
theorem w_1992 : Cond.selects RX9 yX9_snaps yX9_snaps ∈ lw_ok := List.mem_filter.mpr ⟨List.mem_of_getElem? (i := 1992) (by decide +kernel), rfl⟩
theorem w_1993 : Cond.code yX9_snaps cX9_snaps 3 (some .int) ∈ lw_ok := List.mem_filter.mpr ⟨List.mem_of_getElem? (i := 1993) (by decide +kernel), rfl⟩
theorem w_1994 : Cond.methodLink "LeakyLineLaw" 324 yX9_undo ∈ lw_ok := List.mem_filter.mpr ⟨List.mem_of_getElem? (i := 1994) (by decide +kernel), rfl⟩
theorem w_1995 : Cond.instanceMethod yX9_undo ∈ lw_ok := List.mem_filter.mpr ⟨List.mem_of_getElem? (i := 1995) (by decide +kernel), rfl⟩
theorem w_1996 : Cond.selects RX9 yX9_undo yX9_undo ∈ lw_ok := List.mem_filter.mpr ⟨List.mem_of_getElem? (i := 1996) (by decide +kernel), rfl⟩
theorem w_1997 : Cond.code yX9_undo cX9_undo 1 (some .int) ∈ lw_ok := List.mem_filter.mpr ⟨List.mem_of_getElem? (i := 1997) (by decide +kernel), rfl⟩
theorem w_1998 : Cond.methodLink "LeakyLineLaw" 328 yX9_anew ∈ lw_ok := List.mem_filter.mpr ⟨List.mem_of_getElem? (i := 1998) (by decide +kernel), rfl⟩
theorem w_1999 : Cond.instanceMethod yX9_anew ∈ lw_ok := List.mem_filter.mpr ⟨List.mem_of_getElem? (i := 1999) (by decide +kernel), rfl⟩
theorem w_2000 : Cond.selects RX9 yX9_anew yX9_anew ∈ lw_ok := List.mem_filter.mpr ⟨List.mem_of_getElem? (i := 2000) (by decide +kernel), rfl⟩
theorem w_2001 : Cond.code yX9_anew cX9_anew 2 (some .int) ∈ lw_ok := List.mem_filter.mpr ⟨List.mem_of_getElem? (i := 2001) (by decide +kernel), rfl⟩
theorem w_2002 : Cond.methodLink "LeakyLineLaw" 340 yX9_rate ∈ lw_ok := List.mem_filter.mpr ⟨List.mem_of_getElem? (i := 2002) (by decide +kernel), rfl⟩
theorem w_2003 : Cond.instanceMethod yX9_rate ∈ lw_ok := List.mem_filter.mpr ⟨List.mem_of_getElem? (i := 2003) (by decide +kernel), rfl⟩
theorem w_2004 : Cond.selects RX9 yX9_rate yX9_rate ∈ lw_ok := List.mem_filter.mpr ⟨List.mem_of_getElem? (i := 2004) (by decide +kernel), rfl⟩
theorem w_2005 : Cond.code yX9_rate cX9_rate 4 (some .int) ∈ lw_ok := List.mem_filter.mpr ⟨List.mem_of_getElem? (i := 2005) (by decide +kernel), rfl⟩
theorem w_2006 : Cond.constantLong RX9 413 60 ∈ lw_ok := List.mem_filter.mpr ⟨List.mem_of_getElem? (i := 2006) (by decide +kernel), rfl⟩
theorem w_2007 : Cond.methodLink "LeakyLineLaw" 344 yX9_count ∈ lw_ok := List.mem_filter.mpr ⟨List.mem_of_getElem? (i := 2007) (by decide +kernel), rfl⟩
theorem w_2008 : Cond.instanceMethod yX9_count ∈ lw_ok := List.mem_filter.mpr ⟨List.mem_of_getElem? (i := 2008) (by decide +kernel), rfl⟩
theorem w_2009 : Cond.selects RX9 yX9_count yX9_count ∈ lw_ok := List.mem_filter.mpr ⟨List.mem_of_getElem? (i := 2009) (by decide +kernel), rfl⟩
theorem w_2010 : Cond.code yX9_count cX9_count 4 (some .int) ∈ lw_ok := List.mem_filter.mpr ⟨List.mem_of_getElem? (i := 2010) (by decide +kernel), rfl⟩
theorem w_2011 : Cond.constantLong RX9 415 6 ∈ lw_ok := List.mem_filter.mpr ⟨List.mem_of_getElem? (i := 2011) (by decide +kernel), rfl⟩
theorem w_2012 : Cond.methodLink "LeakyLineLaw" 348 yX9_image ∈ lw_ok := List.mem_filter.mpr ⟨List.mem_of_getElem? (i := 2012) (by decide +kernel), rfl⟩
theorem w_2013 : Cond.instanceMethod yX9_image ∈ lw_ok := List.mem_filter.mpr ⟨List.mem_of_getElem? (i := 2013) (by decide +kernel), rfl⟩
theorem w_2014 : Cond.selects RX9 yX9_image yX9_image ∈ lw_ok := List.mem_filter.mpr ⟨List.mem_of_getElem? (i := 2014) (by decide +kernel), rfl⟩
theorem w_2015 : Cond.code yX9_image cX9_image 2 (some .int) ∈ lw_ok := List.mem_filter.mpr ⟨List.mem_of_getElem? (i := 2015) (by decide +kernel), rfl⟩
theorem w_2016 : Cond.methodLink "LeakyLineLaw" 352 yX9_back ∈ lw_ok := List.mem_filter.mpr ⟨List.mem_of_getElem? (i := 2016) (by decide +kernel), rfl⟩
theorem w_2017 : Cond.instanceMethod yX9_back ∈ lw_ok := List.mem_filter.mpr ⟨List.mem_of_getElem? (i := 2017) (by decide +kernel), rfl⟩
theorem w_2018 : Cond.selects RX9 yX9_back yX9_back ∈ lw_ok := List.mem_filter.mpr ⟨List.mem_of_getElem? (i := 2018) (by decide +kernel), rfl⟩
theorem w_2019 : Cond.code yX9_back cX9_back 2 (some .int) ∈ lw_ok := List.mem_filter.mpr ⟨List.mem_of_getElem? (i := 2019) (by decide +kernel), rfl⟩
theorem w_2020 : Cond.constantLong "LeakyLineLaw" 357 4294967295 ∈ lw_ok := List.mem_filter.mpr ⟨List.mem_of_getElem? (i := 2020) (by decide +kernel), rfl⟩
theorem w_2021 : Cond.fieldLink RJ0 9 "java/lang/String" "value" "[B" ∈ lw_ok := List.mem_filter.mpr ⟨List.mem_of_getElem? (i := 2021) (by decide +kernel), rfl⟩
theorem w_2022 : Cond.fieldLink RJ0 15 "java/lang/String" "coder" "B" ∈ lw_ok := List.mem_filter.mpr ⟨List.mem_of_getElem? (i := 2022) (by decide +kernel), rfl⟩
def NW (U : State) : Prop := va_Nw (Cond.methodLinkNest RX8 9 yX5_init "LeakyLine") U ∧ va_Nw (Cond.methodLinkNest RX8 18 yX7_init "LeakyLine") U ∧ va_Nw (Cond.methodLinkNest RX8 25 yX6_init "LeakyLine") U ∧ va_Nw (Cond.methodLinkNest RX8 32 yX2_init "LeakyLine") U ∧ va_Nw (Cond.methodLinkNest RX8 46 yX3_init "LeakyLine") U ∧ va_Nw (Cond.methodLinkNest RX8 53 yX4_init "LeakyLine") U ∧ va_Nw (Cond.methodLinkNest RX8 60 yX1_init "LeakyLine") U ∧ va_Nw (Cond.methodLinkNest RX8 67 yX0_init "LeakyLine") U ∧ va_Nw (Cond.methodLinkNest RX4 47 yX8_hasBit "LeakyLine") U ∧ va_AO "LeakyLine$Line" U
theorem NW.n9 {U : State} (h : NW U) : va_Nw (Cond.methodLinkNest RX8 9 yX5_init "LeakyLine") U := h.1
theorem NW.n18 {U : State} (h : NW U) : va_Nw (Cond.methodLinkNest RX8 18 yX7_init "LeakyLine") U := h.2.1
theorem NW.n25 {U : State} (h : NW U) : va_Nw (Cond.methodLinkNest RX8 25 yX6_init "LeakyLine") U := h.2.2.1
theorem NW.n32 {U : State} (h : NW U) : va_Nw (Cond.methodLinkNest RX8 32 yX2_init "LeakyLine") U := h.2.2.2.1
theorem NW.n46 {U : State} (h : NW U) : va_Nw (Cond.methodLinkNest RX8 46 yX3_init "LeakyLine") U := h.2.2.2.2.1
theorem NW.n53 {U : State} (h : NW U) : va_Nw (Cond.methodLinkNest RX8 53 yX4_init "LeakyLine") U := h.2.2.2.2.2.1
theorem NW.n60 {U : State} (h : NW U) : va_Nw (Cond.methodLinkNest RX8 60 yX1_init "LeakyLine") U := h.2.2.2.2.2.2.1
theorem NW.n67 {U : State} (h : NW U) : va_Nw (Cond.methodLinkNest RX8 67 yX0_init "LeakyLine") U := h.2.2.2.2.2.2.2.1
theorem NW.n47 {U : State} (h : NW U) : va_Nw (Cond.methodLinkNest RX4 47 yX8_hasBit "LeakyLine") U := h.2.2.2.2.2.2.2.2.1
theorem NW.ao {U : State} (h : NW U) : va_AO "LeakyLine$Line" U := h.2.2.2.2.2.2.2.2.2
theorem NW.same {u U : State} (e : u.vm = U.vm) (h : NW u) : NW U := ⟨va_Nw.same rfl e h.n9, va_Nw.same rfl e h.n18, va_Nw.same rfl e h.n25, va_Nw.same rfl e h.n32, va_Nw.same rfl e h.n46, va_Nw.same rfl e h.n53, va_Nw.same rfl e h.n60, va_Nw.same rfl e h.n67, va_Nw.same rfl e h.n47, h.ao.moved (by rw [e]; exact Vm.Alike.refl U.vm)⟩
theorem NW.warm {s U : State} (hW : s.WarmedH U.vm) (h : NW s) : NW U := ⟨va_Nw.warmM hW h.n9, va_Nw.warmM hW h.n18, va_Nw.warmM hW h.n25, va_Nw.warmM hW h.n32, va_Nw.warmM hW h.n46, va_Nw.warmM hW h.n53, va_Nw.warmM hW h.n60, va_Nw.warmM hW h.n67, va_Nw.warmM hW h.n47, h.ao.moved hW.alike⟩
theorem fbQn {D : va_G} {cl : List vw_C} {ws : va_W} {tys : List (ClassId × FieldType)} {av : List Value} {sz : Nat} : FrameBlind (va_Pc av (fun U => U.heap.size = sz ∧ va_P D cl ws U.heap ∧ va_K D cl tys U ∧ va_D (fun _ => True) ws ∧ NW U)) := fun a U g mk q => by
  obtain ⟨q0, q1, qP, qK, qD, qN⟩ := q
  exact ⟨q0, q1, qP, va_K.moved (u := U) (U := U.calling g mk a) (Vm.Alike.refl U.vm) qK, qD, NW.same (u := U) (U := U.calling g mk a) rfl qN⟩
theorem pSQn {D : va_G} {cl : List vw_C} {ws : va_W} {tys : List (ClassId × FieldType)} {As : List Value} {s : State} {H : Heap} {A : Nat → Prop} (hN : NW s) (hK : va_K D cl tys s) (hP : va_P D cl ws H) (hD : va_D A ws) : PreS s H (va_Pc As (fun U => U.heap.size = H.size ∧ va_P D cl ws U.heap ∧ va_K D cl tys U ∧ va_D (fun _ => True) ws ∧ NW U)) As := ⟨fbQn, fun U hU hW => ⟨rfl, by rw [hU], by rw [hU]; exact hP, va_K.moved hW.alike hK, hD.weaken (fun _ _ _ _ => trivial), hN.warm hW⟩⟩
theorem pVQn {D : va_G} {cl : List vw_C} {ws : va_W} {tys : List (ClassId × FieldType)} {As : List Value} {s : State} {H : Heap} {A : Nat → Prop} {a q0 ci : Nat} {fs : List Value} {r : vw_C} (hN : NW s) (hK : va_K D cl tys s) (hP : va_P D cl ws H) (hD : va_D A ws) (hc : cl[ci]? = some r) (he : ws[q0]? = some (a, .inr (ci, fs))) : PreV s H r.1 a (va_Pc (.ref a :: As) (fun U => U.heap.size = H.size ∧ va_P D cl ws U.heap ∧ va_K D cl tys U ∧ va_D (fun _ => True) ws ∧ NW U)) As := ⟨fbQn, va_recv hK hP hc he, fun U hU hW => ⟨rfl, by rw [hU], by rw [hU]; exact hP, va_K.moved hW.alike hK, hD.weaken (fun _ _ _ _ => trivial), hN.warm hW⟩⟩
theorem fbSn {D : va_G} {cl : List vw_C} {ws : va_W} {tys : List (ClassId × FieldType)} {av : List Value} : FrameBlind (va_Pc av (fun U => va_P D cl ws U.heap ∧ va_K D cl tys U ∧ NW U)) := fun a U g mk q => by
  obtain ⟨q0, qP, qK, qN⟩ := q
  exact ⟨q0, qP, va_K.moved (u := U) (U := U.calling g mk a) (Vm.Alike.refl U.vm) qK, NW.same (u := U) (U := U.calling g mk a) rfl qN⟩
theorem pSSn {D : va_G} {cl : List vw_C} {ws : va_W} {tys : List (ClassId × FieldType)} {As : List Value} {s : State} {H : Heap} (hN : NW s) (hK : va_K D cl tys s) (hP : va_P D cl ws H) : PreS s H (va_Pc As (fun U => va_P D cl ws U.heap ∧ va_K D cl tys U ∧ NW U)) As := ⟨fbSn, fun U hU hW => ⟨rfl, by rw [hU]; exact hP, va_K.moved hW.alike hK, hN.warm hW⟩⟩
theorem pVSn {D : va_G} {cl : List vw_C} {ws : va_W} {tys : List (ClassId × FieldType)} {As : List Value} {s : State} {H : Heap} {a q0 ci : Nat} {fs : List Value} {r : vw_C} (hN : NW s) (hK : va_K D cl tys s) (hP : va_P D cl ws H) (hc : cl[ci]? = some r) (he : ws[q0]? = some (a, .inr (ci, fs))) : PreV s H r.1 a (va_Pc (.ref a :: As) (fun U => va_P D cl ws U.heap ∧ va_K D cl tys U ∧ NW U)) As := ⟨fbSn, va_recv hK hP hc he, fun U hU hW => ⟨rfl, by rw [hU]; exact hP, va_K.moved hW.alike hK, hN.warm hW⟩⟩
theorem callSiN {p : Program} {l : Launch} {e : Env} {R : Room} {s : State} {m : MethodId} {args : Array Value} {below : List Frame} {meth : Method} {c : Code} {H : Heap} {locs : List Loc} {cells slots : Nat} {Q : State → Prop} {pc : Nat} {ls : Array Slot} {rest st0 : List Value} {a : Array Value} {post : Int32 → Prop} (hr : va_Run p l e R s m args below meth c H locs cells slots 0 0 (F0 m pc ls st0) rest (vp_Si post a) (fun _ => False)) (kk : ∀ r : Int32, post r → W p l e R s m args below meth c H locs cells slots Q (F0 m (pc + 3) ls (.int r :: rest))) : W p l e R s m args below meth c H locs cells slots Q (F0 m pc ls st0) := by
  intro T hT X
  obtain ⟨v, st₀, t, T', L, h0, X', hL, e1, e2, ⟨r, hv, hp, hh⟩, st⟩ := hr T hT X
  cases hv
  obtain ⟨t2, a1, b1⟩ := kk r hp T' (by rw [e1, hh, h0]) (Stand.forget X' (fun q h => (hL q h).elim))
  exact ⟨t2, st t2 a1, b1⟩
theorem w_mathmin : Cond.code Lib.Math.min.name Lib.Math.min.code 2 (some .int) ∈ lw_ok := List.mem_filter.mpr ⟨List.mem_of_getElem? (i := 535) (by decide +kernel), rfl⟩
theorem w_mathmax : Cond.code Lib.Math.max.name Lib.Math.max.code 2 (some .int) ∈ lw_ok := List.mem_filter.mpr ⟨List.mem_of_getElem? (i := 541) (by decide +kernel), rfl⟩
theorem w_mathmaxl : Cond.code Lib.MathLoose.max_long.x Lib.MathLoose.max_long.code 4 (some .long) ∈ lw_ok := List.mem_filter.mpr ⟨List.mem_of_getElem? (i := 992) (by decide +kernel), rfl⟩
theorem w_mathabsl : Cond.code Lib.MathLoose.abs_long.x Lib.MathLoose.abs_long.code 2 (some .long) ∈ lw_ok := List.mem_filter.mpr ⟨List.mem_of_getElem? (i := 720) (by decide +kernel), rfl⟩
