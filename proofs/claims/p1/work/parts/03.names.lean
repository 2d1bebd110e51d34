abbrev cJ7_fill_53178 : ByteArray := prog_18_method_103_code
def yJ7_fill_53178 : MethodName := ⟨RJ7, "fill", "([II)V"⟩
abbrev cJ7_fill_bad5a : ByteArray := prog_18_method_102_code
def yJ7_fill_bad5a : MethodName := ⟨RJ7, "fill", "([JIIJ)V"⟩
abbrev cJ7_rangeCheck_23922 : ByteArray := prog_18_method_30_code
def yJ7_rangeCheck_23922 : MethodName := ⟨RJ7, "rangeCheck", "(III)V"⟩
abbrev cJ9_min_7cf53 : ByteArray := prog_13_method_69_code
def yJ9_min_7cf53 : MethodName := ⟨RJ9, "min", "(II)I"⟩
abbrev cX0_init : ByteArray := prog_2_method_1_code
def yX0_init : MethodName := ⟨RX0, "<init>", "()V"⟩
abbrev cX1_init : ByteArray := prog_3_method_1_code
def yX1_init : MethodName := ⟨RX1, "<init>", "()V"⟩
abbrev cX2_init : ByteArray := prog_4_method_1_code
def yX2_init : MethodName := ⟨RX2, "<init>", "()V"⟩
abbrev cX2_keepActs : ByteArray := prog_4_method_5_code
def yX2_keepActs : MethodName := ⟨RX2, "keepActs", "(I)V"⟩
abbrev cX2_take : ByteArray := prog_4_method_3_code
def yX2_take : MethodName := ⟨RX2, "take", "(LLeakyLine$Line;)V"⟩
abbrev cX2_wipe : ByteArray := prog_4_method_2_code
def yX2_wipe : MethodName := ⟨RX2, "wipe", "()V"⟩
abbrev cX3_has : ByteArray := prog_5_method_2_code
def yX3_has : MethodName := ⟨RX3, "has", "(I)Z"⟩
abbrev cX3_init : ByteArray := prog_5_method_1_code
def yX3_init : MethodName := ⟨RX3, "<init>", "()V"⟩
abbrev cX3_lay : ByteArray := prog_5_method_4_code
def yX3_lay : MethodName := ⟨RX3, "lay", "(III)V"⟩
abbrev cX3_used : ByteArray := prog_5_method_3_code
def yX3_used : MethodName := ⟨RX3, "used", "()I"⟩
abbrev cX4_init : ByteArray := prog_6_method_1_code
def yX4_init : MethodName := ⟨RX4, "<init>", "()V"⟩
abbrev cX5_append : ByteArray := prog_7_method_2_code
def yX5_append : MethodName := ⟨RX5, "append", "(I)V"⟩
abbrev cX5_init : ByteArray := prog_7_method_1_code
def yX5_init : MethodName := ⟨RX5, "<init>", "()V"⟩
abbrev cX6_init : ByteArray := prog_8_method_1_code
def yX6_init : MethodName := ⟨RX6, "<init>", "()V"⟩
abbrev cX6_read : ByteArray := prog_8_method_2_code
def yX6_read : MethodName := ⟨RX6, "read", "(LLeakyLine$Tokens;LLeakyLine$Line;)V"⟩
abbrev cX6_step : ByteArray := prog_8_method_11_code
def yX6_step : MethodName := ⟨RX6, "step", "(LLeakyLine$Tokens;)V"⟩
abbrev cX7_add : ByteArray := prog_9_method_3_code
def yX7_add : MethodName := ⟨RX7, "add", "(III)V"⟩
abbrev cX7_init : ByteArray := prog_9_method_1_code
def yX7_init : MethodName := ⟨RX7, "<init>", "()V"⟩
abbrev cX7_scan : ByteArray := prog_9_method_2_code
def yX7_scan : MethodName := ⟨RX7, "scan", "(LLeakyLine$Tape;)V"⟩
abbrev cX8_all : ByteArray := prog_1_method_45_code
def yX8_all : MethodName := ⟨RX8, "all", "()I"⟩
abbrev cX8_amps : ByteArray := prog_1_method_12_code
def yX8_amps : MethodName := ⟨RX8, "amps", "(II)J"⟩
abbrev cX8_anew : ByteArray := prog_1_method_78_code
def yX8_anew : MethodName := ⟨RX8, "anew", "()I"⟩
abbrev cX8_apart : ByteArray := prog_1_method_39_code
def yX8_apart : MethodName := ⟨RX8, "apart", "(II)I"⟩
abbrev cX8_ask : ByteArray := prog_1_method_62_code
def yX8_ask : MethodName := ⟨RX8, "ask", "(II)I"⟩
abbrev cX8_back : ByteArray := prog_1_method_84_code
def yX8_back : MethodName := ⟨RX8, "back", "(I)I"⟩
abbrev cX8_batteries : ByteArray := prog_1_method_54_code
def yX8_batteries : MethodName := ⟨RX8, "batteries", "()I"⟩
abbrev cX8_battery : ByteArray := prog_1_method_53_code
def yX8_battery : MethodName := ⟨RX8, "battery", "(I)I"⟩
abbrev cX8_best : ByteArray := prog_1_method_57_code
def yX8_best : MethodName := ⟨RX8, "best", "()I"⟩
abbrev cX8_both : ByteArray := prog_1_method_38_code
def yX8_both : MethodName := ⟨RX8, "both", "(II)I"⟩
abbrev cX8_breaks : ByteArray := prog_1_method_65_code
def yX8_breaks : MethodName := ⟨RX8, "breaks", "(I)I"⟩
abbrev cX8_bright : ByteArray := prog_1_method_33_code
def yX8_bright : MethodName := ⟨RX8, "bright", "()I"⟩
abbrev cX8_by : ByteArray := prog_1_method_67_code
def yX8_by : MethodName := ⟨RX8, "by", "(I)I"⟩
abbrev cX8_chance : ByteArray := prog_1_method_73_code
def yX8_chance : MethodName := ⟨RX8, "chance", "(III)I"⟩
abbrev cX8_changes : ByteArray := prog_1_method_44_code
def yX8_changes : MethodName := ⟨RX8, "changes", "()I"⟩
abbrev cX8_clear : ByteArray := prog_1_method_25_code
def yX8_clear : MethodName := ⟨RX8, "clear", "()I"⟩
abbrev cX8_count : ByteArray := prog_1_method_82_code
def yX8_count : MethodName := ⟨RX8, "count", "(I)I"⟩
abbrev cX8_cupped : ByteArray := prog_1_method_47_code
def yX8_cupped : MethodName := ⟨RX8, "cupped", "(II)I"⟩
abbrev cX8_cups : ByteArray := prog_1_method_75_code
def yX8_cups : MethodName := ⟨RX8, "cups", "(II)I"⟩
abbrev cX8_cure : ByteArray := prog_1_method_55_code
def yX8_cure : MethodName := ⟨RX8, "cure", "(I)I"⟩
abbrev cX8_cures : ByteArray := prog_1_method_56_code
def yX8_cures : MethodName := ⟨RX8, "cures", "(I)I"⟩
abbrev cX8_damp : ByteArray := prog_1_method_30_code
def yX8_damp : MethodName := ⟨RX8, "damp", "(II)I"⟩
abbrev cX8_deaf : ByteArray := prog_1_method_22_code
def yX8_deaf : MethodName := ⟨RX8, "deaf", "(I)I"⟩
abbrev cX8_dim : ByteArray := prog_1_method_27_code
def yX8_dim : MethodName := ⟨RX8, "dim", "()I"⟩
abbrev cX8_drawn : ByteArray := prog_1_method_79_code
def yX8_drawn : MethodName := ⟨RX8, "drawn", "(II)I"⟩
abbrev cX8_dry : ByteArray := prog_1_method_35_code
def yX8_dry : MethodName := ⟨RX8, "dry", "()I"⟩
abbrev cX8_earth : ByteArray := prog_1_method_16_code
def yX8_earth : MethodName := ⟨RX8, "earth", "(III)J"⟩
abbrev cX8_end : ByteArray := prog_1_method_3_code
def yX8_end : MethodName := ⟨RX8, "end", "(I)I"⟩
abbrev cX8_ends : ByteArray := prog_1_method_36_code
def yX8_ends : MethodName := ⟨RX8, "ends", "(I)I"⟩
abbrev cX8_faint : ByteArray := prog_1_method_20_code
def yX8_faint : MethodName := ⟨RX8, "faint", "(I)I"⟩
abbrev cX8_falls : ByteArray := prog_1_method_15_code
def yX8_falls : MethodName := ⟨RX8, "falls", "(III)J"⟩
abbrev cX8_fault : ByteArray := prog_1_method_5_code
def yX8_fault : MethodName := ⟨RX8, "fault", "(I)I"⟩
abbrev cX8_feed : ByteArray := prog_1_method_2_code
def yX8_feed : MethodName := ⟨RX8, "feed", "(IIIII)I"⟩
abbrev cX8_fits : ByteArray := prog_1_method_59_code
def yX8_fits : MethodName := ⟨RX8, "fits", "(II)I"⟩
abbrev cX8_flips : ByteArray := prog_1_method_24_code
def yX8_flips : MethodName := ⟨RX8, "flips", "(I)I"⟩
abbrev cX8_gets : ByteArray := prog_1_method_72_code
def yX8_gets : MethodName := ⟨RX8, "gets", "(IIII)I"⟩
abbrev cX8_grounds : ByteArray := prog_1_method_41_code
def yX8_grounds : MethodName := ⟨RX8, "grounds", "(I)I"⟩
abbrev cX8_half : ByteArray := prog_1_method_40_code
def yX8_half : MethodName := ⟨RX8, "half", "(I)I"⟩
abbrev cX8_hasBit : ByteArray := prog_1_method_98_code
def yX8_hasBit : MethodName := ⟨RX8, "hasBit", "(II)Z"⟩
abbrev cX8_hears : ByteArray := prog_1_method_18_code
def yX8_hears : MethodName := ⟨RX8, "hears", "(I)I"⟩
abbrev cX8_high : ByteArray := prog_1_method_61_code
def yX8_high : MethodName := ⟨RX8, "high", "(II)I"⟩
abbrev cX8_image : ByteArray := prog_1_method_83_code
def yX8_image : MethodName := ⟨RX8, "image", "(I)I"⟩
abbrev cX8_init : ByteArray := prog_1_method_1_code
def yX8_init : MethodName := ⟨RX8, "<init>", "()V"⟩
abbrev cX8_isChanceDay : ByteArray := prog_1_method_90_code
def yX8_isChanceDay : MethodName := ⟨RX8, "isChanceDay", "(I)Z"⟩
abbrev cX8_isDay : ByteArray := prog_1_method_89_code
def yX8_isDay : MethodName := ⟨RX8, "isDay", "(I)Z"⟩
abbrev cX8_isPole : ByteArray := prog_1_method_91_code
def yX8_isPole : MethodName := ⟨RX8, "isPole", "(I)Z"⟩
abbrev cX8_isSlot : ByteArray := prog_1_method_95_code
def yX8_isSlot : MethodName := ⟨RX8, "isSlot", "(I)Z"⟩
abbrev cX8_isStation : ByteArray := prog_1_method_92_code
def yX8_isStation : MethodName := ⟨RX8, "isStation", "(I)Z"⟩
abbrev cX8_isTold : ByteArray := prog_1_method_88_code
def yX8_isTold : MethodName := ⟨RX8, "isTold", "()Z"⟩
abbrev cX8_joined : ByteArray := prog_1_method_10_code
def yX8_joined : MethodName := ⟨RX8, "joined", "(I)I"⟩
abbrev cX8_lack : ByteArray := prog_1_method_49_code
def yX8_lack : MethodName := ⟨RX8, "lack", "(I)I"⟩
abbrev cX8_last : ByteArray := prog_1_method_26_code
def yX8_last : MethodName := ⟨RX8, "last", "()I"⟩
abbrev cX8_law : ByteArray := prog_1_method_68_code
def yX8_law : MethodName := ⟨RX8, "law", "()I"⟩
abbrev cX8_laws : ByteArray := prog_1_method_66_code
def yX8_laws : MethodName := ⟨RX8, "laws", "(I)I"⟩
abbrev cX8_leak : ByteArray := prog_1_method_9_code
def yX8_leak : MethodName := ⟨RX8, "leak", "(II)I"⟩
abbrev cX8_leaves : ByteArray := prog_1_method_63_code
def yX8_leaves : MethodName := ⟨RX8, "leaves", "(II)I"⟩
abbrev cX8_longest : ByteArray := prog_1_method_23_code
def yX8_longest : MethodName := ⟨RX8, "longest", "(I)I"⟩
abbrev cX8_loud : ByteArray := prog_1_method_50_code
def yX8_loud : MethodName := ⟨RX8, "loud", "(I)I"⟩
abbrev cX8_low : ByteArray := prog_1_method_60_code
def yX8_low : MethodName := ⟨RX8, "low", "(II)I"⟩
abbrev cX8_luck : ByteArray := prog_1_method_80_code
def yX8_luck : MethodName := ⟨RX8, "luck", "(III)I"⟩
abbrev cX8_margin : ByteArray := prog_1_method_32_code
def yX8_margin : MethodName := ⟨RX8, "margin", "(II)I"⟩
abbrev cX8_mean : ByteArray := prog_1_method_74_code
def yX8_mean : MethodName := ⟨RX8, "mean", "(II)J"⟩
abbrev cX8_mute : ByteArray := prog_1_method_43_code
def yX8_mute : MethodName := ⟨RX8, "mute", "()I"⟩
abbrev cX8_ohms : ByteArray := prog_1_method_11_code
def yX8_ohms : MethodName := ⟨RX8, "ohms", "(II)J"⟩
abbrev cX8_paste : ByteArray := prog_1_method_87_code
def yX8_paste : MethodName := ⟨RX8, "paste", "(IIIII)I"⟩
abbrev cX8_rate : ByteArray := prog_1_method_81_code
def yX8_rate : MethodName := ⟨RX8, "rate", "(II)I"⟩
abbrev cX8_reach : ByteArray := prog_1_method_37_code
def yX8_reach : MethodName := ⟨RX8, "reach", "(I)I"⟩
abbrev cX8_refusalOfRow : ByteArray := prog_1_method_119_code
def yX8_refusalOfRow : MethodName := ⟨RX8, "refusalOfRow", "(I)I"⟩
abbrev cX8_refusalOfSeen : ByteArray := prog_1_method_118_code
def yX8_refusalOfSeen : MethodName := ⟨RX8, "refusalOfSeen", "(II)I"⟩
abbrev cX8_rests : ByteArray := prog_1_method_71_code
def yX8_rests : MethodName := ⟨RX8, "rests", "(II)I"⟩
abbrev cX8_rises : ByteArray := prog_1_method_34_code
def yX8_rises : MethodName := ⟨RX8, "rises", "(I)I"⟩
abbrev cX8_row : ByteArray := prog_1_method_85_code
def yX8_row : MethodName := ⟨RX8, "row", "(III)I"⟩
abbrev cX8_share : ByteArray := prog_1_method_70_code
def yX8_share : MethodName := ⟨RX8, "share", "(II)I"⟩
abbrev cX8_silent : ByteArray := prog_1_method_19_code
def yX8_silent : MethodName := ⟨RX8, "silent", "(I)I"⟩
abbrev cX8_snapped : ByteArray := prog_1_method_48_code
def yX8_snapped : MethodName := ⟨RX8, "snapped", "(I)I"⟩
abbrev cX8_snaps : ByteArray := prog_1_method_76_code
def yX8_snaps : MethodName := ⟨RX8, "snaps", "(II)I"⟩
abbrev cX8_sore : ByteArray := prog_1_method_17_code
def yX8_sore : MethodName := ⟨RX8, "sore", "(I)I"⟩
abbrev cX8_span : ByteArray := prog_1_method_6_code
def yX8_span : MethodName := ⟨RX8, "span", "(II)I"⟩
abbrev cX8_spell : ByteArray := prog_1_method_31_code
def yX8_spell : MethodName := ⟨RX8, "spell", "()I"⟩
abbrev cX8_spots : ByteArray := prog_1_method_64_code
def yX8_spots : MethodName := ⟨RX8, "spots", "(I)I"⟩
abbrev cX8_stations : ByteArray := prog_1_method_7_code
def yX8_stations : MethodName := ⟨RX8, "stations", "()I"⟩
abbrev cX8_steep : ByteArray := prog_1_method_42_code
def yX8_steep : MethodName := ⟨RX8, "steep", "(I)I"⟩
abbrev cX8_strong : ByteArray := prog_1_method_52_code
def yX8_strong : MethodName := ⟨RX8, "strong", "()I"⟩
abbrev cX8_sum : ByteArray := prog_1_method_28_code
def yX8_sum : MethodName := ⟨RX8, "sum", "()I"⟩
abbrev cX8_thick : ByteArray := prog_1_method_58_code
def yX8_thick : MethodName := ⟨RX8, "thick", "()I"⟩
abbrev cX8_undo : ByteArray := prog_1_method_77_code
def yX8_undo : MethodName := ⟨RX8, "undo", "()I"⟩
abbrev cX8_volts : ByteArray := prog_1_method_13_code
def yX8_volts : MethodName := ⟨RX8, "volts", "(III)J"⟩
abbrev cX8_weakest : ByteArray := prog_1_method_51_code
def yX8_weakest : MethodName := ⟨RX8, "weakest", "()I"⟩
abbrev cX8_wets : ByteArray := prog_1_method_8_code
def yX8_wets : MethodName := ⟨RX8, "wets", "()I"⟩
abbrev cX8_when : ByteArray := prog_1_method_21_code
def yX8_when : MethodName := ⟨RX8, "when", "(I)I"⟩
abbrev cX8_whole : ByteArray := prog_1_method_14_code
def yX8_whole : MethodName := ⟨RX8, "whole", "(II)I"⟩
abbrev cX8_wire : ByteArray := prog_1_method_4_code
def yX8_wire : MethodName := ⟨RX8, "wire", "()I"⟩
abbrev cX8_without : ByteArray := prog_1_method_46_code
def yX8_without : MethodName := ⟨RX8, "without", "(I)I"⟩
abbrev cX8_worst : ByteArray := prog_1_method_29_code
def yX8_worst : MethodName := ⟨RX8, "worst", "(I)I"⟩
abbrev cX8_worth : ByteArray := prog_1_method_69_code
def yX8_worth : MethodName := ⟨RX8, "worth", "(I)I"⟩
abbrev cX8_write : ByteArray := prog_1_method_86_code
def yX8_write : MethodName := ⟨RX8, "write", "(IIJ)I"⟩
abbrev cX9_all : ByteArray := prog_11_method_101_code
def yX9_all : MethodName := ⟨RX9, "all", "()I"⟩
abbrev cX9_amps : ByteArray := prog_11_method_61_code
def yX9_amps : MethodName := ⟨RX9, "amps", "(II)J"⟩
abbrev cX9_anew : ByteArray := prog_11_method_155_code
def yX9_anew : MethodName := ⟨RX9, "anew", "()I"⟩
abbrev cX9_apart : ByteArray := prog_11_method_94_code
def yX9_apart : MethodName := ⟨RX9, "apart", "(II)I"⟩
abbrev cX9_areTwo : ByteArray := prog_11_method_139_code
def yX9_areTwo : MethodName := ⟨RX9, "areTwo", "(II)Z"⟩
abbrev cX9_ask : ByteArray := prog_11_method_127_code
def yX9_ask : MethodName := ⟨RX9, "ask", "(II)I"⟩
abbrev cX9_back : ByteArray := prog_11_method_159_code
def yX9_back : MethodName := ⟨RX9, "back", "(I)I"⟩
abbrev cX9_batteries : ByteArray := prog_11_method_113_code
def yX9_batteries : MethodName := ⟨RX9, "batteries", "()I"⟩
abbrev cX9_battery : ByteArray := prog_11_method_112_code
def yX9_battery : MethodName := ⟨RX9, "battery", "(I)I"⟩
abbrev cX9_begins : ByteArray := prog_11_method_22_code
def yX9_begins : MethodName := ⟨RX9, "begins", "()V"⟩
abbrev cX9_best : ByteArray := prog_11_method_117_code
def yX9_best : MethodName := ⟨RX9, "best", "()I"⟩
abbrev cX9_both : ByteArray := prog_11_method_93_code
def yX9_both : MethodName := ⟨RX9, "both", "(II)I"⟩
abbrev cX9_breaks : ByteArray := prog_11_method_130_code
def yX9_breaks : MethodName := ⟨RX9, "breaks", "(I)I"⟩
abbrev cX9_bright : ByteArray := prog_11_method_81_code
def yX9_bright : MethodName := ⟨RX9, "bright", "()I"⟩
abbrev cX9_by : ByteArray := prog_11_method_133_code
def yX9_by : MethodName := ⟨RX9, "by", "(I)I"⟩
abbrev cX9_chance : ByteArray := prog_11_method_145_code
def yX9_chance : MethodName := ⟨RX9, "chance", "(III)I"⟩
abbrev cX9_changes : ByteArray := prog_11_method_99_code
def yX9_changes : MethodName := ⟨RX9, "changes", "()I"⟩
abbrev cX9_clear : ByteArray := prog_11_method_77_code
def yX9_clear : MethodName := ⟨RX9, "clear", "()I"⟩
abbrev cX9_clears : ByteArray := prog_11_method_30_code
def yX9_clears : MethodName := ⟨RX9, "clears", "()V"⟩
abbrev cX9_copyRow : ByteArray := prog_11_method_32_code
def yX9_copyRow : MethodName := ⟨RX9, "copyRow", "([IIII)V"⟩
abbrev cX9_copyWire : ByteArray := prog_11_method_33_code
def yX9_copyWire : MethodName := ⟨RX9, "copyWire", "(II)V"⟩
abbrev cX9_count : ByteArray := prog_11_method_157_code
def yX9_count : MethodName := ⟨RX9, "count", "(I)I"⟩
abbrev cX9_cupped : ByteArray := prog_11_method_103_code
def yX9_cupped : MethodName := ⟨RX9, "cupped", "(II)I"⟩
abbrev cX9_cups : ByteArray := prog_11_method_152_code
def yX9_cups : MethodName := ⟨RX9, "cups", "(II)I"⟩
abbrev cX9_cure : ByteArray := prog_11_method_115_code
def yX9_cure : MethodName := ⟨RX9, "cure", "(I)I"⟩
abbrev cX9_cures : ByteArray := prog_11_method_116_code
def yX9_cures : MethodName := ⟨RX9, "cures", "(I)I"⟩
abbrev cX9_damp : ByteArray := prog_11_method_84_code
def yX9_damp : MethodName := ⟨RX9, "damp", "(II)I"⟩
abbrev cX9_deaf : ByteArray := prog_11_method_74_code
def yX9_deaf : MethodName := ⟨RX9, "deaf", "(I)I"⟩
abbrev cX9_dim : ByteArray := prog_11_method_80_code
def yX9_dim : MethodName := ⟨RX9, "dim", "()I"⟩
abbrev cX9_drawn : ByteArray := prog_11_method_149_code
def yX9_drawn : MethodName := ⟨RX9, "drawn", "(II)I"⟩
abbrev cX9_dry : ByteArray := prog_11_method_87_code
def yX9_dry : MethodName := ⟨RX9, "dry", "()I"⟩
abbrev cX9_earth : ByteArray := prog_11_method_66_code
def yX9_earth : MethodName := ⟨RX9, "earth", "(III)J"⟩
abbrev cX9_end : ByteArray := prog_11_method_11_code
def yX9_end : MethodName := ⟨RX9, "end", "(I)I"⟩
abbrev cX9_ends : ByteArray := prog_11_method_90_code
def yX9_ends : MethodName := ⟨RX9, "ends", "(I)I"⟩
abbrev cX9_faint : ByteArray := prog_11_method_71_code
def yX9_faint : MethodName := ⟨RX9, "faint", "(I)I"⟩
abbrev cX9_falls : ByteArray := prog_11_method_65_code
def yX9_falls : MethodName := ⟨RX9, "falls", "(III)J"⟩
abbrev cX9_fault : ByteArray := prog_11_method_24_code
def yX9_fault : MethodName := ⟨RX9, "fault", "(I)I"⟩
abbrev cX9_feed : ByteArray := prog_11_method_9_code
def yX9_feed : MethodName := ⟨RX9, "feed", "(IIIII)I"⟩
abbrev cX9_fits : ByteArray := prog_11_method_124_code
def yX9_fits : MethodName := ⟨RX9, "fits", "(II)I"⟩
abbrev cX9_flips : ByteArray := prog_11_method_76_code
def yX9_flips : MethodName := ⟨RX9, "flips", "(I)I"⟩
abbrev cX9_four : ByteArray := prog_11_method_10_code
def yX9_four : MethodName := ⟨RX9, "four", "(I)V"⟩
abbrev cX9_gets : ByteArray := prog_11_method_141_code
def yX9_gets : MethodName := ⟨RX9, "gets", "(IIII)I"⟩
abbrev cX9_grounds : ByteArray := prog_11_method_96_code
def yX9_grounds : MethodName := ⟨RX9, "grounds", "(I)I"⟩
abbrev cX9_half : ByteArray := prog_11_method_95_code
def yX9_half : MethodName := ⟨RX9, "half", "(I)I"⟩
abbrev cX9_hears : ByteArray := prog_11_method_68_code
def yX9_hears : MethodName := ⟨RX9, "hears", "(I)I"⟩
abbrev cX9_high : ByteArray := prog_11_method_126_code
def yX9_high : MethodName := ⟨RX9, "high", "(II)I"⟩
abbrev cX9_image : ByteArray := prog_11_method_158_code
def yX9_image : MethodName := ⟨RX9, "image", "(I)I"⟩
abbrev cX9_in : ByteArray := prog_11_method_3_code
def yX9_in : MethodName := ⟨RX9, "in", "(JJJ)Z"⟩
abbrev cX9_init : ByteArray := prog_11_method_1_code
def yX9_init : MethodName := ⟨RX9, "<init>", "()V"⟩
abbrev cX9_isByte : ByteArray := prog_11_method_12_code
def yX9_isByte : MethodName := ⟨RX9, "isByte", "(III)Z"⟩
abbrev cX9_isDay : ByteArray := prog_11_method_39_code
def yX9_isDay : MethodName := ⟨RX9, "isDay", "(J)Z"⟩
abbrev cX9_isGood : ByteArray := prog_11_method_14_code
def yX9_isGood : MethodName := ⟨RX9, "isGood", "()Z"⟩
abbrev cX9_isOf : ByteArray := prog_11_method_62_code
def yX9_isOf : MethodName := ⟨RX9, "isOf", "(III)Z"⟩
abbrev cX9_isOver : ByteArray := prog_11_method_23_code
def yX9_isOver : MethodName := ⟨RX9, "isOver", "()V"⟩
abbrev cX9_isSeed : ByteArray := prog_11_method_148_code
def yX9_isSeed : MethodName := ⟨RX9, "isSeed", "(I)Z"⟩
abbrev cX9_isSlot : ByteArray := prog_11_method_4_code
def yX9_isSlot : MethodName := ⟨RX9, "isSlot", "(I)Z"⟩
abbrev cX9_isSoon : ByteArray := prog_11_method_144_code
def yX9_isSoon : MethodName := ⟨RX9, "isSoon", "(I)Z"⟩
abbrev cX9_isSpan : ByteArray := prog_11_method_37_code
def yX9_isSpan : MethodName := ⟨RX9, "isSpan", "(I)Z"⟩
abbrev cX9_isStation : ByteArray := prog_11_method_38_code
def yX9_isStation : MethodName := ⟨RX9, "isStation", "(I)Z"⟩
abbrev cX9_isWire : ByteArray := prog_11_method_34_code
def yX9_isWire : MethodName := ⟨RX9, "isWire", "()Z"⟩
abbrev cX9_joined : ByteArray := prog_11_method_59_code
def yX9_joined : MethodName := ⟨RX9, "joined", "(I)I"⟩
abbrev cX9_lack : ByteArray := prog_11_method_105_code
def yX9_lack : MethodName := ⟨RX9, "lack", "(I)I"⟩
abbrev cX9_last : ByteArray := prog_11_method_78_code
def yX9_last : MethodName := ⟨RX9, "last", "()I"⟩
abbrev cX9_law : ByteArray := prog_11_method_134_code
def yX9_law : MethodName := ⟨RX9, "law", "()I"⟩
abbrev cX9_laws : ByteArray := prog_11_method_131_code
def yX9_laws : MethodName := ⟨RX9, "laws", "(I)I"⟩
abbrev cX9_leak : ByteArray := prog_11_method_58_code
def yX9_leak : MethodName := ⟨RX9, "leak", "(II)I"⟩
abbrev cX9_leaves : ByteArray := prog_11_method_128_code
def yX9_leaves : MethodName := ⟨RX9, "leaves", "(II)I"⟩
abbrev cX9_longest : ByteArray := prog_11_method_75_code
def yX9_longest : MethodName := ⟨RX9, "longest", "(I)I"⟩
abbrev cX9_loud : ByteArray := prog_11_method_106_code
def yX9_loud : MethodName := ⟨RX9, "loud", "(I)I"⟩
abbrev cX9_low : ByteArray := prog_11_method_125_code
def yX9_low : MethodName := ⟨RX9, "low", "(II)I"⟩
abbrev cX9_luck : ByteArray := prog_11_method_150_code
def yX9_luck : MethodName := ⟨RX9, "luck", "(III)I"⟩
abbrev cX9_margin : ByteArray := prog_11_method_88_code
def yX9_margin : MethodName := ⟨RX9, "margin", "(II)I"⟩
abbrev cX9_mean : ByteArray := prog_11_method_146_code
def yX9_mean : MethodName := ⟨RX9, "mean", "(II)J"⟩
abbrev cX9_mute : ByteArray := prog_11_method_98_code
def yX9_mute : MethodName := ⟨RX9, "mute", "()I"⟩
abbrev cX9_next : ByteArray := prog_11_method_13_code
def yX9_next : MethodName := ⟨RX9, "next", "()V"⟩
abbrev cX9_ohms : ByteArray := prog_11_method_60_code
def yX9_ohms : MethodName := ⟨RX9, "ohms", "(II)J"⟩
abbrev cX9_paste : ByteArray := prog_11_method_8_code
def yX9_paste : MethodName := ⟨RX9, "paste", "(IIIII)I"⟩
abbrev cX9_rate : ByteArray := prog_11_method_156_code
def yX9_rate : MethodName := ⟨RX9, "rate", "(II)I"⟩
abbrev cX9_reach : ByteArray := prog_11_method_91_code
def yX9_reach : MethodName := ⟨RX9, "reach", "(I)I"⟩
abbrev cX9_rests : ByteArray := prog_11_method_140_code
def yX9_rests : MethodName := ⟨RX9, "rests", "(II)I"⟩
abbrev cX9_rises : ByteArray := prog_11_method_89_code
def yX9_rises : MethodName := ⟨RX9, "rises", "(I)I"⟩
abbrev cX9_row : ByteArray := prog_11_method_5_code
def yX9_row : MethodName := ⟨RX9, "row", "(III)I"⟩
abbrev cX9_share : ByteArray := prog_11_method_137_code
def yX9_share : MethodName := ⟨RX9, "share", "(II)I"⟩
abbrev cX9_silent : ByteArray := prog_11_method_69_code
def yX9_silent : MethodName := ⟨RX9, "silent", "(I)I"⟩
abbrev cX9_snapped : ByteArray := prog_11_method_104_code
def yX9_snapped : MethodName := ⟨RX9, "snapped", "(I)I"⟩
abbrev cX9_snaps : ByteArray := prog_11_method_153_code
def yX9_snaps : MethodName := ⟨RX9, "snaps", "(II)I"⟩
abbrev cX9_sore : ByteArray := prog_11_method_67_code
def yX9_sore : MethodName := ⟨RX9, "sore", "(I)I"⟩
abbrev cX9_span : ByteArray := prog_11_method_55_code
def yX9_span : MethodName := ⟨RX9, "span", "(II)I"⟩
abbrev cX9_spans : ByteArray := prog_11_method_35_code
def yX9_spans : MethodName := ⟨RX9, "spans", "()I"⟩
abbrev cX9_spell : ByteArray := prog_11_method_86_code
def yX9_spell : MethodName := ⟨RX9, "spell", "()I"⟩
abbrev cX9_spots : ByteArray := prog_11_method_129_code
def yX9_spots : MethodName := ⟨RX9, "spots", "(I)I"⟩
abbrev cX9_stations : ByteArray := prog_11_method_56_code
def yX9_stations : MethodName := ⟨RX9, "stations", "()I"⟩
abbrev cX9_steep : ByteArray := prog_11_method_97_code
def yX9_steep : MethodName := ⟨RX9, "steep", "(I)I"⟩
abbrev cX9_strong : ByteArray := prog_11_method_109_code
def yX9_strong : MethodName := ⟨RX9, "strong", "()I"⟩
abbrev cX9_sum : ByteArray := prog_11_method_82_code
def yX9_sum : MethodName := ⟨RX9, "sum", "()I"⟩
abbrev cX9_tells : ByteArray := prog_11_method_26_code
def yX9_tells : MethodName := ⟨RX9, "tells", "(II)V"⟩
abbrev cX9_thick : ByteArray := prog_11_method_118_code
def yX9_thick : MethodName := ⟨RX9, "thick", "()I"⟩
abbrev cX9_undo : ByteArray := prog_11_method_154_code
def yX9_undo : MethodName := ⟨RX9, "undo", "()I"⟩
abbrev cX9_volts : ByteArray := prog_11_method_63_code
def yX9_volts : MethodName := ⟨RX9, "volts", "(III)J"⟩
abbrev cX9_weakest : ByteArray := prog_11_method_108_code
def yX9_weakest : MethodName := ⟨RX9, "weakest", "()I"⟩
abbrev cX9_wets : ByteArray := prog_11_method_57_code
def yX9_wets : MethodName := ⟨RX9, "wets", "()I"⟩
abbrev cX9_when : ByteArray := prog_11_method_73_code
def yX9_when : MethodName := ⟨RX9, "when", "(I)I"⟩
abbrev cX9_whole : ByteArray := prog_11_method_64_code
def yX9_whole : MethodName := ⟨RX9, "whole", "(II)I"⟩
abbrev cX9_whyNot : ByteArray := prog_11_method_119_code
def yX9_whyNot : MethodName := ⟨RX9, "whyNot", "(IZ)I"⟩
abbrev cX9_wire : ByteArray := prog_11_method_31_code
def yX9_wire : MethodName := ⟨RX9, "wire", "()I"⟩
abbrev cX9_without : ByteArray := prog_11_method_102_code
def yX9_without : MethodName := ⟨RX9, "without", "(I)I"⟩
abbrev cX9_worst : ByteArray := prog_11_method_83_code
def yX9_worst : MethodName := ⟨RX9, "worst", "(I)I"⟩
abbrev cX9_worth : ByteArray := prog_11_method_135_code
def yX9_worth : MethodName := ⟨RX9, "worth", "(I)I"⟩
abbrev cX9_write : ByteArray := prog_11_method_7_code
def yX9_write : MethodName := ⟨RX9, "write", "(IIJ)I"⟩
theorem w_0 : Cond.selects RX7 yX7_add yX7_add ∈ lw_ok := List.mem_filter.mpr ⟨List.mem_of_getElem? (i := 0) (by decide +kernel), rfl⟩
theorem w_1 : Cond.selects RX6 yX6_step yX6_step ∈ lw_ok := List.mem_filter.mpr ⟨List.mem_of_getElem? (i := 1) (by decide +kernel), rfl⟩
theorem w_10 : Cond.selects RX8 yX8_isPole yX8_isPole ∈ lw_ok := List.mem_filter.mpr ⟨List.mem_of_getElem? (i := 10) (by decide +kernel), rfl⟩
theorem w_11 : Cond.selects RX8 yX8_isTold yX8_isTold ∈ lw_ok := List.mem_filter.mpr ⟨List.mem_of_getElem? (i := 11) (by decide +kernel), rfl⟩
theorem w_12 : Cond.selects RX8 yX8_isDay yX8_isDay ∈ lw_ok := List.mem_filter.mpr ⟨List.mem_of_getElem? (i := 12) (by decide +kernel), rfl⟩
theorem w_19 : Cond.selects RX8 yX8_isStation yX8_isStation ∈ lw_ok := List.mem_filter.mpr ⟨List.mem_of_getElem? (i := 19) (by decide +kernel), rfl⟩
theorem w_32 : Cond.selects RX8 yX8_refusalOfSeen yX8_refusalOfSeen ∈ lw_ok := List.mem_filter.mpr ⟨List.mem_of_getElem? (i := 32) (by decide +kernel), rfl⟩
theorem w_33 : Cond.selects RX8 yX8_refusalOfRow yX8_refusalOfRow ∈ lw_ok := List.mem_filter.mpr ⟨List.mem_of_getElem? (i := 33) (by decide +kernel), rfl⟩
theorem w_42 : Cond.selects RX8 yX8_isChanceDay yX8_isChanceDay ∈ lw_ok := List.mem_filter.mpr ⟨List.mem_of_getElem? (i := 42) (by decide +kernel), rfl⟩
theorem w_46 : Cond.selects RX9 yX9_four yX9_four ∈ lw_ok := List.mem_filter.mpr ⟨List.mem_of_getElem? (i := 46) (by decide +kernel), rfl⟩
theorem w_47 : Cond.selects RX9 yX9_clears yX9_clears ∈ lw_ok := List.mem_filter.mpr ⟨List.mem_of_getElem? (i := 47) (by decide +kernel), rfl⟩
theorem w_48 : Cond.selects RX9 yX9_tells yX9_tells ∈ lw_ok := List.mem_filter.mpr ⟨List.mem_of_getElem? (i := 48) (by decide +kernel), rfl⟩
theorem w_49 : Cond.selects RX9 yX9_begins yX9_begins ∈ lw_ok := List.mem_filter.mpr ⟨List.mem_of_getElem? (i := 49) (by decide +kernel), rfl⟩
theorem w_50 : Cond.selects RX9 yX9_next yX9_next ∈ lw_ok := List.mem_filter.mpr ⟨List.mem_of_getElem? (i := 50) (by decide +kernel), rfl⟩
theorem w_51 : Cond.selects RX9 yX9_isByte yX9_isByte ∈ lw_ok := List.mem_filter.mpr ⟨List.mem_of_getElem? (i := 51) (by decide +kernel), rfl⟩
theorem w_52 : Cond.selects RX9 yX9_isGood yX9_isGood ∈ lw_ok := List.mem_filter.mpr ⟨List.mem_of_getElem? (i := 52) (by decide +kernel), rfl⟩
theorem w_64 : Cond.selects RX9 yX9_isOver yX9_isOver ∈ lw_ok := List.mem_filter.mpr ⟨List.mem_of_getElem? (i := 64) (by decide +kernel), rfl⟩
theorem w_65 : Cond.selects RX9 yX9_copyWire yX9_copyWire ∈ lw_ok := List.mem_filter.mpr ⟨List.mem_of_getElem? (i := 65) (by decide +kernel), rfl⟩
theorem w_66 : Cond.selects RX9 yX9_isSpan yX9_isSpan ∈ lw_ok := List.mem_filter.mpr ⟨List.mem_of_getElem? (i := 66) (by decide +kernel), rfl⟩
theorem w_67 : Cond.selects RX9 yX9_spans yX9_spans ∈ lw_ok := List.mem_filter.mpr ⟨List.mem_of_getElem? (i := 67) (by decide +kernel), rfl⟩
theorem w_68 : Cond.selects RX9 yX9_isWire yX9_isWire ∈ lw_ok := List.mem_filter.mpr ⟨List.mem_of_getElem? (i := 68) (by decide +kernel), rfl⟩
theorem w_70 : Cond.selects RX9 yX9_isStation yX9_isStation ∈ lw_ok := List.mem_filter.mpr ⟨List.mem_of_getElem? (i := 70) (by decide +kernel), rfl⟩
theorem w_73 : Cond.selects RX9 yX9_isDay yX9_isDay ∈ lw_ok := List.mem_filter.mpr ⟨List.mem_of_getElem? (i := 73) (by decide +kernel), rfl⟩
theorem w_78 : Cond.selects RX9 yX9_isOf yX9_isOf ∈ lw_ok := List.mem_filter.mpr ⟨List.mem_of_getElem? (i := 78) (by decide +kernel), rfl⟩
theorem w_92 : Cond.selects RX9 yX9_whyNot yX9_whyNot ∈ lw_ok := List.mem_filter.mpr ⟨List.mem_of_getElem? (i := 92) (by decide +kernel), rfl⟩
theorem w_98 : Cond.selects RX9 yX9_areTwo yX9_areTwo ∈ lw_ok := List.mem_filter.mpr ⟨List.mem_of_getElem? (i := 98) (by decide +kernel), rfl⟩
theorem w_100 : Cond.selects RX9 yX9_isSoon yX9_isSoon ∈ lw_ok := List.mem_filter.mpr ⟨List.mem_of_getElem? (i := 100) (by decide +kernel), rfl⟩
theorem w_105 : Cond.initialized RX8 ∈ lw_ok := List.mem_filter.mpr ⟨List.mem_of_getElem? (i := 105) (by decide +kernel), rfl⟩
theorem w_106 : Cond.initialized RX5 ∈ lw_ok := List.mem_filter.mpr ⟨List.mem_of_getElem? (i := 106) (by decide +kernel), rfl⟩
theorem w_107 : Cond.initialized RX7 ∈ lw_ok := List.mem_filter.mpr ⟨List.mem_of_getElem? (i := 107) (by decide +kernel), rfl⟩
theorem w_108 : Cond.initialized RX6 ∈ lw_ok := List.mem_filter.mpr ⟨List.mem_of_getElem? (i := 108) (by decide +kernel), rfl⟩
theorem w_109 : Cond.initialized RX2 ∈ lw_ok := List.mem_filter.mpr ⟨List.mem_of_getElem? (i := 109) (by decide +kernel), rfl⟩
theorem w_110 : Cond.initialized RX3 ∈ lw_ok := List.mem_filter.mpr ⟨List.mem_of_getElem? (i := 110) (by decide +kernel), rfl⟩
theorem w_111 : Cond.initialized RX4 ∈ lw_ok := List.mem_filter.mpr ⟨List.mem_of_getElem? (i := 111) (by decide +kernel), rfl⟩
theorem w_112 : Cond.initialized RX1 ∈ lw_ok := List.mem_filter.mpr ⟨List.mem_of_getElem? (i := 112) (by decide +kernel), rfl⟩
theorem w_113 : Cond.initialized RX0 ∈ lw_ok := List.mem_filter.mpr ⟨List.mem_of_getElem? (i := 113) (by decide +kernel), rfl⟩
theorem w_114 : Cond.initialized RX9 ∈ lw_ok := List.mem_filter.mpr ⟨List.mem_of_getElem? (i := 114) (by decide +kernel), rfl⟩
theorem w_119 : Cond.initialized RJ9 ∈ lw_ok := List.mem_filter.mpr ⟨List.mem_of_getElem? (i := 119) (by decide +kernel), rfl⟩
theorem w_120 : Cond.initialized RJ7 ∈ lw_ok := List.mem_filter.mpr ⟨List.mem_of_getElem? (i := 120) (by decide +kernel), rfl⟩
theorem w_121 : Cond.initialized RJ10 ∈ lw_ok := List.mem_filter.mpr ⟨List.mem_of_getElem? (i := 121) (by decide +kernel), rfl⟩
theorem w_128 : Cond.methodLink RX8 1 objectInit ∈ lw_ok := List.mem_filter.mpr ⟨List.mem_of_getElem? (i := 128) (by decide +kernel), rfl⟩
theorem w_129 : Cond.instanceMethod objectInit ∈ lw_ok := List.mem_filter.mpr ⟨List.mem_of_getElem? (i := 129) (by decide +kernel), rfl⟩
theorem w_130 : Cond.code objectInit ⟨#[0xb1]⟩ 1 none ∈ lw_ok := List.mem_filter.mpr ⟨List.mem_of_getElem? (i := 130) (by decide +kernel), rfl⟩
theorem w_131 : Cond.classLink RX8 7 RX5 ∈ lw_ok := List.mem_filter.mpr ⟨List.mem_of_getElem? (i := 131) (by decide +kernel), rfl⟩
theorem w_132 : Cond.instantiable RX5 2 ∈ lw_ok := List.mem_filter.mpr ⟨List.mem_of_getElem? (i := 132) (by decide +kernel), rfl⟩
theorem w_134 : Cond.instanceMethod yX5_init ∈ lw_ok := List.mem_filter.mpr ⟨List.mem_of_getElem? (i := 134) (by decide +kernel), rfl⟩
theorem w_135 : Cond.code yX5_init cX5_init 1 none ∈ lw_ok := List.mem_filter.mpr ⟨List.mem_of_getElem? (i := 135) (by decide +kernel), rfl⟩
theorem w_136 : Cond.methodLink RX5 3 objectInit ∈ lw_ok := List.mem_filter.mpr ⟨List.mem_of_getElem? (i := 136) (by decide +kernel), rfl⟩
theorem w_137 : Cond.fieldLink RX5 9 "LeakyLine$Tape" "bytes" "[B" ∈ lw_ok := List.mem_filter.mpr ⟨List.mem_of_getElem? (i := 137) (by decide +kernel), rfl⟩
theorem w_138 : Cond.fieldLink RX5 15 "LeakyLine$Tape" "length" "I" ∈ lw_ok := List.mem_filter.mpr ⟨List.mem_of_getElem? (i := 138) (by decide +kernel), rfl⟩
theorem w_139 : Cond.fieldLink RX8 93 "LeakyLine$Tape" "length" "I" ∈ lw_ok := List.mem_filter.mpr ⟨List.mem_of_getElem? (i := 139) (by decide +kernel), rfl⟩
theorem w_140 : Cond.fieldLink RX7 25 "LeakyLine$Tape" "length" "I" ∈ lw_ok := List.mem_filter.mpr ⟨List.mem_of_getElem? (i := 140) (by decide +kernel), rfl⟩
theorem w_146 : Cond.arrayClass (.byte) ∈ lw_ok := List.mem_filter.mpr ⟨List.mem_of_getElem? (i := 146) (by decide +kernel), rfl⟩
theorem w_147 : Cond.classLink RX8 16 RX7 ∈ lw_ok := List.mem_filter.mpr ⟨List.mem_of_getElem? (i := 147) (by decide +kernel), rfl⟩
theorem w_148 : Cond.instantiable RX7 4 ∈ lw_ok := List.mem_filter.mpr ⟨List.mem_of_getElem? (i := 148) (by decide +kernel), rfl⟩
theorem w_150 : Cond.instanceMethod yX7_init ∈ lw_ok := List.mem_filter.mpr ⟨List.mem_of_getElem? (i := 150) (by decide +kernel), rfl⟩
theorem w_151 : Cond.code yX7_init cX7_init 1 none ∈ lw_ok := List.mem_filter.mpr ⟨List.mem_of_getElem? (i := 151) (by decide +kernel), rfl⟩
theorem w_152 : Cond.methodLink RX7 3 objectInit ∈ lw_ok := List.mem_filter.mpr ⟨List.mem_of_getElem? (i := 152) (by decide +kernel), rfl⟩
theorem w_153 : Cond.fieldLink RX7 9 "LeakyLine$Tokens" "kinds" "[I" ∈ lw_ok := List.mem_filter.mpr ⟨List.mem_of_getElem? (i := 153) (by decide +kernel), rfl⟩
theorem w_154 : Cond.fieldLink RX6 104 "LeakyLine$Tokens" "kinds" "[I" ∈ lw_ok := List.mem_filter.mpr ⟨List.mem_of_getElem? (i := 154) (by decide +kernel), rfl⟩
theorem w_155 : Cond.fieldLink RX7 15 "LeakyLine$Tokens" "places" "[I" ∈ lw_ok := List.mem_filter.mpr ⟨List.mem_of_getElem? (i := 155) (by decide +kernel), rfl⟩
theorem w_156 : Cond.fieldLink RX6 107 "LeakyLine$Tokens" "places" "[I" ∈ lw_ok := List.mem_filter.mpr ⟨List.mem_of_getElem? (i := 156) (by decide +kernel), rfl⟩
theorem w_157 : Cond.fieldLink RX7 18 "LeakyLine$Tokens" "values" "[I" ∈ lw_ok := List.mem_filter.mpr ⟨List.mem_of_getElem? (i := 157) (by decide +kernel), rfl⟩
theorem w_158 : Cond.fieldLink RX6 110 "LeakyLine$Tokens" "values" "[I" ∈ lw_ok := List.mem_filter.mpr ⟨List.mem_of_getElem? (i := 158) (by decide +kernel), rfl⟩
theorem w_159 : Cond.fieldLink RX7 21 "LeakyLine$Tokens" "size" "I" ∈ lw_ok := List.mem_filter.mpr ⟨List.mem_of_getElem? (i := 159) (by decide +kernel), rfl⟩
theorem w_160 : Cond.fieldLink RX6 34 "LeakyLine$Tokens" "size" "I" ∈ lw_ok := List.mem_filter.mpr ⟨List.mem_of_getElem? (i := 160) (by decide +kernel), rfl⟩
theorem w_170 : Cond.arrayClass (.int) ∈ lw_ok := List.mem_filter.mpr ⟨List.mem_of_getElem? (i := 170) (by decide +kernel), rfl⟩
theorem w_171 : Cond.classLink RX8 23 RX6 ∈ lw_ok := List.mem_filter.mpr ⟨List.mem_of_getElem? (i := 171) (by decide +kernel), rfl⟩
theorem w_172 : Cond.instantiable RX6 5 ∈ lw_ok := List.mem_filter.mpr ⟨List.mem_of_getElem? (i := 172) (by decide +kernel), rfl⟩
theorem w_174 : Cond.instanceMethod yX6_init ∈ lw_ok := List.mem_filter.mpr ⟨List.mem_of_getElem? (i := 174) (by decide +kernel), rfl⟩
theorem w_175 : Cond.code yX6_init cX6_init 1 none ∈ lw_ok := List.mem_filter.mpr ⟨List.mem_of_getElem? (i := 175) (by decide +kernel), rfl⟩
theorem w_176 : Cond.methodLink RX6 3 objectInit ∈ lw_ok := List.mem_filter.mpr ⟨List.mem_of_getElem? (i := 176) (by decide +kernel), rfl⟩
theorem w_177 : Cond.fieldLink RX6 9 "LeakyLine$Teller" "fault" "I" ∈ lw_ok := List.mem_filter.mpr ⟨List.mem_of_getElem? (i := 177) (by decide +kernel), rfl⟩
theorem w_178 : Cond.fieldLink RX8 108 "LeakyLine$Teller" "fault" "I" ∈ lw_ok := List.mem_filter.mpr ⟨List.mem_of_getElem? (i := 178) (by decide +kernel), rfl⟩
theorem w_179 : Cond.fieldLink RX6 15 "LeakyLine$Teller" "place" "I" ∈ lw_ok := List.mem_filter.mpr ⟨List.mem_of_getElem? (i := 179) (by decide +kernel), rfl⟩
theorem w_181 : Cond.fieldLink RX6 18 "LeakyLine$Teller" "next" "I" ∈ lw_ok := List.mem_filter.mpr ⟨List.mem_of_getElem? (i := 181) (by decide +kernel), rfl⟩
theorem w_182 : Cond.fieldLink RX6 23 "LeakyLine$Teller" "kind" "I" ∈ lw_ok := List.mem_filter.mpr ⟨List.mem_of_getElem? (i := 182) (by decide +kernel), rfl⟩
theorem w_183 : Cond.fieldLink RX6 26 "LeakyLine$Teller" "value" "I" ∈ lw_ok := List.mem_filter.mpr ⟨List.mem_of_getElem? (i := 183) (by decide +kernel), rfl⟩
theorem w_195 : Cond.classLink RX8 30 RX2 ∈ lw_ok := List.mem_filter.mpr ⟨List.mem_of_getElem? (i := 195) (by decide +kernel), rfl⟩
theorem w_196 : Cond.instantiable RX2 17 ∈ lw_ok := List.mem_filter.mpr ⟨List.mem_of_getElem? (i := 196) (by decide +kernel), rfl⟩
theorem w_198 : Cond.instanceMethod yX2_init ∈ lw_ok := List.mem_filter.mpr ⟨List.mem_of_getElem? (i := 198) (by decide +kernel), rfl⟩
theorem w_199 : Cond.code yX2_init cX2_init 1 none ∈ lw_ok := List.mem_filter.mpr ⟨List.mem_of_getElem? (i := 199) (by decide +kernel), rfl⟩
theorem w_200 : Cond.methodLink RX2 3 objectInit ∈ lw_ok := List.mem_filter.mpr ⟨List.mem_of_getElem? (i := 200) (by decide +kernel), rfl⟩
theorem w_201 : Cond.fieldLink RX2 9 "LeakyLine$Line" "lines" "I" ∈ lw_ok := List.mem_filter.mpr ⟨List.mem_of_getElem? (i := 201) (by decide +kernel), rfl⟩
theorem w_203 : Cond.fieldLink RX8 118 "LeakyLine$Line" "lines" "I" ∈ lw_ok := List.mem_filter.mpr ⟨List.mem_of_getElem? (i := 203) (by decide +kernel), rfl⟩
theorem w_204 : Cond.fieldLink RX2 15 "LeakyLine$Line" "days" "I" ∈ lw_ok := List.mem_filter.mpr ⟨List.mem_of_getElem? (i := 204) (by decide +kernel), rfl⟩
theorem w_206 : Cond.fieldLink RX8 242 "LeakyLine$Line" "days" "I" ∈ lw_ok := List.mem_filter.mpr ⟨List.mem_of_getElem? (i := 206) (by decide +kernel), rfl⟩
theorem w_207 : Cond.fieldLink RX2 18 "LeakyLine$Line" "law" "I" ∈ lw_ok := List.mem_filter.mpr ⟨List.mem_of_getElem? (i := 207) (by decide +kernel), rfl⟩
theorem w_210 : Cond.fieldLink RX8 354 "LeakyLine$Line" "law" "I" ∈ lw_ok := List.mem_filter.mpr ⟨List.mem_of_getElem? (i := 210) (by decide +kernel), rfl⟩
theorem w_211 : Cond.fieldLink RX2 21 "LeakyLine$Line" "odds" "I" ∈ lw_ok := List.mem_filter.mpr ⟨List.mem_of_getElem? (i := 211) (by decide +kernel), rfl⟩
theorem w_213 : Cond.fieldLink RX8 355 "LeakyLine$Line" "odds" "I" ∈ lw_ok := List.mem_filter.mpr ⟨List.mem_of_getElem? (i := 213) (by decide +kernel), rfl⟩
theorem w_214 : Cond.fieldLink RX2 24 "LeakyLine$Line" "volts" "I" ∈ lw_ok := List.mem_filter.mpr ⟨List.mem_of_getElem? (i := 214) (by decide +kernel), rfl⟩
theorem w_216 : Cond.fieldLink RX8 175 "LeakyLine$Line" "volts" "I" ∈ lw_ok := List.mem_filter.mpr ⟨List.mem_of_getElem? (i := 216) (by decide +kernel), rfl⟩
theorem w_217 : Cond.fieldLink RX2 27 "LeakyLine$Line" "spans" "I" ∈ lw_ok := List.mem_filter.mpr ⟨List.mem_of_getElem? (i := 217) (by decide +kernel), rfl⟩
theorem w_221 : Cond.fieldLink RX8 210 "LeakyLine$Line" "spans" "I" ∈ lw_ok := List.mem_filter.mpr ⟨List.mem_of_getElem? (i := 221) (by decide +kernel), rfl⟩
theorem w_222 : Cond.fieldLink RX2 30 "LeakyLine$Line" "wetLines" "I" ∈ lw_ok := List.mem_filter.mpr ⟨List.mem_of_getElem? (i := 222) (by decide +kernel), rfl⟩
theorem w_224 : Cond.fieldLink RX8 358 "LeakyLine$Line" "wetLines" "I" ∈ lw_ok := List.mem_filter.mpr ⟨List.mem_of_getElem? (i := 224) (by decide +kernel), rfl⟩
theorem w_225 : Cond.fieldLink RX2 33 "LeakyLine$Line" "wet" "I" ∈ lw_ok := List.mem_filter.mpr ⟨List.mem_of_getElem? (i := 225) (by decide +kernel), rfl⟩
theorem w_229 : Cond.fieldLink RX2 36 "LeakyLine$Line" "acts" "I" ∈ lw_ok := List.mem_filter.mpr ⟨List.mem_of_getElem? (i := 229) (by decide +kernel), rfl⟩
theorem w_230 : Cond.fieldLink RX8 335 "LeakyLine$Line" "acts" "I" ∈ lw_ok := List.mem_filter.mpr ⟨List.mem_of_getElem? (i := 230) (by decide +kernel), rfl⟩
theorem w_231 : Cond.fieldLink RX2 39 "LeakyLine$Line" "ohms" "[I" ∈ lw_ok := List.mem_filter.mpr ⟨List.mem_of_getElem? (i := 231) (by decide +kernel), rfl⟩
theorem w_235 : Cond.fieldLink RX2 43 "LeakyLine$Line" "leaks" "[I" ∈ lw_ok := List.mem_filter.mpr ⟨List.mem_of_getElem? (i := 235) (by decide +kernel), rfl⟩
theorem w_239 : Cond.fieldLink RX2 46 "LeakyLine$Line" "needs" "[I" ∈ lw_ok := List.mem_filter.mpr ⟨List.mem_of_getElem? (i := 239) (by decide +kernel), rfl⟩
theorem w_242 : Cond.fieldLink RX2 49 "LeakyLine$Line" "kinds" "[I" ∈ lw_ok := List.mem_filter.mpr ⟨List.mem_of_getElem? (i := 242) (by decide +kernel), rfl⟩
theorem w_243 : Cond.fieldLink RX2 52 "LeakyLine$Line" "places" "[I" ∈ lw_ok := List.mem_filter.mpr ⟨List.mem_of_getElem? (i := 243) (by decide +kernel), rfl⟩
theorem w_244 : Cond.fieldLink RX2 55 "LeakyLine$Line" "actDays" "[I" ∈ lw_ok := List.mem_filter.mpr ⟨List.mem_of_getElem? (i := 244) (by decide +kernel), rfl⟩
theorem w_245 : Cond.fieldLink RX2 58 "LeakyLine$Line" "cupDays" "[I" ∈ lw_ok := List.mem_filter.mpr ⟨List.mem_of_getElem? (i := 245) (by decide +kernel), rfl⟩
theorem w_246 : Cond.fieldLink RX2 61 "LeakyLine$Line" "snapDays" "[I" ∈ lw_ok := List.mem_filter.mpr ⟨List.mem_of_getElem? (i := 246) (by decide +kernel), rfl⟩
theorem w_283 : Cond.classLink RX8 44 RX3 ∈ lw_ok := List.mem_filter.mpr ⟨List.mem_of_getElem? (i := 283) (by decide +kernel), rfl⟩
theorem w_284 : Cond.instantiable RX3 3 ∈ lw_ok := List.mem_filter.mpr ⟨List.mem_of_getElem? (i := 284) (by decide +kernel), rfl⟩
theorem w_286 : Cond.instanceMethod yX3_init ∈ lw_ok := List.mem_filter.mpr ⟨List.mem_of_getElem? (i := 286) (by decide +kernel), rfl⟩
theorem w_287 : Cond.code yX3_init cX3_init 1 none ∈ lw_ok := List.mem_filter.mpr ⟨List.mem_of_getElem? (i := 287) (by decide +kernel), rfl⟩
theorem w_288 : Cond.methodLink RX3 3 objectInit ∈ lw_ok := List.mem_filter.mpr ⟨List.mem_of_getElem? (i := 288) (by decide +kernel), rfl⟩
theorem w_289 : Cond.fieldLink RX3 9 "LeakyLine$Slots" "numbers" "[J" ∈ lw_ok := List.mem_filter.mpr ⟨List.mem_of_getElem? (i := 289) (by decide +kernel), rfl⟩
theorem w_290 : Cond.fieldLink RX3 15 "LeakyLine$Slots" "widths" "[I" ∈ lw_ok := List.mem_filter.mpr ⟨List.mem_of_getElem? (i := 290) (by decide +kernel), rfl⟩
theorem w_292 : Cond.fieldLink RX3 19 "LeakyLine$Slots" "sizes" "[I" ∈ lw_ok := List.mem_filter.mpr ⟨List.mem_of_getElem? (i := 292) (by decide +kernel), rfl⟩
theorem w_301 : Cond.arrayClass (.long) ∈ lw_ok := List.mem_filter.mpr ⟨List.mem_of_getElem? (i := 301) (by decide +kernel), rfl⟩
theorem w_302 : Cond.classLink RX8 51 RX4 ∈ lw_ok := List.mem_filter.mpr ⟨List.mem_of_getElem? (i := 302) (by decide +kernel), rfl⟩
theorem w_303 : Cond.instantiable RX4 6 ∈ lw_ok := List.mem_filter.mpr ⟨List.mem_of_getElem? (i := 303) (by decide +kernel), rfl⟩
theorem w_305 : Cond.instanceMethod yX4_init ∈ lw_ok := List.mem_filter.mpr ⟨List.mem_of_getElem? (i := 305) (by decide +kernel), rfl⟩
theorem w_306 : Cond.code yX4_init cX4_init 1 none ∈ lw_ok := List.mem_filter.mpr ⟨List.mem_of_getElem? (i := 306) (by decide +kernel), rfl⟩
theorem w_307 : Cond.methodLink RX4 3 objectInit ∈ lw_ok := List.mem_filter.mpr ⟨List.mem_of_getElem? (i := 307) (by decide +kernel), rfl⟩
theorem w_308 : Cond.fieldLink RX4 9 "LeakyLine$Supposed" "law" "I" ∈ lw_ok := List.mem_filter.mpr ⟨List.mem_of_getElem? (i := 308) (by decide +kernel), rfl⟩
theorem w_310 : Cond.fieldLink RX4 15 "LeakyLine$Supposed" "wet" "I" ∈ lw_ok := List.mem_filter.mpr ⟨List.mem_of_getElem? (i := 310) (by decide +kernel), rfl⟩
theorem w_312 : Cond.fieldLink RX4 18 "LeakyLine$Supposed" "cupSet" "I" ∈ lw_ok := List.mem_filter.mpr ⟨List.mem_of_getElem? (i := 312) (by decide +kernel), rfl⟩
theorem w_314 : Cond.fieldLink RX4 21 "LeakyLine$Supposed" "broken" "I" ∈ lw_ok := List.mem_filter.mpr ⟨List.mem_of_getElem? (i := 314) (by decide +kernel), rfl⟩
theorem w_316 : Cond.fieldLink RX4 24 "LeakyLine$Supposed" "ohms" "[I" ∈ lw_ok := List.mem_filter.mpr ⟨List.mem_of_getElem? (i := 316) (by decide +kernel), rfl⟩
theorem w_319 : Cond.fieldLink RX4 28 "LeakyLine$Supposed" "leaks" "[I" ∈ lw_ok := List.mem_filter.mpr ⟨List.mem_of_getElem? (i := 319) (by decide +kernel), rfl⟩
theorem w_334 : Cond.classLink RX8 58 RX1 ∈ lw_ok := List.mem_filter.mpr ⟨List.mem_of_getElem? (i := 334) (by decide +kernel), rfl⟩
theorem w_335 : Cond.instantiable RX1 5 ∈ lw_ok := List.mem_filter.mpr ⟨List.mem_of_getElem? (i := 335) (by decide +kernel), rfl⟩
theorem w_337 : Cond.instanceMethod yX1_init ∈ lw_ok := List.mem_filter.mpr ⟨List.mem_of_getElem? (i := 337) (by decide +kernel), rfl⟩
theorem w_338 : Cond.code yX1_init cX1_init 1 none ∈ lw_ok := List.mem_filter.mpr ⟨List.mem_of_getElem? (i := 338) (by decide +kernel), rfl⟩
theorem w_339 : Cond.methodLink RX1 3 objectInit ∈ lw_ok := List.mem_filter.mpr ⟨List.mem_of_getElem? (i := 339) (by decide +kernel), rfl⟩
theorem w_340 : Cond.fieldLink RX1 9 "LeakyLine$Ladder" "lead" "I" ∈ lw_ok := List.mem_filter.mpr ⟨List.mem_of_getElem? (i := 340) (by decide +kernel), rfl⟩
theorem w_342 : Cond.fieldLink RX1 15 "LeakyLine$Ladder" "source" "J" ∈ lw_ok := List.mem_filter.mpr ⟨List.mem_of_getElem? (i := 342) (by decide +kernel), rfl⟩
theorem w_344 : Cond.fieldLink RX1 19 "LeakyLine$Ladder" "leaks" "[I" ∈ lw_ok := List.mem_filter.mpr ⟨List.mem_of_getElem? (i := 344) (by decide +kernel), rfl⟩
theorem w_346 : Cond.fieldLink RX1 23 "LeakyLine$Ladder" "volts" "[J" ∈ lw_ok := List.mem_filter.mpr ⟨List.mem_of_getElem? (i := 346) (by decide +kernel), rfl⟩
theorem w_348 : Cond.fieldLink RX1 27 "LeakyLine$Ladder" "amps" "[J" ∈ lw_ok := List.mem_filter.mpr ⟨List.mem_of_getElem? (i := 348) (by decide +kernel), rfl⟩
theorem w_360 : Cond.classLink RX8 65 RX0 ∈ lw_ok := List.mem_filter.mpr ⟨List.mem_of_getElem? (i := 360) (by decide +kernel), rfl⟩
theorem w_361 : Cond.instantiable RX0 2 ∈ lw_ok := List.mem_filter.mpr ⟨List.mem_of_getElem? (i := 361) (by decide +kernel), rfl⟩
theorem w_363 : Cond.instanceMethod yX0_init ∈ lw_ok := List.mem_filter.mpr ⟨List.mem_of_getElem? (i := 363) (by decide +kernel), rfl⟩
theorem w_364 : Cond.code yX0_init cX0_init 1 none ∈ lw_ok := List.mem_filter.mpr ⟨List.mem_of_getElem? (i := 364) (by decide +kernel), rfl⟩
theorem w_365 : Cond.methodLink RX0 3 objectInit ∈ lw_ok := List.mem_filter.mpr ⟨List.mem_of_getElem? (i := 365) (by decide +kernel), rfl⟩
theorem w_366 : Cond.fieldLink RX0 9 "LeakyLine$Fraction" "above" "J" ∈ lw_ok := List.mem_filter.mpr ⟨List.mem_of_getElem? (i := 366) (by decide +kernel), rfl⟩
theorem w_368 : Cond.fieldLink RX0 15 "LeakyLine$Fraction" "below" "J" ∈ lw_ok := List.mem_filter.mpr ⟨List.mem_of_getElem? (i := 368) (by decide +kernel), rfl⟩
theorem w_375 : Cond.fieldLink RX8 10 "LeakyLine" "tape" "LLeakyLine$Tape;" ∈ lw_ok := List.mem_filter.mpr ⟨List.mem_of_getElem? (i := 375) (by decide +kernel), rfl⟩
theorem w_376 : Cond.fieldLink RX8 19 "LeakyLine" "tokens" "LLeakyLine$Tokens;" ∈ lw_ok := List.mem_filter.mpr ⟨List.mem_of_getElem? (i := 376) (by decide +kernel), rfl⟩
theorem w_377 : Cond.fieldLink RX8 26 "LeakyLine" "teller" "LLeakyLine$Teller;" ∈ lw_ok := List.mem_filter.mpr ⟨List.mem_of_getElem? (i := 377) (by decide +kernel), rfl⟩
theorem w_378 : Cond.fieldLink RX8 33 "LeakyLine" "line" "LLeakyLine$Line;" ∈ lw_ok := List.mem_filter.mpr ⟨List.mem_of_getElem? (i := 378) (by decide +kernel), rfl⟩
theorem w_379 : Cond.fieldLink RX8 37 "LeakyLine" "drafted" "LLeakyLine$Line;" ∈ lw_ok := List.mem_filter.mpr ⟨List.mem_of_getElem? (i := 379) (by decide +kernel), rfl⟩
theorem w_380 : Cond.fieldLink RX8 40 "LeakyLine" "images" "[LLeakyLine$Line;" ∈ lw_ok := List.mem_filter.mpr ⟨List.mem_of_getElem? (i := 380) (by decide +kernel), rfl⟩
theorem w_381 : Cond.fieldLink RX8 47 "LeakyLine" "slots" "LLeakyLine$Slots;" ∈ lw_ok := List.mem_filter.mpr ⟨List.mem_of_getElem? (i := 381) (by decide +kernel), rfl⟩
theorem w_382 : Cond.fieldLink RX8 54 "LeakyLine" "supposed" "LLeakyLine$Supposed;" ∈ lw_ok := List.mem_filter.mpr ⟨List.mem_of_getElem? (i := 382) (by decide +kernel), rfl⟩
theorem w_383 : Cond.fieldLink RX8 61 "LeakyLine" "ladder" "LLeakyLine$Ladder;" ∈ lw_ok := List.mem_filter.mpr ⟨List.mem_of_getElem? (i := 383) (by decide +kernel), rfl⟩
theorem w_384 : Cond.fieldLink RX8 68 "LeakyLine" "fraction" "LLeakyLine$Fraction;" ∈ lw_ok := List.mem_filter.mpr ⟨List.mem_of_getElem? (i := 384) (by decide +kernel), rfl⟩
theorem w_385 : Cond.fieldLink RX8 72 "LeakyLine" "heardOn" "[I" ∈ lw_ok := List.mem_filter.mpr ⟨List.mem_of_getElem? (i := 385) (by decide +kernel), rfl⟩
theorem w_386 : Cond.fieldLink RX8 76 "LeakyLine" "worths" "[I" ∈ lw_ok := List.mem_filter.mpr ⟨List.mem_of_getElem? (i := 386) (by decide +kernel), rfl⟩
theorem w_387 : Cond.fieldLink RX8 79 "LeakyLine" "readsAbove" "[J" ∈ lw_ok := List.mem_filter.mpr ⟨List.mem_of_getElem? (i := 387) (by decide +kernel), rfl⟩
theorem w_388 : Cond.fieldLink RX8 83 "LeakyLine" "readsBelow" "[J" ∈ lw_ok := List.mem_filter.mpr ⟨List.mem_of_getElem? (i := 388) (by decide +kernel), rfl⟩
theorem w_389 : Cond.fieldLink RX8 86 "LeakyLine" "faultKind" "I" ∈ lw_ok := List.mem_filter.mpr ⟨List.mem_of_getElem? (i := 389) (by decide +kernel), rfl⟩
theorem w_390 : Cond.fieldLink RX8 90 "LeakyLine" "faultPlace" "I" ∈ lw_ok := List.mem_filter.mpr ⟨List.mem_of_getElem? (i := 390) (by decide +kernel), rfl⟩
theorem w_428 : Cond.methodLink RX8 96 yX5_append ∈ lw_ok := List.mem_filter.mpr ⟨List.mem_of_getElem? (i := 428) (by decide +kernel), rfl⟩
theorem w_429 : Cond.instanceMethod yX5_append ∈ lw_ok := List.mem_filter.mpr ⟨List.mem_of_getElem? (i := 429) (by decide +kernel), rfl⟩
theorem w_430 : Cond.selects RX5 yX5_append yX5_append ∈ lw_ok := List.mem_filter.mpr ⟨List.mem_of_getElem? (i := 430) (by decide +kernel), rfl⟩
theorem w_431 : Cond.code yX5_append cX5_append 3 none ∈ lw_ok := List.mem_filter.mpr ⟨List.mem_of_getElem? (i := 431) (by decide +kernel), rfl⟩
theorem w_440 : Cond.methodLink RX8 100 yX7_scan ∈ lw_ok := List.mem_filter.mpr ⟨List.mem_of_getElem? (i := 440) (by decide +kernel), rfl⟩
theorem w_441 : Cond.instanceMethod yX7_scan ∈ lw_ok := List.mem_filter.mpr ⟨List.mem_of_getElem? (i := 441) (by decide +kernel), rfl⟩
theorem w_442 : Cond.selects RX7 yX7_scan yX7_scan ∈ lw_ok := List.mem_filter.mpr ⟨List.mem_of_getElem? (i := 442) (by decide +kernel), rfl⟩
theorem w_443 : Cond.code yX7_scan cX7_scan 5 none ∈ lw_ok := List.mem_filter.mpr ⟨List.mem_of_getElem? (i := 443) (by decide +kernel), rfl⟩
theorem w_520 : Cond.methodLink RX7 46 yX7_add ∈ lw_ok := List.mem_filter.mpr ⟨List.mem_of_getElem? (i := 520) (by decide +kernel), rfl⟩
theorem w_522 : Cond.instanceMethod yX7_add ∈ lw_ok := List.mem_filter.mpr ⟨List.mem_of_getElem? (i := 522) (by decide +kernel), rfl⟩
theorem w_523 : Cond.code yX7_add cX7_add 4 none ∈ lw_ok := List.mem_filter.mpr ⟨List.mem_of_getElem? (i := 523) (by decide +kernel), rfl⟩
theorem w_534 : Cond.static yJ9_min_7cf53 ∈ lw_ok := List.mem_filter.mpr ⟨List.mem_of_getElem? (i := 534) (by decide +kernel), rfl⟩
theorem w_535 : Cond.code yJ9_min_7cf53 cJ9_min_7cf53 2 (some .int) ∈ lw_ok := List.mem_filter.mpr ⟨List.mem_of_getElem? (i := 535) (by decide +kernel), rfl⟩
theorem w_542 : Cond.methodLink RX8 104 yX6_read ∈ lw_ok := List.mem_filter.mpr ⟨List.mem_of_getElem? (i := 542) (by decide +kernel), rfl⟩
theorem w_543 : Cond.instanceMethod yX6_read ∈ lw_ok := List.mem_filter.mpr ⟨List.mem_of_getElem? (i := 543) (by decide +kernel), rfl⟩
theorem w_544 : Cond.selects RX6 yX6_read yX6_read ∈ lw_ok := List.mem_filter.mpr ⟨List.mem_of_getElem? (i := 544) (by decide +kernel), rfl⟩
theorem w_545 : Cond.code yX6_read cX6_read 4 none ∈ lw_ok := List.mem_filter.mpr ⟨List.mem_of_getElem? (i := 545) (by decide +kernel), rfl⟩
theorem w_546 : Cond.methodLink RX6 29 yX2_wipe ∈ lw_ok := List.mem_filter.mpr ⟨List.mem_of_getElem? (i := 546) (by decide +kernel), rfl⟩
theorem w_547 : Cond.instanceMethod yX2_wipe ∈ lw_ok := List.mem_filter.mpr ⟨List.mem_of_getElem? (i := 547) (by decide +kernel), rfl⟩
theorem w_548 : Cond.selects RX2 yX2_wipe yX2_wipe ∈ lw_ok := List.mem_filter.mpr ⟨List.mem_of_getElem? (i := 548) (by decide +kernel), rfl⟩
theorem w_549 : Cond.code yX2_wipe cX2_wipe 1 none ∈ lw_ok := List.mem_filter.mpr ⟨List.mem_of_getElem? (i := 549) (by decide +kernel), rfl⟩
theorem w_550 : Cond.methodLink RX2 64 yX2_keepActs ∈ lw_ok := List.mem_filter.mpr ⟨List.mem_of_getElem? (i := 550) (by decide +kernel), rfl⟩
theorem w_551 : Cond.instanceMethod yX2_keepActs ∈ lw_ok := List.mem_filter.mpr ⟨List.mem_of_getElem? (i := 551) (by decide +kernel), rfl⟩
theorem w_552 : Cond.selects RX2 yX2_keepActs yX2_keepActs ∈ lw_ok := List.mem_filter.mpr ⟨List.mem_of_getElem? (i := 552) (by decide +kernel), rfl⟩
theorem w_553 : Cond.code yX2_keepActs cX2_keepActs 4 none ∈ lw_ok := List.mem_filter.mpr ⟨List.mem_of_getElem? (i := 553) (by decide +kernel), rfl⟩
theorem w_554 : Cond.methodLink RX2 74 yJ9_min_7cf53 ∈ lw_ok := List.mem_filter.mpr ⟨List.mem_of_getElem? (i := 554) (by decide +kernel), rfl⟩
theorem w_555 : Cond.methodLink RX2 80 yJ7_fill_53178 ∈ lw_ok := List.mem_filter.mpr ⟨List.mem_of_getElem? (i := 555) (by decide +kernel), rfl⟩
theorem w_556 : Cond.static yJ7_fill_53178 ∈ lw_ok := List.mem_filter.mpr ⟨List.mem_of_getElem? (i := 556) (by decide +kernel), rfl⟩
theorem w_557 : Cond.code yJ7_fill_53178 cJ7_fill_53178 4 none ∈ lw_ok := List.mem_filter.mpr ⟨List.mem_of_getElem? (i := 557) (by decide +kernel), rfl⟩
theorem w_558 : Cond.methodLink RX6 37 yX6_step ∈ lw_ok := List.mem_filter.mpr ⟨List.mem_of_getElem? (i := 558) (by decide +kernel), rfl⟩
theorem w_560 : Cond.instanceMethod yX6_step ∈ lw_ok := List.mem_filter.mpr ⟨List.mem_of_getElem? (i := 560) (by decide +kernel), rfl⟩
theorem w_561 : Cond.code yX6_step cX6_step 2 none ∈ lw_ok := List.mem_filter.mpr ⟨List.mem_of_getElem? (i := 561) (by decide +kernel), rfl⟩
theorem w_594 : Cond.methodLink RX8 114 yX2_take ∈ lw_ok := List.mem_filter.mpr ⟨List.mem_of_getElem? (i := 594) (by decide +kernel), rfl⟩
theorem w_595 : Cond.instanceMethod yX2_take ∈ lw_ok := List.mem_filter.mpr ⟨List.mem_of_getElem? (i := 595) (by decide +kernel), rfl⟩
theorem w_596 : Cond.selects RX2 yX2_take yX2_take ∈ lw_ok := List.mem_filter.mpr ⟨List.mem_of_getElem? (i := 596) (by decide +kernel), rfl⟩
theorem w_597 : Cond.code yX2_take cX2_take 2 none ∈ lw_ok := List.mem_filter.mpr ⟨List.mem_of_getElem? (i := 597) (by decide +kernel), rfl⟩
theorem w_598 : Cond.methodLink RX2 68 arraycopyName ∈ lw_ok := List.mem_filter.mpr ⟨List.mem_of_getElem? (i := 598) (by decide +kernel), rfl⟩
theorem w_599 : Cond.static arraycopyName ∈ lw_ok := List.mem_filter.mpr ⟨List.mem_of_getElem? (i := 599) (by decide +kernel), rfl⟩
theorem w_600 : Cond.native arraycopyName ∈ lw_ok := List.mem_filter.mpr ⟨List.mem_of_getElem? (i := 600) (by decide +kernel), rfl⟩
theorem w_609 : Cond.methodLink RX8 121 yX8_isPole ∈ lw_ok := List.mem_filter.mpr ⟨List.mem_of_getElem? (i := 609) (by decide +kernel), rfl⟩
theorem w_611 : Cond.instanceMethod yX8_isPole ∈ lw_ok := List.mem_filter.mpr ⟨List.mem_of_getElem? (i := 611) (by decide +kernel), rfl⟩
theorem w_612 : Cond.code yX8_isPole cX8_isPole 2 (some .boolean) ∈ lw_ok := List.mem_filter.mpr ⟨List.mem_of_getElem? (i := 612) (by decide +kernel), rfl⟩
theorem w_617 : Cond.methodLink RX8 134 yX8_isTold ∈ lw_ok := List.mem_filter.mpr ⟨List.mem_of_getElem? (i := 617) (by decide +kernel), rfl⟩
theorem w_619 : Cond.instanceMethod yX8_isTold ∈ lw_ok := List.mem_filter.mpr ⟨List.mem_of_getElem? (i := 619) (by decide +kernel), rfl⟩
theorem w_620 : Cond.code yX8_isTold cX8_isTold 1 (some .boolean) ∈ lw_ok := List.mem_filter.mpr ⟨List.mem_of_getElem? (i := 620) (by decide +kernel), rfl⟩
theorem w_633 : Cond.methodLink RX8 145 yX8_isDay ∈ lw_ok := List.mem_filter.mpr ⟨List.mem_of_getElem? (i := 633) (by decide +kernel), rfl⟩
theorem w_635 : Cond.instanceMethod yX8_isDay ∈ lw_ok := List.mem_filter.mpr ⟨List.mem_of_getElem? (i := 635) (by decide +kernel), rfl⟩
theorem w_636 : Cond.code yX8_isDay cX8_isDay 2 (some .boolean) ∈ lw_ok := List.mem_filter.mpr ⟨List.mem_of_getElem? (i := 636) (by decide +kernel), rfl⟩
theorem w_694 : Cond.constantLong RX8 162 (-2) ∈ lw_ok := List.mem_filter.mpr ⟨List.mem_of_getElem? (i := 694) (by decide +kernel), rfl⟩
theorem w_778 : Cond.methodLink RX8 213 yX8_isStation ∈ lw_ok := List.mem_filter.mpr ⟨List.mem_of_getElem? (i := 778) (by decide +kernel), rfl⟩
theorem w_780 : Cond.instanceMethod yX8_isStation ∈ lw_ok := List.mem_filter.mpr ⟨List.mem_of_getElem? (i := 780) (by decide +kernel), rfl⟩
theorem w_781 : Cond.code yX8_isStation cX8_isStation 2 (some .boolean) ∈ lw_ok := List.mem_filter.mpr ⟨List.mem_of_getElem? (i := 781) (by decide +kernel), rfl⟩
theorem w_1022 : Cond.methodLink RX8 289 yX8_refusalOfSeen ∈ lw_ok := List.mem_filter.mpr ⟨List.mem_of_getElem? (i := 1022) (by decide +kernel), rfl⟩
theorem w_1024 : Cond.instanceMethod yX8_refusalOfSeen ∈ lw_ok := List.mem_filter.mpr ⟨List.mem_of_getElem? (i := 1024) (by decide +kernel), rfl⟩
theorem w_1025 : Cond.code yX8_refusalOfSeen cX8_refusalOfSeen 3 (some .int) ∈ lw_ok := List.mem_filter.mpr ⟨List.mem_of_getElem? (i := 1025) (by decide +kernel), rfl⟩
theorem w_1026 : Cond.methodLink RX8 302 yX8_refusalOfRow ∈ lw_ok := List.mem_filter.mpr ⟨List.mem_of_getElem? (i := 1026) (by decide +kernel), rfl⟩
theorem w_1028 : Cond.instanceMethod yX8_refusalOfRow ∈ lw_ok := List.mem_filter.mpr ⟨List.mem_of_getElem? (i := 1028) (by decide +kernel), rfl⟩
theorem w_1029 : Cond.code yX8_refusalOfRow cX8_refusalOfRow 6 (some .int) ∈ lw_ok := List.mem_filter.mpr ⟨List.mem_of_getElem? (i := 1029) (by decide +kernel), rfl⟩
theorem w_1030 : Cond.methodLink RX8 364 yX8_isSlot ∈ lw_ok := List.mem_filter.mpr ⟨List.mem_of_getElem? (i := 1030) (by decide +kernel), rfl⟩
theorem w_1031 : Cond.static yX8_isSlot ∈ lw_ok := List.mem_filter.mpr ⟨List.mem_of_getElem? (i := 1031) (by decide +kernel), rfl⟩
theorem w_1032 : Cond.code yX8_isSlot cX8_isSlot 1 (some .boolean) ∈ lw_ok := List.mem_filter.mpr ⟨List.mem_of_getElem? (i := 1032) (by decide +kernel), rfl⟩
theorem w_1033 : Cond.methodLink RX8 370 yX3_has ∈ lw_ok := List.mem_filter.mpr ⟨List.mem_of_getElem? (i := 1033) (by decide +kernel), rfl⟩
theorem w_1034 : Cond.instanceMethod yX3_has ∈ lw_ok := List.mem_filter.mpr ⟨List.mem_of_getElem? (i := 1034) (by decide +kernel), rfl⟩
theorem w_1035 : Cond.selects RX3 yX3_has yX3_has ∈ lw_ok := List.mem_filter.mpr ⟨List.mem_of_getElem? (i := 1035) (by decide +kernel), rfl⟩
theorem w_1036 : Cond.code yX3_has cX3_has 2 (some .boolean) ∈ lw_ok := List.mem_filter.mpr ⟨List.mem_of_getElem? (i := 1036) (by decide +kernel), rfl⟩
theorem w_1113 : Cond.constant RX8 314 (-1000000) ∈ lw_ok := List.mem_filter.mpr ⟨List.mem_of_getElem? (i := 1113) (by decide +kernel), rfl⟩
theorem w_1136 : Cond.methodLink RX8 325 yX8_isChanceDay ∈ lw_ok := List.mem_filter.mpr ⟨List.mem_of_getElem? (i := 1136) (by decide +kernel), rfl⟩
theorem w_1138 : Cond.instanceMethod yX8_isChanceDay ∈ lw_ok := List.mem_filter.mpr ⟨List.mem_of_getElem? (i := 1138) (by decide +kernel), rfl⟩
theorem w_1139 : Cond.code yX8_isChanceDay cX8_isChanceDay 2 (some .boolean) ∈ lw_ok := List.mem_filter.mpr ⟨List.mem_of_getElem? (i := 1139) (by decide +kernel), rfl⟩
theorem w_1205 : Cond.methodLink RX8 361 yX3_used ∈ lw_ok := List.mem_filter.mpr ⟨List.mem_of_getElem? (i := 1205) (by decide +kernel), rfl⟩
theorem w_1206 : Cond.instanceMethod yX3_used ∈ lw_ok := List.mem_filter.mpr ⟨List.mem_of_getElem? (i := 1206) (by decide +kernel), rfl⟩
theorem w_1207 : Cond.selects RX3 yX3_used yX3_used ∈ lw_ok := List.mem_filter.mpr ⟨List.mem_of_getElem? (i := 1207) (by decide +kernel), rfl⟩
theorem w_1208 : Cond.code yX3_used cX3_used 3 (some .int) ∈ lw_ok := List.mem_filter.mpr ⟨List.mem_of_getElem? (i := 1208) (by decide +kernel), rfl⟩
theorem w_1209 : Cond.methodLink RX3 22 yX3_has ∈ lw_ok := List.mem_filter.mpr ⟨List.mem_of_getElem? (i := 1209) (by decide +kernel), rfl⟩
theorem w_1222 : Cond.methodLink RX8 367 yX3_lay ∈ lw_ok := List.mem_filter.mpr ⟨List.mem_of_getElem? (i := 1222) (by decide +kernel), rfl⟩
theorem w_1223 : Cond.instanceMethod yX3_lay ∈ lw_ok := List.mem_filter.mpr ⟨List.mem_of_getElem? (i := 1223) (by decide +kernel), rfl⟩
theorem w_1224 : Cond.selects RX3 yX3_lay yX3_lay ∈ lw_ok := List.mem_filter.mpr ⟨List.mem_of_getElem? (i := 1224) (by decide +kernel), rfl⟩
theorem w_1225 : Cond.code yX3_lay cX3_lay 4 none ∈ lw_ok := List.mem_filter.mpr ⟨List.mem_of_getElem? (i := 1225) (by decide +kernel), rfl⟩
theorem w_1226 : Cond.methodLink RX3 26 yJ7_fill_bad5a ∈ lw_ok := List.mem_filter.mpr ⟨List.mem_of_getElem? (i := 1226) (by decide +kernel), rfl⟩
theorem w_1227 : Cond.static yJ7_fill_bad5a ∈ lw_ok := List.mem_filter.mpr ⟨List.mem_of_getElem? (i := 1227) (by decide +kernel), rfl⟩
theorem w_1228 : Cond.code yJ7_fill_bad5a cJ7_fill_bad5a 6 none ∈ lw_ok := List.mem_filter.mpr ⟨List.mem_of_getElem? (i := 1228) (by decide +kernel), rfl⟩
theorem w_1229 : Cond.methodLink RJ7 13 yJ7_rangeCheck_23922 ∈ lw_ok := List.mem_filter.mpr ⟨List.mem_of_getElem? (i := 1229) (by decide +kernel), rfl⟩
theorem w_1230 : Cond.static yJ7_rangeCheck_23922 ∈ lw_ok := List.mem_filter.mpr ⟨List.mem_of_getElem? (i := 1230) (by decide +kernel), rfl⟩
theorem w_1231 : Cond.code yJ7_rangeCheck_23922 cJ7_rangeCheck_23922 3 none ∈ lw_ok := List.mem_filter.mpr ⟨List.mem_of_getElem? (i := 1231) (by decide +kernel), rfl⟩
theorem w_1261 : Cond.methodLink RX9 1 objectInit ∈ lw_ok := List.mem_filter.mpr ⟨List.mem_of_getElem? (i := 1261) (by decide +kernel), rfl⟩
theorem w_1262 : Cond.fieldLink RX9 68 "LeakyLineModel" "thrown" "I" ∈ lw_ok := List.mem_filter.mpr ⟨List.mem_of_getElem? (i := 1262) (by decide +kernel), rfl⟩
theorem w_1263 : Cond.fieldLink RX9 7 "LeakyLineModel" "width" "[I" ∈ lw_ok := List.mem_filter.mpr ⟨List.mem_of_getElem? (i := 1263) (by decide +kernel), rfl⟩
theorem w_1264 : Cond.fieldLink RX9 13 "LeakyLineModel" "many" "[I" ∈ lw_ok := List.mem_filter.mpr ⟨List.mem_of_getElem? (i := 1264) (by decide +kernel), rfl⟩
theorem w_1265 : Cond.fieldLink RX9 16 "LeakyLineModel" "cells" "[J" ∈ lw_ok := List.mem_filter.mpr ⟨List.mem_of_getElem? (i := 1265) (by decide +kernel), rfl⟩
theorem w_1266 : Cond.fieldLink RX9 20 "LeakyLineModel" "moved" "[J" ∈ lw_ok := List.mem_filter.mpr ⟨List.mem_of_getElem? (i := 1266) (by decide +kernel), rfl⟩
theorem w_1267 : Cond.fieldLink RX9 23 "LeakyLineModel" "tape" "[B" ∈ lw_ok := List.mem_filter.mpr ⟨List.mem_of_getElem? (i := 1267) (by decide +kernel), rfl⟩
theorem w_1268 : Cond.fieldLink RX9 85 "LeakyLineModel" "taped" "I" ∈ lw_ok := List.mem_filter.mpr ⟨List.mem_of_getElem? (i := 1268) (by decide +kernel), rfl⟩
theorem w_1269 : Cond.fieldLink RX9 92 "LeakyLineModel" "spot" "I" ∈ lw_ok := List.mem_filter.mpr ⟨List.mem_of_getElem? (i := 1269) (by decide +kernel), rfl⟩
theorem w_1270 : Cond.fieldLink RX9 109 "LeakyLineModel" "token" "I" ∈ lw_ok := List.mem_filter.mpr ⟨List.mem_of_getElem? (i := 1270) (by decide +kernel), rfl⟩
theorem w_1271 : Cond.fieldLink RX9 99 "LeakyLineModel" "place" "I" ∈ lw_ok := List.mem_filter.mpr ⟨List.mem_of_getElem? (i := 1271) (by decide +kernel), rfl⟩
theorem w_1272 : Cond.fieldLink RX9 102 "LeakyLineModel" "value" "I" ∈ lw_ok := List.mem_filter.mpr ⟨List.mem_of_getElem? (i := 1272) (by decide +kernel), rfl⟩
theorem w_1273 : Cond.fieldLink RX9 105 "LeakyLineModel" "word" "J" ∈ lw_ok := List.mem_filter.mpr ⟨List.mem_of_getElem? (i := 1273) (by decide +kernel), rfl⟩
theorem w_1274 : Cond.fieldLink RX9 120 "LeakyLineModel" "bad" "I" ∈ lw_ok := List.mem_filter.mpr ⟨List.mem_of_getElem? (i := 1274) (by decide +kernel), rfl⟩
theorem w_1275 : Cond.fieldLink RX9 123 "LeakyLineModel" "badPlace" "I" ∈ lw_ok := List.mem_filter.mpr ⟨List.mem_of_getElem? (i := 1275) (by decide +kernel), rfl⟩
theorem w_1276 : Cond.fieldLink RX9 147 "LeakyLineModel" "fault" "I" ∈ lw_ok := List.mem_filter.mpr ⟨List.mem_of_getElem? (i := 1276) (by decide +kernel), rfl⟩
theorem w_1277 : Cond.fieldLink RX9 27 "LeakyLineModel" "faultPlace" "I" ∈ lw_ok := List.mem_filter.mpr ⟨List.mem_of_getElem? (i := 1277) (by decide +kernel), rfl⟩
theorem w_1278 : Cond.fieldLink RX9 31 "LeakyLineModel" "lines" "[I" ∈ lw_ok := List.mem_filter.mpr ⟨List.mem_of_getElem? (i := 1278) (by decide +kernel), rfl⟩
theorem w_1279 : Cond.fieldLink RX9 34 "LeakyLineModel" "has" "[I" ∈ lw_ok := List.mem_filter.mpr ⟨List.mem_of_getElem? (i := 1279) (by decide +kernel), rfl⟩
theorem w_1280 : Cond.fieldLink RX9 37 "LeakyLineModel" "spanOf" "[I" ∈ lw_ok := List.mem_filter.mpr ⟨List.mem_of_getElem? (i := 1280) (by decide +kernel), rfl⟩
theorem w_1281 : Cond.fieldLink RX9 40 "LeakyLineModel" "wetOf" "[I" ∈ lw_ok := List.mem_filter.mpr ⟨List.mem_of_getElem? (i := 1281) (by decide +kernel), rfl⟩
theorem w_1282 : Cond.fieldLink RX9 43 "LeakyLineModel" "act" "[I" ∈ lw_ok := List.mem_filter.mpr ⟨List.mem_of_getElem? (i := 1282) (by decide +kernel), rfl⟩
theorem w_1283 : Cond.fieldLink RX9 46 "LeakyLineModel" "isKept" "[Z" ∈ lw_ok := List.mem_filter.mpr ⟨List.mem_of_getElem? (i := 1283) (by decide +kernel), rfl⟩
theorem w_1289 : Cond.fieldLink RX9 50 "LeakyLineModel" "ohmsTold" "[I" ∈ lw_ok := List.mem_filter.mpr ⟨List.mem_of_getElem? (i := 1289) (by decide +kernel), rfl⟩
theorem w_1290 : Cond.fieldLink RX9 53 "LeakyLineModel" "leakTold" "[I" ∈ lw_ok := List.mem_filter.mpr ⟨List.mem_of_getElem? (i := 1290) (by decide +kernel), rfl⟩
theorem w_1292 : Cond.fieldLink RX9 56 "LeakyLineModel" "part0" "[J" ∈ lw_ok := List.mem_filter.mpr ⟨List.mem_of_getElem? (i := 1292) (by decide +kernel), rfl⟩
theorem w_1293 : Cond.fieldLink RX9 59 "LeakyLineModel" "flow" "[J" ∈ lw_ok := List.mem_filter.mpr ⟨List.mem_of_getElem? (i := 1293) (by decide +kernel), rfl⟩
theorem w_1298 : Cond.fieldLink RX9 62 "LeakyLineModel" "aboveAt" "[J" ∈ lw_ok := List.mem_filter.mpr ⟨List.mem_of_getElem? (i := 1298) (by decide +kernel), rfl⟩
theorem w_1299 : Cond.fieldLink RX9 65 "LeakyLineModel" "belowAt" "[J" ∈ lw_ok := List.mem_filter.mpr ⟨List.mem_of_getElem? (i := 1299) (by decide +kernel), rfl⟩
theorem w_1377 : Cond.arrayClass (.boolean) ∈ lw_ok := List.mem_filter.mpr ⟨List.mem_of_getElem? (i := 1377) (by decide +kernel), rfl⟩
theorem w_1382 : Cond.methodLink RX9 77 yX9_isSlot ∈ lw_ok := List.mem_filter.mpr ⟨List.mem_of_getElem? (i := 1382) (by decide +kernel), rfl⟩
theorem w_1383 : Cond.static yX9_isSlot ∈ lw_ok := List.mem_filter.mpr ⟨List.mem_of_getElem? (i := 1383) (by decide +kernel), rfl⟩
theorem w_1384 : Cond.code yX9_isSlot cX9_isSlot 1 (some .boolean) ∈ lw_ok := List.mem_filter.mpr ⟨List.mem_of_getElem? (i := 1384) (by decide +kernel), rfl⟩
theorem w_1385 : Cond.constantLong RX9 71 3 ∈ lw_ok := List.mem_filter.mpr ⟨List.mem_of_getElem? (i := 1385) (by decide +kernel), rfl⟩
theorem w_1386 : Cond.methodLink RX9 73 yX9_in ∈ lw_ok := List.mem_filter.mpr ⟨List.mem_of_getElem? (i := 1386) (by decide +kernel), rfl⟩
theorem w_1387 : Cond.static yX9_in ∈ lw_ok := List.mem_filter.mpr ⟨List.mem_of_getElem? (i := 1387) (by decide +kernel), rfl⟩
theorem w_1388 : Cond.code yX9_in cX9_in 6 (some .boolean) ∈ lw_ok := List.mem_filter.mpr ⟨List.mem_of_getElem? (i := 1388) (by decide +kernel), rfl⟩
theorem w_1404 : Cond.methodLink RX9 88 yX9_four ∈ lw_ok := List.mem_filter.mpr ⟨List.mem_of_getElem? (i := 1404) (by decide +kernel), rfl⟩
theorem w_1406 : Cond.instanceMethod yX9_four ∈ lw_ok := List.mem_filter.mpr ⟨List.mem_of_getElem? (i := 1406) (by decide +kernel), rfl⟩
theorem w_1407 : Cond.code yX9_four cX9_four 3 none ∈ lw_ok := List.mem_filter.mpr ⟨List.mem_of_getElem? (i := 1407) (by decide +kernel), rfl⟩
theorem w_1420 : Cond.methodLink RX9 176 yX9_clears ∈ lw_ok := List.mem_filter.mpr ⟨List.mem_of_getElem? (i := 1420) (by decide +kernel), rfl⟩
theorem w_1422 : Cond.instanceMethod yX9_clears ∈ lw_ok := List.mem_filter.mpr ⟨List.mem_of_getElem? (i := 1422) (by decide +kernel), rfl⟩
theorem w_1423 : Cond.code yX9_clears cX9_clears 2 none ∈ lw_ok := List.mem_filter.mpr ⟨List.mem_of_getElem? (i := 1423) (by decide +kernel), rfl⟩
theorem w_1424 : Cond.methodLink RX9 161 yX9_tells ∈ lw_ok := List.mem_filter.mpr ⟨List.mem_of_getElem? (i := 1424) (by decide +kernel), rfl⟩
theorem w_1426 : Cond.instanceMethod yX9_tells ∈ lw_ok := List.mem_filter.mpr ⟨List.mem_of_getElem? (i := 1426) (by decide +kernel), rfl⟩
theorem w_1427 : Cond.code yX9_tells cX9_tells 3 none ∈ lw_ok := List.mem_filter.mpr ⟨List.mem_of_getElem? (i := 1427) (by decide +kernel), rfl⟩
theorem w_1428 : Cond.methodLink RX9 179 yX9_begins ∈ lw_ok := List.mem_filter.mpr ⟨List.mem_of_getElem? (i := 1428) (by decide +kernel), rfl⟩
theorem w_1430 : Cond.instanceMethod yX9_begins ∈ lw_ok := List.mem_filter.mpr ⟨List.mem_of_getElem? (i := 1430) (by decide +kernel), rfl⟩
theorem w_1431 : Cond.code yX9_begins cX9_begins 1 none ∈ lw_ok := List.mem_filter.mpr ⟨List.mem_of_getElem? (i := 1431) (by decide +kernel), rfl⟩
theorem w_1432 : Cond.methodLink RX9 130 yX9_next ∈ lw_ok := List.mem_filter.mpr ⟨List.mem_of_getElem? (i := 1432) (by decide +kernel), rfl⟩
theorem w_1434 : Cond.instanceMethod yX9_next ∈ lw_ok := List.mem_filter.mpr ⟨List.mem_of_getElem? (i := 1434) (by decide +kernel), rfl⟩
theorem w_1435 : Cond.code yX9_next cX9_next 2 none ∈ lw_ok := List.mem_filter.mpr ⟨List.mem_of_getElem? (i := 1435) (by decide +kernel), rfl⟩
theorem w_1436 : Cond.methodLink RX9 95 yX9_isByte ∈ lw_ok := List.mem_filter.mpr ⟨List.mem_of_getElem? (i := 1436) (by decide +kernel), rfl⟩
theorem w_1438 : Cond.instanceMethod yX9_isByte ∈ lw_ok := List.mem_filter.mpr ⟨List.mem_of_getElem? (i := 1438) (by decide +kernel), rfl⟩
theorem w_1439 : Cond.code yX9_isByte cX9_isByte 4 (some .boolean) ∈ lw_ok := List.mem_filter.mpr ⟨List.mem_of_getElem? (i := 1439) (by decide +kernel), rfl⟩
theorem w_1445 : Cond.methodLink RX9 182 yX9_isGood ∈ lw_ok := List.mem_filter.mpr ⟨List.mem_of_getElem? (i := 1445) (by decide +kernel), rfl⟩
theorem w_1447 : Cond.instanceMethod yX9_isGood ∈ lw_ok := List.mem_filter.mpr ⟨List.mem_of_getElem? (i := 1447) (by decide +kernel), rfl⟩
theorem w_1448 : Cond.code yX9_isGood cX9_isGood 1 (some .boolean) ∈ lw_ok := List.mem_filter.mpr ⟨List.mem_of_getElem? (i := 1448) (by decide +kernel), rfl⟩
theorem w_1502 : Cond.methodLink RX9 202 yX9_isOver ∈ lw_ok := List.mem_filter.mpr ⟨List.mem_of_getElem? (i := 1502) (by decide +kernel), rfl⟩
theorem w_1504 : Cond.instanceMethod yX9_isOver ∈ lw_ok := List.mem_filter.mpr ⟨List.mem_of_getElem? (i := 1504) (by decide +kernel), rfl⟩
theorem w_1505 : Cond.code yX9_isOver cX9_isOver 1 none ∈ lw_ok := List.mem_filter.mpr ⟨List.mem_of_getElem? (i := 1505) (by decide +kernel), rfl⟩
theorem w_1506 : Cond.methodLink RX9 205 yX9_copyWire ∈ lw_ok := List.mem_filter.mpr ⟨List.mem_of_getElem? (i := 1506) (by decide +kernel), rfl⟩
theorem w_1508 : Cond.instanceMethod yX9_copyWire ∈ lw_ok := List.mem_filter.mpr ⟨List.mem_of_getElem? (i := 1508) (by decide +kernel), rfl⟩
theorem w_1509 : Cond.code yX9_copyWire cX9_copyWire 3 none ∈ lw_ok := List.mem_filter.mpr ⟨List.mem_of_getElem? (i := 1509) (by decide +kernel), rfl⟩
theorem w_1510 : Cond.methodLink RX9 208 yX9_copyRow ∈ lw_ok := List.mem_filter.mpr ⟨List.mem_of_getElem? (i := 1510) (by decide +kernel), rfl⟩
theorem w_1511 : Cond.static yX9_copyRow ∈ lw_ok := List.mem_filter.mpr ⟨List.mem_of_getElem? (i := 1511) (by decide +kernel), rfl⟩
theorem w_1512 : Cond.code yX9_copyRow cX9_copyRow 5 none ∈ lw_ok := List.mem_filter.mpr ⟨List.mem_of_getElem? (i := 1512) (by decide +kernel), rfl⟩
theorem w_1517 : Cond.methodLink RX9 216 yX9_isSpan ∈ lw_ok := List.mem_filter.mpr ⟨List.mem_of_getElem? (i := 1517) (by decide +kernel), rfl⟩
theorem w_1519 : Cond.instanceMethod yX9_isSpan ∈ lw_ok := List.mem_filter.mpr ⟨List.mem_of_getElem? (i := 1519) (by decide +kernel), rfl⟩
theorem w_1520 : Cond.code yX9_isSpan cX9_isSpan 2 (some .boolean) ∈ lw_ok := List.mem_filter.mpr ⟨List.mem_of_getElem? (i := 1520) (by decide +kernel), rfl⟩
theorem w_1521 : Cond.methodLink RX9 212 yX9_spans ∈ lw_ok := List.mem_filter.mpr ⟨List.mem_of_getElem? (i := 1521) (by decide +kernel), rfl⟩
theorem w_1523 : Cond.instanceMethod yX9_spans ∈ lw_ok := List.mem_filter.mpr ⟨List.mem_of_getElem? (i := 1523) (by decide +kernel), rfl⟩
theorem w_1524 : Cond.code yX9_spans cX9_spans 1 (some .int) ∈ lw_ok := List.mem_filter.mpr ⟨List.mem_of_getElem? (i := 1524) (by decide +kernel), rfl⟩
theorem w_1525 : Cond.constantLong RX9 281 2 ∈ lw_ok := List.mem_filter.mpr ⟨List.mem_of_getElem? (i := 1525) (by decide +kernel), rfl⟩
theorem w_1530 : Cond.methodLink RX9 219 yX9_isWire ∈ lw_ok := List.mem_filter.mpr ⟨List.mem_of_getElem? (i := 1530) (by decide +kernel), rfl⟩
theorem w_1532 : Cond.instanceMethod yX9_isWire ∈ lw_ok := List.mem_filter.mpr ⟨List.mem_of_getElem? (i := 1532) (by decide +kernel), rfl⟩
theorem w_1533 : Cond.code yX9_isWire cX9_isWire 1 (some .boolean) ∈ lw_ok := List.mem_filter.mpr ⟨List.mem_of_getElem? (i := 1533) (by decide +kernel), rfl⟩
theorem w_1538 : Cond.methodLink RX9 268 yX9_isStation ∈ lw_ok := List.mem_filter.mpr ⟨List.mem_of_getElem? (i := 1538) (by decide +kernel), rfl⟩
theorem w_1540 : Cond.instanceMethod yX9_isStation ∈ lw_ok := List.mem_filter.mpr ⟨List.mem_of_getElem? (i := 1540) (by decide +kernel), rfl⟩
theorem w_1541 : Cond.code yX9_isStation cX9_isStation 2 (some .boolean) ∈ lw_ok := List.mem_filter.mpr ⟨List.mem_of_getElem? (i := 1541) (by decide +kernel), rfl⟩
theorem w_1558 : Cond.methodLink RX9 289 yX9_isDay ∈ lw_ok := List.mem_filter.mpr ⟨List.mem_of_getElem? (i := 1558) (by decide +kernel), rfl⟩
theorem w_1560 : Cond.instanceMethod yX9_isDay ∈ lw_ok := List.mem_filter.mpr ⟨List.mem_of_getElem? (i := 1560) (by decide +kernel), rfl⟩
theorem w_1561 : Cond.code yX9_isDay cX9_isDay 3 (some .boolean) ∈ lw_ok := List.mem_filter.mpr ⟨List.mem_of_getElem? (i := 1561) (by decide +kernel), rfl⟩
theorem w_1595 : Cond.constantLong RX9 295 (-2) ∈ lw_ok := List.mem_filter.mpr ⟨List.mem_of_getElem? (i := 1595) (by decide +kernel), rfl⟩
theorem w_1610 : Cond.methodLink RX9 301 yX9_isOf ∈ lw_ok := List.mem_filter.mpr ⟨List.mem_of_getElem? (i := 1610) (by decide +kernel), rfl⟩
theorem w_1612 : Cond.instanceMethod yX9_isOf ∈ lw_ok := List.mem_filter.mpr ⟨List.mem_of_getElem? (i := 1612) (by decide +kernel), rfl⟩
theorem w_1613 : Cond.code yX9_isOf cX9_isOf 4 (some .boolean) ∈ lw_ok := List.mem_filter.mpr ⟨List.mem_of_getElem? (i := 1613) (by decide +kernel), rfl⟩
theorem w_1853 : Cond.methodLink RX9 358 yX9_whyNot ∈ lw_ok := List.mem_filter.mpr ⟨List.mem_of_getElem? (i := 1853) (by decide +kernel), rfl⟩
theorem w_1855 : Cond.instanceMethod yX9_whyNot ∈ lw_ok := List.mem_filter.mpr ⟨List.mem_of_getElem? (i := 1855) (by decide +kernel), rfl⟩
theorem w_1856 : Cond.code yX9_whyNot cX9_whyNot 5 (some .int) ∈ lw_ok := List.mem_filter.mpr ⟨List.mem_of_getElem? (i := 1856) (by decide +kernel), rfl⟩
theorem w_1921 : Cond.constant RX9 371 (-1000000) ∈ lw_ok := List.mem_filter.mpr ⟨List.mem_of_getElem? (i := 1921) (by decide +kernel), rfl⟩
theorem w_1929 : Cond.methodLink RX9 372 yX9_areTwo ∈ lw_ok := List.mem_filter.mpr ⟨List.mem_of_getElem? (i := 1929) (by decide +kernel), rfl⟩
theorem w_1931 : Cond.instanceMethod yX9_areTwo ∈ lw_ok := List.mem_filter.mpr ⟨List.mem_of_getElem? (i := 1931) (by decide +kernel), rfl⟩
theorem w_1932 : Cond.code yX9_areTwo cX9_areTwo 3 (some .boolean) ∈ lw_ok := List.mem_filter.mpr ⟨List.mem_of_getElem? (i := 1932) (by decide +kernel), rfl⟩
theorem w_1945 : Cond.methodLink RX9 384 yX9_isSoon ∈ lw_ok := List.mem_filter.mpr ⟨List.mem_of_getElem? (i := 1945) (by decide +kernel), rfl⟩
theorem w_1947 : Cond.instanceMethod yX9_isSoon ∈ lw_ok := List.mem_filter.mpr ⟨List.mem_of_getElem? (i := 1947) (by decide +kernel), rfl⟩
theorem w_1948 : Cond.code yX9_isSoon cX9_isSoon 2 (some .boolean) ∈ lw_ok := List.mem_filter.mpr ⟨List.mem_of_getElem? (i := 1948) (by decide +kernel), rfl⟩
theorem w_1965 : Cond.methodLink RX9 401 yX9_isSeed ∈ lw_ok := List.mem_filter.mpr ⟨List.mem_of_getElem? (i := 1965) (by decide +kernel), rfl⟩
theorem w_1966 : Cond.static yX9_isSeed ∈ lw_ok := List.mem_filter.mpr ⟨List.mem_of_getElem? (i := 1966) (by decide +kernel), rfl⟩
theorem w_1967 : Cond.code yX9_isSeed cX9_isSeed 1 (some .boolean) ∈ lw_ok := List.mem_filter.mpr ⟨List.mem_of_getElem? (i := 1967) (by decide +kernel), rfl⟩
theorem w_1968 : Cond.constantLong RX9 399 2000000000 ∈ lw_ok := List.mem_filter.mpr ⟨List.mem_of_getElem? (i := 1968) (by decide +kernel), rfl⟩
theorem w_1981 : Cond.constantLong RX9 407 20 ∈ lw_ok := List.mem_filter.mpr ⟨List.mem_of_getElem? (i := 1981) (by decide +kernel), rfl⟩
theorem w_2011 : Cond.constantLong RX9 415 6 ∈ lw_ok := List.mem_filter.mpr ⟨List.mem_of_getElem? (i := 2011) (by decide +kernel), rfl⟩
def NW (U : State) : Prop := va_Nw (Cond.methodLinkNest RX8 9 yX5_init "LeakyLine") U ∧ va_Nw (Cond.methodLinkNest RX8 18 yX7_init "LeakyLine") U ∧ va_Nw (Cond.methodLinkNest RX8 25 yX6_init "LeakyLine") U ∧ va_Nw (Cond.methodLinkNest RX8 32 yX2_init "LeakyLine") U ∧ va_Nw (Cond.methodLinkNest RX8 46 yX3_init "LeakyLine") U ∧ va_Nw (Cond.methodLinkNest RX8 53 yX4_init "LeakyLine") U ∧ va_Nw (Cond.methodLinkNest RX8 60 yX1_init "LeakyLine") U ∧ va_Nw (Cond.methodLinkNest RX8 67 yX0_init "LeakyLine") U ∧ va_Nw (Cond.methodLinkNest RX4 47 yX8_hasBit "LeakyLine") U ∧ va_AO "LeakyLine$Line" U
theorem NW.n9 {U : State} (h : NW U) : va_Nw (Cond.methodLinkNest RX8 9 yX5_init "LeakyLine") U := h.1
theorem NW.n18 {U : State} (h : NW U) : va_Nw (Cond.methodLinkNest RX8 18 yX7_init "LeakyLine") U := h.2.1
theorem NW.n25 {U : State} (h : NW U) : va_Nw (Cond.methodLinkNest RX8 25 yX6_init "LeakyLine") U := h.2.2.1
theorem NW.n32 {U : State} (h : NW U) : va_Nw (Cond.methodLinkNest RX8 32 yX2_init "LeakyLine") U := h.2.2.2.1
theorem NW.n46 {U : State} (h : NW U) : va_Nw (Cond.methodLinkNest RX8 46 yX3_init "LeakyLine") U := h.2.2.2.2.1
theorem NW.n53 {U : State} (h : NW U) : va_Nw (Cond.methodLinkNest RX8 53 yX4_init "LeakyLine") U := h.2.2.2.2.2.1
theorem NW.n60 {U : State} (h : NW U) : va_Nw (Cond.methodLinkNest RX8 60 yX1_init "LeakyLine") U := h.2.2.2.2.2.2.1
theorem NW.n67 {U : State} (h : NW U) : va_Nw (Cond.methodLinkNest RX8 67 yX0_init "LeakyLine") U := h.2.2.2.2.2.2.2.1
theorem NW.n47 {U : State} (h : NW U) : va_Nw (Cond.methodLinkNest RX4 47 yX8_hasBit "LeakyLine") U := h.2.2.2.2.2.2.2.2.1
theorem NW.ao {U : State} (h : NW U) : va_AO "LeakyLine$Line" U := h.2.2.2.2.2.2.2.2.2
theorem NW.same {u U : State} (e : u.vm = U.vm) (h : NW u) : NW U := ⟨va_Nw.same rfl e h.n9, va_Nw.same rfl e h.n18, va_Nw.same rfl e h.n25, va_Nw.same rfl e h.n32, va_Nw.same rfl e h.n46, va_Nw.same rfl e h.n53, va_Nw.same rfl e h.n60, va_Nw.same rfl e h.n67, va_Nw.same rfl e h.n47, h.ao.moved (by rw [e]; exact Vm.Alike.refl U.vm)⟩
theorem NW.warm {s U : State} (hW : s.WarmedH U.vm) (h : NW s) : NW U := ⟨va_Nw.warmM hW h.n9, va_Nw.warmM hW h.n18, va_Nw.warmM hW h.n25, va_Nw.warmM hW h.n32, va_Nw.warmM hW h.n46, va_Nw.warmM hW h.n53, va_Nw.warmM hW h.n60, va_Nw.warmM hW h.n67, va_Nw.warmM hW h.n47, h.ao.moved hW.alike⟩
theorem fbQn {D : va_G} {cl : List vw_C} {ws : va_W} {tys : List (ClassId × FieldType)} {av : List Value} {sz : Nat} : FrameBlind (va_Pc av (fun U => U.heap.size = sz ∧ va_P D cl ws U.heap ∧ va_K D cl tys U ∧ va_D (fun _ => True) ws ∧ NW U)) := fun a U g mk q => by
  obtain ⟨q0, q1, qP, qK, qD, qN⟩ := q
  exact ⟨q0, q1, qP, va_K.moved (u := U) (U := U.calling g mk a) (Vm.Alike.refl U.vm) qK, qD, NW.same (u := U) (U := U.calling g mk a) rfl qN⟩
theorem pSQn {D : va_G} {cl : List vw_C} {ws : va_W} {tys : List (ClassId × FieldType)} {As : List Value} {s : State} {H : Heap} {A : Nat → Prop} (hN : NW s) (hK : va_K D cl tys s) (hP : va_P D cl ws H) (hD : va_D A ws) : PreS s H (va_Pc As (fun U => U.heap.size = H.size ∧ va_P D cl ws U.heap ∧ va_K D cl tys U ∧ va_D (fun _ => True) ws ∧ NW U)) As := ⟨fbQn, fun U hU hW => ⟨rfl, by rw [hU], by rw [hU]; exact hP, va_K.moved hW.alike hK, hD.weaken (fun _ _ _ _ => trivial), hN.warm hW⟩⟩
theorem pVQn {D : va_G} {cl : List vw_C} {ws : va_W} {tys : List (ClassId × FieldType)} {As : List Value} {s : State} {H : Heap} {A : Nat → Prop} {a q0 ci : Nat} {fs : List Value} {r : vw_C} (hN : NW s) (hK : va_K D cl tys s) (hP : va_P D cl ws H) (hD : va_D A ws) (hc : cl[ci]? = some r) (he : ws[q0]? = some (a, .inr (ci, fs))) : PreV s H r.1 a (va_Pc (.ref a :: As) (fun U => U.heap.size = H.size ∧ va_P D cl ws U.heap ∧ va_K D cl tys U ∧ va_D (fun _ => True) ws ∧ NW U)) As := ⟨fbQn, va_recv hK hP hc he, fun U hU hW => ⟨rfl, by rw [hU], by rw [hU]; exact hP, va_K.moved hW.alike hK, hD.weaken (fun _ _ _ _ => trivial), hN.warm hW⟩⟩
