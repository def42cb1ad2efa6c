def fc_all : List Cond := lw_tbl.filter goodWord
theorem fc_mem {w : Cond} (h : w ∈ tables_1) (hg : goodWord w = true) : w ∈ fc_all := List.mem_filter.mpr ⟨List.mem_append_right _ h, hg⟩
theorem fc_1 {w : Cond} {i : Nat} (h : tables_1_1[i]? = some w) (hg : goodWord w = true) : w ∈ fc_all := fc_mem (List.mem_append_left _ (List.mem_of_getElem? h)) hg
theorem fc_2 {w : Cond} {i : Nat} (h : tables_1_2[i]? = some w) (hg : goodWord w = true) : w ∈ fc_all := fc_mem (List.mem_append_right _ (List.mem_append_left _ (List.mem_of_getElem? h))) hg
theorem fc_3 {w : Cond} {i : Nat} (h : tables_1_3[i]? = some w) (hg : goodWord w = true) : w ∈ fc_all := fc_mem (List.mem_append_right _ (List.mem_append_right _ (List.mem_of_getElem? h))) hg
theorem fc_s {w : Cond} {i : Nat} (h : (k2_sels lw_privs)[i]? = some w) (hg : goodWord w = true) : w ∈ fc_all := List.mem_filter.mpr ⟨List.mem_append_left _ (List.mem_of_getElem? h), hg⟩
theorem fc_good : GoodIn fc_all fc_all := fun w h => ⟨h, good_of_word (List.mem_filter.mp h).2⟩
def RJ0 : String := "java/lang/Integer"
def RJ1 : String := "java/lang/Long"
def RL : String := "FloatCircuitsLaw"
def RX0 : String := "FloatCircuits$Format"
def RX1 : String := "FloatCircuits$Gates"
def RX2 : String := "FloatCircuits$Reckoner"
def RX3 : String := "FloatCircuits$Rounder"
def RX4 : String := "FloatCircuits$Value"
def RX5 : String := "FloatCircuits"
def RX6 : String := "FloatCircuitsModel"
abbrev cX5_init : ByteArray := prog_1_method_1_code
def yX5_init : MethodName := ⟨RX5, "<init>", "()V"⟩
abbrev cX0_init : ByteArray := prog_2_method_1_code
def yX0_init : MethodName := ⟨RX0, "<init>", "(II)V"⟩
abbrev cL_format : ByteArray := method_3_code
def yL_format : MethodName := ⟨RL, "format", "(LFloatCircuits;II[J)I"⟩
abbrev cX5_format : ByteArray := prog_1_method_2_code
def yX5_format : MethodName := ⟨RX5, "format", "(II)I"⟩
abbrev cX5_isFormat : ByteArray := prog_1_method_15_code
def yX5_isFormat : MethodName := ⟨RX5, "isFormat", "(II)Z"⟩
abbrev cX5_isWithin : ByteArray := prog_1_method_13_code
def yX5_isWithin : MethodName := ⟨RX5, "isWithin", "(III)Z"⟩
abbrev cX5_require : ByteArray := prog_1_method_12_code
def yX5_require : MethodName := ⟨RX5, "require", "(Z)V"⟩
abbrev cL_reckon : ByteArray := method_4_code
def yL_reckon : MethodName := ⟨RL, "reckon", "(LFloatCircuits;IIII[J)I"⟩
abbrev cX5_reckon : ByteArray := prog_1_method_3_code
def yX5_reckon : MethodName := ⟨RX5, "reckon", "(IIII)I"⟩
abbrev cX5_isMode : ByteArray := prog_1_method_14_code
def yX5_isMode : MethodName := ⟨RX5, "isMode", "(I)Z"⟩
abbrev cX0_holds : ByteArray := prog_2_method_2_code
def yX0_holds : MethodName := ⟨RX0, "holds", "(I)Z"⟩
abbrev cX0_unpack : ByteArray := prog_2_method_6_code
def yX0_unpack : MethodName := ⟨RX0, "unpack", "(I)LFloatCircuits$Value;"⟩
abbrev cX0_signOf : ByteArray := prog_2_method_10_code
def yX0_signOf : MethodName := ⟨RX0, "signOf", "(I)J"⟩
abbrev cX0_isNan : ByteArray := prog_2_method_3_code
def yX0_isNan : MethodName := ⟨RX0, "isNan", "(I)Z"⟩
abbrev cX0_unsigned : ByteArray := prog_2_method_9_code
def yX0_unsigned : MethodName := ⟨RX0, "unsigned", "(I)J"⟩
abbrev cX1_below : ByteArray := prog_3_method_10_code
def yX1_below : MethodName := ⟨RX1, "below", "(JJ)J"⟩
abbrev cX1_difference : ByteArray := prog_3_method_8_code
def yX1_difference : MethodName := ⟨RX1, "difference", "(JJ)J"⟩
abbrev cX1_add : ByteArray := prog_3_method_11_code
def yX1_add : MethodName := ⟨RX1, "add", "(JJJ)J"⟩
abbrev cX1_isNegative : ByteArray := prog_3_method_6_code
def yX1_isNegative : MethodName := ⟨RX1, "isNegative", "(J)J"⟩
abbrev cX4_notANumber : ByteArray := prog_6_method_2_code
def yX4_notANumber : MethodName := ⟨RX4, "notANumber", "()LFloatCircuits$Value;"⟩
abbrev cX4_init : ByteArray := prog_6_method_1_code
def yX4_init : MethodName := ⟨RX4, "<init>", "(ZZJJJ)V"⟩
abbrev cX1_any : ByteArray := prog_3_method_5_code
def yX1_any : MethodName := ⟨RX1, "any", "(J)J"⟩
abbrev cX4_infinity : ByteArray := prog_6_method_3_code
def yX4_infinity : MethodName := ⟨RX4, "infinity", "(J)LFloatCircuits$Value;"⟩
abbrev cX1_ones : ByteArray := prog_3_method_2_code
def yX1_ones : MethodName := ⟨RX1, "ones", "(I)J"⟩
abbrev cX1_sum : ByteArray := prog_3_method_7_code
def yX1_sum : MethodName := ⟨RX1, "sum", "(JJ)J"⟩
abbrev cX4_finite : ByteArray := prog_6_method_4_code
def yX4_finite : MethodName := ⟨RX4, "finite", "(JJJ)LFloatCircuits$Value;"⟩
abbrev cX2_sum : ByteArray := prog_4_method_2_code
def yX2_sum : MethodName := ⟨RX2, "sum", "(ILFloatCircuits$Value;LFloatCircuits$Value;)LFloatCircuits$Value;"⟩
abbrev cX1_choose : ByteArray := prog_3_method_4_code
def yX1_choose : MethodName := ⟨RX1, "choose", "(JJJ)J"⟩
abbrev cX1_fan : ByteArray := prog_3_method_3_code
def yX1_fan : MethodName := ⟨RX1, "fan", "(J)J"⟩
abbrev cX2_signedAt : ByteArray := prog_4_method_3_code
def yX2_signedAt : MethodName := ⟨RX2, "signedAt", "(JLFloatCircuits$Value;)J"⟩
abbrev cX1_shiftLeft : ByteArray := prog_3_method_12_code
def yX1_shiftLeft : MethodName := ⟨RX1, "shiftLeft", "(JJ)J"⟩
abbrev cX1_negateIf : ByteArray := prog_3_method_9_code
def yX1_negateIf : MethodName := ⟨RX1, "negateIf", "(JJ)J"⟩
abbrev cX2_signOfZeroSum : ByteArray := prog_4_method_4_code
def yX2_signOfZeroSum : MethodName := ⟨RX2, "signOfZeroSum", "(IJJ)J"⟩
abbrev cX0_pack : ByteArray := prog_2_method_7_code
def yX0_pack : MethodName := ⟨RX0, "pack", "(ILFloatCircuits$Value;)I"⟩
abbrev cX0_signed : ByteArray := prog_2_method_11_code
def yX0_signed : MethodName := ⟨RX0, "signed", "(JJ)I"⟩
abbrev cX4_isZero : ByteArray := prog_6_method_6_code
def yX4_isZero : MethodName := ⟨RX4, "isZero", "()Z"⟩
abbrev cX0_packMagnitude : ByteArray := prog_2_method_8_code
def yX0_packMagnitude : MethodName := ⟨RX0, "packMagnitude", "(ILFloatCircuits$Value;)J"⟩
abbrev cX1_top : ByteArray := prog_3_method_14_code
def yX1_top : MethodName := ⟨RX1, "top", "(J)J"⟩
abbrev cX3_round : ByteArray := prog_5_method_2_code
def yX3_round : MethodName := ⟨RX3, "round", "(ILFloatCircuits$Value;J)J"⟩
abbrev cX1_shiftRightMarking : ByteArray := prog_3_method_13_code
def yX1_shiftRightMarking : MethodName := ⟨RX1, "shiftRightMarking", "(JJ)J"⟩
abbrev cX3_oneMore : ByteArray := prog_5_method_3_code
def yX3_oneMore : MethodName := ⟨RX3, "oneMore", "(IJJJJ)J"⟩
abbrev cX3_isEndless : ByteArray := prog_5_method_4_code
def yX3_isEndless : MethodName := ⟨RX3, "isEndless", "(IJ)Z"⟩
abbrev cX4_opposite : ByteArray := prog_6_method_5_code
def yX4_opposite : MethodName := ⟨RX4, "opposite", "()LFloatCircuits$Value;"⟩
abbrev cX2_product : ByteArray := prog_4_method_5_code
def yX2_product : MethodName := ⟨RX2, "product", "(LFloatCircuits$Value;LFloatCircuits$Value;)LFloatCircuits$Value;"⟩
abbrev cX1_product : ByteArray := prog_3_method_15_code
def yX1_product : MethodName := ⟨RX1, "product", "(JJI)J"⟩
abbrev cX2_quotient : ByteArray := prog_4_method_6_code
def yX2_quotient : MethodName := ⟨RX2, "quotient", "(LFloatCircuits$Value;LFloatCircuits$Value;)LFloatCircuits$Value;"⟩
abbrev cX1_quotient : ByteArray := prog_3_method_16_code
def yX1_quotient : MethodName := ⟨RX1, "quotient", "(JJI)J"⟩
abbrev cL_change : ByteArray := method_5_code
def yL_change : MethodName := ⟨RL, "change", "(LFloatCircuits;III[J)I"⟩
abbrev cX5_change : ByteArray := prog_1_method_4_code
def yX5_change : MethodName := ⟨RX5, "change", "(III)I"⟩
abbrev cX2_root : ByteArray := prog_4_method_7_code
def yX2_root : MethodName := ⟨RX2, "root", "(LFloatCircuits$Value;)LFloatCircuits$Value;"⟩
abbrev cX1_root : ByteArray := prog_3_method_17_code
def yX1_root : MethodName := ⟨RX1, "root", "(JI)J"⟩
abbrev cX2_whole : ByteArray := prog_4_method_8_code
def yX2_whole : MethodName := ⟨RX2, "whole", "(ILFloatCircuits$Value;)LFloatCircuits$Value;"⟩
abbrev cL_least : ByteArray := method_6_code
def yL_least : MethodName := ⟨RL, "least", "(LFloatCircuits;IIZ[J)I"⟩
abbrev cX5_least : ByteArray := prog_1_method_5_code
def yX5_least : MethodName := ⟨RX5, "least", "(IIZ)I"⟩
abbrev cX0_isBelow : ByteArray := prog_2_method_5_code
def yX0_isBelow : MethodName := ⟨RX0, "isBelow", "(II)Z"⟩
abbrev cX0_rank : ByteArray := prog_2_method_12_code
def yX0_rank : MethodName := ⟨RX0, "rank", "(I)J"⟩
abbrev cL_compare : ByteArray := method_7_code
def yL_compare : MethodName := ⟨RL, "compare", "(LFloatCircuits;III[J)I"⟩
abbrev cX5_compare : ByteArray := prog_1_method_6_code
def yX5_compare : MethodName := ⟨RX5, "compare", "(III)Z"⟩
abbrev cL_is : ByteArray := method_8_code
def yL_is : MethodName := ⟨RL, "is", "(LFloatCircuits;II[J)I"⟩
abbrev cX5_is : ByteArray := prog_1_method_7_code
def yX5_is : MethodName := ⟨RX5, "is", "(II)Z"⟩
abbrev cX0_hasHiddenOne : ByteArray := prog_2_method_4_code
def yX0_hasHiddenOne : MethodName := ⟨RX0, "hasHiddenOne", "(I)Z"⟩
abbrev cL_from : ByteArray := method_9_code
def yL_from : MethodName := ⟨RL, "from", "(LFloatCircuits;IIII[J)I"⟩
abbrev cX5_from : ByteArray := prog_1_method_8_code
def yX5_from : MethodName := ⟨RX5, "from", "(IIII)I"⟩
abbrev cL_ofWhole : ByteArray := method_10_code
def yL_ofWhole : MethodName := ⟨RL, "ofWhole", "(LFloatCircuits;IIIZ[J)I"⟩
abbrev cX5_ofWhole : ByteArray := prog_1_method_9_code
def yX5_ofWhole : MethodName := ⟨RX5, "ofWhole", "(IIIZ)I"⟩
abbrev cL_toWhole : ByteArray := method_11_code
def yL_toWhole : MethodName := ⟨RL, "toWhole", "(LFloatCircuits;IIIZ[J)I"⟩
abbrev cX5_toWhole : ByteArray := prog_1_method_10_code
def yX5_toWhole : MethodName := ⟨RX5, "toWhole", "(IIIZ)I"⟩
abbrev cX5_isWithinBits : ByteArray := prog_1_method_11_code
def yX5_isWithinBits : MethodName := ⟨RX5, "isWithinBits", "(LFloatCircuits$Value;IZ)Z"⟩
abbrev cX6_init : ByteArray := prog_8_method_1_code
def yX6_init : MethodName := ⟨RX6, "<init>", "()V"⟩
abbrev cX6_thrown : ByteArray := prog_8_method_2_code
def yX6_thrown : MethodName := ⟨RX6, "thrown", "()I"⟩
abbrev cX6_format : ByteArray := prog_8_method_13_code
def yX6_format : MethodName := ⟨RX6, "format", "(II)I"⟩
abbrev cX6_isFormat : ByteArray := prog_8_method_5_code
def yX6_isFormat : MethodName := ⟨RX6, "isFormat", "(II)Z"⟩
abbrev cX6_in : ByteArray := prog_8_method_4_code
def yX6_in : MethodName := ⟨RX6, "in", "(III)Z"⟩
abbrev cX6_good : ByteArray := prog_8_method_3_code
def yX6_good : MethodName := ⟨RX6, "good", "(Z)Z"⟩
abbrev cX6_reckon : ByteArray := prog_8_method_14_code
def yX6_reckon : MethodName := ⟨RX6, "reckon", "(IIII)I"⟩
abbrev cX6_isFloat : ByteArray := prog_8_method_12_code
def yX6_isFloat : MethodName := ⟨RX6, "isFloat", "(II)Z"⟩
abbrev cX6_width : ByteArray := prog_8_method_8_code
def yX6_width : MethodName := ⟨RX6, "width", "(I)I"⟩
abbrev cX6_exponent : ByteArray := prog_8_method_6_code
def yX6_exponent : MethodName := ⟨RX6, "exponent", "(I)I"⟩
abbrev cX6_significand : ByteArray := prog_8_method_7_code
def yX6_significand : MethodName := ⟨RX6, "significand", "(I)I"⟩
abbrev cX6_mask : ByteArray := prog_8_method_9_code
def yX6_mask : MethodName := ⟨RX6, "mask", "(I)J"⟩
abbrev cX6_arithmetic : ByteArray := prog_8_method_27_code
def yX6_arithmetic : MethodName := ⟨RX6, "arithmetic", "(IIJJI)J"⟩
abbrev cX6_nan : ByteArray := prog_8_method_11_code
def yX6_nan : MethodName := ⟨RX6, "nan", "(II)J"⟩
abbrev cX6_take : ByteArray := prog_8_method_22_code
def yX6_take : MethodName := ⟨RX6, "take", "(JI)V"⟩
abbrev cX6_round : ByteArray := prog_8_method_25_code
def yX6_round : MethodName := ⟨RX6, "round", "(IZJIZI)J"⟩
abbrev cJ1_numberOfLeadingZeros : ByteArray := prog_12_method_48_code
def yJ1_numberOfLeadingZeros : MethodName := ⟨RJ1, "numberOfLeadingZeros", "(J)I"⟩
abbrev cJ0_numberOfLeadingZeros : ByteArray := prog_11_method_47_code
def yJ0_numberOfLeadingZeros : MethodName := ⟨RJ0, "numberOfLeadingZeros", "(I)I"⟩
abbrev cX6_cut : ByteArray := prog_8_method_24_code
def yX6_cut : MethodName := ⟨RX6, "cut", "(JIZIZ)J"⟩
abbrev cX6_away : ByteArray := prog_8_method_23_code
def yX6_away : MethodName := ⟨RX6, "away", "(IZZZI)Z"⟩
abbrev cX6_change : ByteArray := prog_8_method_15_code
def yX6_change : MethodName := ⟨RX6, "change", "(III)I"⟩
abbrev cX6_canonical : ByteArray := prog_8_method_26_code
def yX6_canonical : MethodName := ⟨RX6, "canonical", "(JI)J"⟩
abbrev cX6_squareRoot : ByteArray := prog_8_method_28_code
def yX6_squareRoot : MethodName := ⟨RX6, "squareRoot", "(IJI)J"⟩
abbrev cX6_whole : ByteArray := prog_8_method_29_code
def yX6_whole : MethodName := ⟨RX6, "whole", "(IJI)J"⟩
abbrev cX6_least : ByteArray := prog_8_method_16_code
def yX6_least : MethodName := ⟨RX6, "least", "(IIZ)I"⟩
abbrev cX6_extreme : ByteArray := prog_8_method_31_code
def yX6_extreme : MethodName := ⟨RX6, "extreme", "(ZJJI)J"⟩
abbrev cX6_order : ByteArray := prog_8_method_30_code
def yX6_order : MethodName := ⟨RX6, "order", "(JJI)I"⟩
abbrev cX6_compare : ByteArray := prog_8_method_17_code
def yX6_compare : MethodName := ⟨RX6, "compare", "(III)Z"⟩
abbrev cX6_compared : ByteArray := prog_8_method_32_code
def yX6_compared : MethodName := ⟨RX6, "compared", "(IJJI)J"⟩
abbrev cX6_is : ByteArray := prog_8_method_18_code
def yX6_is : MethodName := ⟨RX6, "is", "(II)Z"⟩
abbrev cX6_told : ByteArray := prog_8_method_33_code
def yX6_told : MethodName := ⟨RX6, "told", "(IJI)J"⟩
abbrev cX6_from : ByteArray := prog_8_method_19_code
def yX6_from : MethodName := ⟨RX6, "from", "(IIII)I"⟩
abbrev cX6_ofWhole : ByteArray := prog_8_method_20_code
def yX6_ofWhole : MethodName := ⟨RX6, "ofWhole", "(IIIZ)I"⟩
abbrev cX6_signed : ByteArray := prog_8_method_10_code
def yX6_signed : MethodName := ⟨RX6, "signed", "(JI)J"⟩
abbrev cX6_toWhole : ByteArray := prog_8_method_21_code
def yX6_toWhole : MethodName := ⟨RX6, "toWhole", "(IIIZ)I"⟩
abbrev cL_law : ByteArray := code
def yL_law : MethodName := ⟨RL, "law", "([I)Z"⟩
theorem wk0 : (.initialized RL : Cond) ∈ fc_all := fc_1 (i := 0) rfl rfl
theorem wk1 : (.initialized RX5 : Cond) ∈ fc_all := fc_1 (i := 1) rfl rfl
theorem wk2 : (.initialized RX0 : Cond) ∈ fc_all := fc_1 (i := 2) rfl rfl
theorem wk3 : (.initialized RX6 : Cond) ∈ fc_all := fc_1 (i := 3) rfl rfl
theorem wk4 : (.initialized "java/lang/Throwable" : Cond) ∈ fc_all := fc_1 (i := 4) rfl rfl
theorem wk5 : (.initialized "java/lang/Exception" : Cond) ∈ fc_all := fc_1 (i := 5) rfl rfl
theorem wk6 : (.initialized "java/lang/RuntimeException" : Cond) ∈ fc_all := fc_1 (i := 6) rfl rfl
theorem wk7 : (.initialized "java/lang/IllegalArgumentException" : Cond) ∈ fc_all := fc_1 (i := 7) rfl rfl
theorem wk8 : (.initialized RX1 : Cond) ∈ fc_all := fc_1 (i := 8) rfl rfl
theorem wk9 : (.initialized RX4 : Cond) ∈ fc_all := fc_1 (i := 9) rfl rfl
theorem wk10 : (.initialized RX2 : Cond) ∈ fc_all := fc_1 (i := 10) rfl rfl
theorem wk11 : (.initialized RX3 : Cond) ∈ fc_all := fc_1 (i := 11) rfl rfl
theorem wk12 : (.initialized RJ1 : Cond) ∈ fc_all := fc_1 (i := 12) rfl rfl
theorem wk13 : (.initialized RJ0 : Cond) ∈ fc_all := fc_1 (i := 13) rfl rfl
theorem wk14 : (.classLink RL 8 RX5 : Cond) ∈ fc_all := fc_1 (i := 14) rfl rfl
theorem wk15 : (.instantiable RX5 1 : Cond) ∈ fc_all := fc_1 (i := 15) rfl rfl
theorem wk16 : (.methodLink RL 45 yX5_init : Cond) ∈ fc_all := fc_1 (i := 16) rfl rfl
theorem wk17 : (.instanceMethod yX5_init : Cond) ∈ fc_all := fc_1 (i := 17) rfl rfl
theorem wk18 : (.code yX5_init prog_1_method_1_code 1 none : Cond) ∈ fc_all := fc_1 (i := 18) rfl rfl
theorem wk19 : (.methodLink RX5 1 objectInit : Cond) ∈ fc_all := fc_1 (i := 19) rfl rfl
theorem wk20 : (.instanceMethod objectInit : Cond) ∈ fc_all := fc_1 (i := 20) rfl rfl
theorem wk21 : (.code objectInit object_method_1_code 1 none : Cond) ∈ fc_all := fc_1 (i := 21) rfl rfl
theorem wk22 : (.classLink RX5 7 RX0 : Cond) ∈ fc_all := fc_1 (i := 22) rfl rfl
theorem wk23 : (.instantiable RX0 6 : Cond) ∈ fc_all := fc_1 (i := 23) rfl rfl
theorem wk24 : (.methodLink RX5 9 yX0_init : Cond) ∈ fc_all := fc_1 (i := 24) rfl rfl
theorem wk25 : (.instanceMethod yX0_init : Cond) ∈ fc_all := fc_1 (i := 25) rfl rfl
theorem wk26 : (.code yX0_init prog_2_method_1_code 4 none : Cond) ∈ fc_all := fc_1 (i := 26) rfl rfl
theorem wk27 : (.methodLink RX0 1 objectInit : Cond) ∈ fc_all := fc_1 (i := 27) rfl rfl
theorem wk28 : (.fieldLink RX0 7 "FloatCircuits$Format" "width" "I" : Cond) ∈ fc_all := fc_1 (i := 28) rfl rfl
theorem wk29 : (.fieldLink RX5 26 "FloatCircuits$Format" "width" "I" : Cond) ∈ fc_all := fc_1 (i := 29) rfl rfl
theorem wk30 : (.fieldLink RX0 13 "FloatCircuits$Format" "fractionBits" "I" : Cond) ∈ fc_all := fc_1 (i := 30) rfl rfl
theorem wk31 : (.fieldLink RX0 16 "FloatCircuits$Format" "signBit" "I" : Cond) ∈ fc_all := fc_1 (i := 31) rfl rfl
theorem wk32 : (.fieldLink RX5 82 "FloatCircuits$Format" "signBit" "I" : Cond) ∈ fc_all := fc_1 (i := 32) rfl rfl
theorem wk33 : (.fieldLink RX0 19 "FloatCircuits$Format" "infinity" "I" : Cond) ∈ fc_all := fc_1 (i := 33) rfl rfl
theorem wk34 : (.fieldLink RX0 22 "FloatCircuits$Format" "nan" "I" : Cond) ∈ fc_all := fc_1 (i := 34) rfl rfl
theorem wk35 : (.fieldLink RX5 80 "FloatCircuits$Format" "nan" "I" : Cond) ∈ fc_all := fc_1 (i := 35) rfl rfl
theorem wk36 : (.fieldLink RX0 25 "FloatCircuits$Format" "finest" "I" : Cond) ∈ fc_all := fc_1 (i := 36) rfl rfl
theorem wk37 : (.fieldLink RX5 12 "FloatCircuits" "present" "LFloatCircuits$Format;" : Cond) ∈ fc_all := fc_1 (i := 50) rfl rfl
theorem wk38 : (.methodLink RL 49 yL_format : Cond) ∈ fc_all := fc_1 (i := 54) rfl rfl
theorem wk39 : (.static yL_format : Cond) ∈ fc_all := fc_1 (i := 55) rfl rfl
theorem wk40 : (.codeWith yL_format method_3_code 5 (some .int) [(0, 10, 13, 13)] : Cond) ∈ fc_all := fc_1 (i := 56) rfl rfl
theorem wk41 : (.classLink RL 13 "java/lang/IllegalArgumentException" : Cond) ∈ fc_all := fc_1 (i := 57) rfl rfl
theorem wk42 : (.methodLink RL 7 yX5_format : Cond) ∈ fc_all := fc_1 (i := 58) rfl rfl
theorem wk43 : (.instanceMethod yX5_format : Cond) ∈ fc_all := fc_1 (i := 59) rfl rfl
theorem wk44 : (.selects RX5 yX5_format yX5_format : Cond) ∈ fc_all := fc_1 (i := 60) rfl rfl
theorem wk45 : (.code yX5_format prog_1_method_2_code 3 (some .int) : Cond) ∈ fc_all := fc_1 (i := 61) rfl rfl
theorem wk46 : (.methodLink RX5 18 yX5_isFormat : Cond) ∈ fc_all := fc_1 (i := 62) rfl rfl
theorem wk47 : (.static yX5_isFormat : Cond) ∈ fc_all := fc_1 (i := 63) rfl rfl
theorem wk48 : (.code yX5_isFormat prog_1_method_15_code 2 (some .boolean) : Cond) ∈ fc_all := fc_1 (i := 64) rfl rfl
theorem wk49 : (.methodLink RX5 30 yX5_isWithin : Cond) ∈ fc_all := fc_1 (i := 65) rfl rfl
theorem wk50 : (.static yX5_isWithin : Cond) ∈ fc_all := fc_1 (i := 66) rfl rfl
theorem wk51 : (.code yX5_isWithin prog_1_method_13_code 3 (some .boolean) : Cond) ∈ fc_all := fc_1 (i := 67) rfl rfl
theorem wk52 : (.methodLink RX5 22 yX5_require : Cond) ∈ fc_all := fc_1 (i := 68) rfl rfl
theorem wk53 : (.static yX5_require : Cond) ∈ fc_all := fc_1 (i := 69) rfl rfl
theorem wk54 : (.code yX5_require prog_1_method_12_code 1 none : Cond) ∈ fc_all := fc_1 (i := 70) rfl rfl
theorem wk55 : (.classLink RX5 138 "java/lang/IllegalArgumentException" : Cond) ∈ fc_all := fc_1 (i := 71) rfl rfl
theorem wk56 : (.instantiable "java/lang/IllegalArgumentException" 6 : Cond) ∈ fc_all := fc_1 (i := 72) rfl rfl
theorem wk57 : (.selects "java/lang/IllegalArgumentException" ⟨"java/lang/Throwable", "fillInStackTrace", "(I)Ljava/lang/Throwable;"⟩ ⟨"java/lang/Throwable", "fillInStackTrace", "(I)Ljava/lang/Throwable;"⟩ : Cond) ∈ fc_all := fc_1 (i := 80) rfl rfl
theorem wk58 : (.selects "java/lang/IllegalArgumentException" ⟨"java/lang/Throwable", "fillInStackTrace", "()Ljava/lang/Throwable;"⟩ ⟨"java/lang/Throwable", "fillInStackTrace", "()Ljava/lang/Throwable;"⟩ : Cond) ∈ fc_all := fc_1 (i := 81) rfl rfl
theorem wk59 : (.fieldLink "java/lang/Throwable" 198 "java/lang/Throwable" "backtrace" "Ljava/lang/Object;" : Cond) ∈ fc_all := fc_1 (i := 92) rfl rfl
theorem wk60 : (.instanceMethod ⟨"java/lang/Throwable", "<init>", "()V"⟩ : Cond) ∈ fc_all := fc_1 (i := 94) rfl rfl
theorem wk61 : (.code ⟨"java/lang/Throwable", "<init>", "()V"⟩ prog_14_method_1_code 1 none : Cond) ∈ fc_all := fc_1 (i := 95) rfl rfl
theorem wk62 : (.methodLink "java/lang/Throwable" 1 objectInit : Cond) ∈ fc_all := fc_1 (i := 96) rfl rfl
theorem wk63 : (.fieldLink "java/lang/Throwable" 13 "java/lang/Throwable" "UNASSIGNED_STACK" "[Ljava/lang/StackTraceElement;" : Cond) ∈ fc_all := fc_1 (i := 97) rfl rfl
theorem wk64 : (.fieldLink "java/lang/Throwable" 20 "java/lang/Throwable" "SUPPRESSED_SENTINEL" "Ljava/util/List;" : Cond) ∈ fc_all := fc_1 (i := 99) rfl rfl
theorem wk65 : (.methodLink "java/lang/Throwable" 27 ⟨"java/lang/Throwable", "fillInStackTrace", "()Ljava/lang/Throwable;"⟩ : Cond) ∈ fc_all := fc_1 (i := 101) rfl rfl
theorem wk66 : (.instanceMethod ⟨"java/lang/Throwable", "fillInStackTrace", "()Ljava/lang/Throwable;"⟩ : Cond) ∈ fc_all := fc_1 (i := 102) rfl rfl
theorem wk67 : (.methodLink "java/lang/Throwable" 202 ⟨"java/lang/Throwable", "fillInStackTrace", "(I)Ljava/lang/Throwable;"⟩ : Cond) ∈ fc_all := fc_1 (i := 105) rfl rfl
theorem wk68 : (.instanceMethod ⟨"java/lang/Throwable", "fillInStackTrace", "(I)Ljava/lang/Throwable;"⟩ : Cond) ∈ fc_all := fc_1 (i := 107) rfl rfl
theorem wk69 : (.instantiable "java/lang/Throwable" 6 : Cond) ∈ fc_all := fc_1 (i := 108) rfl rfl
theorem wk70 : (.methodLink RX5 140 ⟨"java/lang/IllegalArgumentException", "<init>", "()V"⟩ : Cond) ∈ fc_all := fc_1 (i := 110) rfl rfl
theorem wk71 : (.instanceMethod ⟨"java/lang/IllegalArgumentException", "<init>", "()V"⟩ : Cond) ∈ fc_all := fc_1 (i := 111) rfl rfl
theorem wk72 : (.code ⟨"java/lang/IllegalArgumentException", "<init>", "()V"⟩ prog_10_method_1_code 1 none : Cond) ∈ fc_all := fc_1 (i := 112) rfl rfl
theorem wk73 : (.methodLink "java/lang/IllegalArgumentException" 1 ⟨"java/lang/RuntimeException", "<init>", "()V"⟩ : Cond) ∈ fc_all := fc_1 (i := 113) rfl rfl
theorem wk74 : (.instanceMethod ⟨"java/lang/RuntimeException", "<init>", "()V"⟩ : Cond) ∈ fc_all := fc_1 (i := 114) rfl rfl
theorem wk75 : (.code ⟨"java/lang/RuntimeException", "<init>", "()V"⟩ prog_13_method_1_code 1 none : Cond) ∈ fc_all := fc_1 (i := 115) rfl rfl
theorem wk76 : (.methodLink "java/lang/RuntimeException" 1 ⟨"java/lang/Exception", "<init>", "()V"⟩ : Cond) ∈ fc_all := fc_1 (i := 116) rfl rfl
theorem wk77 : (.instanceMethod ⟨"java/lang/Exception", "<init>", "()V"⟩ : Cond) ∈ fc_all := fc_1 (i := 117) rfl rfl
theorem wk78 : (.code ⟨"java/lang/Exception", "<init>", "()V"⟩ prog_9_method_1_code 1 none : Cond) ∈ fc_all := fc_1 (i := 118) rfl rfl
theorem wk79 : (.methodLink "java/lang/Exception" 1 ⟨"java/lang/Throwable", "<init>", "()V"⟩ : Cond) ∈ fc_all := fc_1 (i := 119) rfl rfl
theorem wk81 : (.fieldLink "java/lang/Throwable" 7 "java/lang/Throwable" "cause" "Ljava/lang/Throwable;" : Cond) ∈ fc_all := fc_1 (i := 121) rfl rfl
theorem wk82 : (.fieldLink "java/lang/Throwable" 17 "java/lang/Throwable" "stackTrace" "[Ljava/lang/StackTraceElement;" : Cond) ∈ fc_all := fc_1 (i := 122) rfl rfl
theorem wk83 : (.fieldLink "java/lang/Throwable" 24 "java/lang/Throwable" "suppressedExceptions" "Ljava/util/List;" : Cond) ∈ fc_all := fc_1 (i := 123) rfl rfl
theorem wk84 : (.methodLink RL 59 yL_reckon : Cond) ∈ fc_all := fc_1 (i := 132) rfl rfl
theorem wk85 : (.static yL_reckon : Cond) ∈ fc_all := fc_1 (i := 133) rfl rfl
theorem wk86 : (.codeWith yL_reckon method_4_code 7 (some .int) [(0, 14, 17, 13)] : Cond) ∈ fc_all := fc_1 (i := 134) rfl rfl
theorem wk87 : (.methodLink RL 15 yX5_reckon : Cond) ∈ fc_all := fc_1 (i := 135) rfl rfl
theorem wk88 : (.instanceMethod yX5_reckon : Cond) ∈ fc_all := fc_1 (i := 136) rfl rfl
theorem wk89 : (.selects RX5 yX5_reckon yX5_reckon : Cond) ∈ fc_all := fc_1 (i := 137) rfl rfl
theorem wk90 : (.code yX5_reckon prog_1_method_3_code 7 (some .int) : Cond) ∈ fc_all := fc_1 (i := 138) rfl rfl
theorem wk91 : (.methodLink RX5 34 yX5_isMode : Cond) ∈ fc_all := fc_1 (i := 139) rfl rfl
theorem wk92 : (.static yX5_isMode : Cond) ∈ fc_all := fc_1 (i := 140) rfl rfl
theorem wk93 : (.code yX5_isMode prog_1_method_14_code 1 (some .boolean) : Cond) ∈ fc_all := fc_1 (i := 141) rfl rfl
theorem wk94 : (.methodLink RX5 38 yX0_holds : Cond) ∈ fc_all := fc_1 (i := 142) rfl rfl
theorem wk95 : (.instanceMethod yX0_holds : Cond) ∈ fc_all := fc_1 (i := 143) rfl rfl
theorem wk96 : (.selects RX0 yX0_holds yX0_holds : Cond) ∈ fc_all := fc_1 (i := 144) rfl rfl
theorem wk97 : (.code yX0_holds prog_2_method_2_code 2 (some .boolean) : Cond) ∈ fc_all := fc_1 (i := 145) rfl rfl
theorem wk98 : (.methodLink RX5 41 yX0_unpack : Cond) ∈ fc_all := fc_1 (i := 147) rfl rfl
theorem wk99 : (.instanceMethod yX0_unpack : Cond) ∈ fc_all := fc_1 (i := 148) rfl rfl
theorem wk100 : (.selects RX0 yX0_unpack yX0_unpack : Cond) ∈ fc_all := fc_1 (i := 149) rfl rfl
theorem wk101 : (.code yX0_unpack prog_2_method_6_code 12 (some (.object "FloatCircuits$Value")) : Cond) ∈ fc_all := fc_1 (i := 150) rfl rfl
theorem wk102 : (.methodLink RX0 51 yX0_signOf : Cond) ∈ fc_all := fc_1 (i := 151) rfl rfl
theorem wk103 : (.instanceMethod yX0_signOf : Cond) ∈ fc_all := fc_1 (i := 153) rfl rfl
theorem wk104 : (.code yX0_signOf prog_2_method_10_code 2 (some .long) : Cond) ∈ fc_all := fc_1 (i := 154) rfl rfl
theorem wk105 : (.methodLink RX0 54 yX0_isNan : Cond) ∈ fc_all := fc_1 (i := 155) rfl rfl
theorem wk106 : (.instanceMethod yX0_isNan : Cond) ∈ fc_all := fc_1 (i := 156) rfl rfl
theorem wk107 : (.selects RX0 yX0_isNan yX0_isNan : Cond) ∈ fc_all := fc_1 (i := 157) rfl rfl
theorem wk108 : (.code yX0_isNan prog_2_method_3_code 2 (some .boolean) : Cond) ∈ fc_all := fc_1 (i := 158) rfl rfl
theorem wk109 : (.methodLink RX0 34 yX0_unsigned : Cond) ∈ fc_all := fc_1 (i := 159) rfl rfl
theorem wk110 : (.instanceMethod yX0_unsigned : Cond) ∈ fc_all := fc_1 (i := 161) rfl rfl
theorem wk111 : (.code yX0_unsigned prog_2_method_9_code 2 (some .long) : Cond) ∈ fc_all := fc_1 (i := 162) rfl rfl
theorem wk112 : (.methodLink RX0 38 yX1_below : Cond) ∈ fc_all := fc_1 (i := 163) rfl rfl
theorem wk113 : (.static yX1_below : Cond) ∈ fc_all := fc_1 (i := 164) rfl rfl
theorem wk114 : (.code yX1_below prog_3_method_10_code 4 (some .long) : Cond) ∈ fc_all := fc_1 (i := 165) rfl rfl
theorem wk115 : (.methodLink RX1 19 yX1_difference : Cond) ∈ fc_all := fc_1 (i := 166) rfl rfl
theorem wk116 : (.static yX1_difference : Cond) ∈ fc_all := fc_1 (i := 167) rfl rfl
theorem wk117 : (.code yX1_difference prog_3_method_8_code 4 (some .long) : Cond) ∈ fc_all := fc_1 (i := 168) rfl rfl
theorem wk118 : (.constantLong RX1 7 (-1) : Cond) ∈ fc_all := fc_1 (i := 169) rfl rfl
theorem wk119 : (.methodLink RX1 15 yX1_add : Cond) ∈ fc_all := fc_1 (i := 170) rfl rfl
theorem wk120 : (.static yX1_add : Cond) ∈ fc_all := fc_1 (i := 171) rfl rfl
theorem wk121 : (.code yX1_add prog_3_method_11_code 13 (some .long) : Cond) ∈ fc_all := fc_1 (i := 172) rfl rfl
theorem wk122 : (.methodLink RX1 23 yX1_isNegative : Cond) ∈ fc_all := fc_1 (i := 173) rfl rfl
theorem wk123 : (.static yX1_isNegative : Cond) ∈ fc_all := fc_1 (i := 174) rfl rfl
theorem wk124 : (.code yX1_isNegative prog_3_method_6_code 2 (some .long) : Cond) ∈ fc_all := fc_1 (i := 175) rfl rfl
theorem wk125 : (.methodLink RX0 58 yX4_notANumber : Cond) ∈ fc_all := fc_1 (i := 176) rfl rfl
theorem wk126 : (.static yX4_notANumber : Cond) ∈ fc_all := fc_1 (i := 177) rfl rfl
theorem wk127 : (.code yX4_notANumber prog_6_method_2_code 0 (some (.object "FloatCircuits$Value")) : Cond) ∈ fc_all := fc_1 (i := 178) rfl rfl
theorem wk128 : (.classLink RX4 8 RX4 : Cond) ∈ fc_all := fc_1 (i := 179) rfl rfl
theorem wk129 : (.instantiable RX4 5 : Cond) ∈ fc_all := fc_1 (i := 180) rfl rfl
theorem wk130 : (.methodLink RX4 26 yX4_init : Cond) ∈ fc_all := fc_1 (i := 181) rfl rfl
theorem wk131 : (.instanceMethod yX4_init : Cond) ∈ fc_all := fc_1 (i := 182) rfl rfl
theorem wk132 : (.code yX4_init prog_6_method_1_code 9 none : Cond) ∈ fc_all := fc_1 (i := 183) rfl rfl
theorem wk133 : (.methodLink RX4 1 objectInit : Cond) ∈ fc_all := fc_1 (i := 184) rfl rfl
theorem wk134 : (.fieldLink RX4 7 "FloatCircuits$Value" "nan" "Z" : Cond) ∈ fc_all := fc_1 (i := 185) rfl rfl
theorem wk135 : (.fieldLink RX2 9 "FloatCircuits$Value" "nan" "Z" : Cond) ∈ fc_all := fc_1 (i := 186) rfl rfl
theorem wk136 : (.fieldLink RX5 76 "FloatCircuits$Value" "nan" "Z" : Cond) ∈ fc_all := fc_1 (i := 187) rfl rfl
theorem wk137 : (.fieldLink RX0 80 "FloatCircuits$Value" "nan" "Z" : Cond) ∈ fc_all := fc_1 (i := 188) rfl rfl
theorem wk138 : (.fieldLink RX4 13 "FloatCircuits$Value" "infinite" "Z" : Cond) ∈ fc_all := fc_1 (i := 189) rfl rfl
theorem wk139 : (.fieldLink RX2 19 "FloatCircuits$Value" "infinite" "Z" : Cond) ∈ fc_all := fc_1 (i := 190) rfl rfl
theorem wk140 : (.fieldLink RX0 83 "FloatCircuits$Value" "infinite" "Z" : Cond) ∈ fc_all := fc_1 (i := 191) rfl rfl
theorem wk141 : (.fieldLink RX5 97 "FloatCircuits$Value" "infinite" "Z" : Cond) ∈ fc_all := fc_1 (i := 192) rfl rfl
theorem wk142 : (.fieldLink RX4 16 "FloatCircuits$Value" "sign" "J" : Cond) ∈ fc_all := fc_1 (i := 193) rfl rfl
theorem wk143 : (.fieldLink RX2 22 "FloatCircuits$Value" "sign" "J" : Cond) ∈ fc_all := fc_1 (i := 194) rfl rfl
theorem wk144 : (.fieldLink RX3 41 "FloatCircuits$Value" "sign" "J" : Cond) ∈ fc_all := fc_1 (i := 195) rfl rfl
theorem wk145 : (.fieldLink RX0 86 "FloatCircuits$Value" "sign" "J" : Cond) ∈ fc_all := fc_1 (i := 196) rfl rfl
theorem wk146 : (.fieldLink RX5 107 "FloatCircuits$Value" "sign" "J" : Cond) ∈ fc_all := fc_1 (i := 197) rfl rfl
theorem wk147 : (.fieldLink RX4 20 "FloatCircuits$Value" "exponent" "J" : Cond) ∈ fc_all := fc_1 (i := 198) rfl rfl
theorem wk148 : (.fieldLink RX3 9 "FloatCircuits$Value" "exponent" "J" : Cond) ∈ fc_all := fc_1 (i := 199) rfl rfl
theorem wk149 : (.fieldLink RX2 26 "FloatCircuits$Value" "exponent" "J" : Cond) ∈ fc_all := fc_1 (i := 200) rfl rfl
theorem wk150 : (.fieldLink RX0 108 "FloatCircuits$Value" "exponent" "J" : Cond) ∈ fc_all := fc_1 (i := 201) rfl rfl
theorem wk151 : (.fieldLink RX4 23 "FloatCircuits$Value" "magnitude" "J" : Cond) ∈ fc_all := fc_1 (i := 202) rfl rfl
theorem wk152 : (.fieldLink RX3 21 "FloatCircuits$Value" "magnitude" "J" : Cond) ∈ fc_all := fc_1 (i := 203) rfl rfl
theorem wk153 : (.fieldLink RX2 69 "FloatCircuits$Value" "magnitude" "J" : Cond) ∈ fc_all := fc_1 (i := 204) rfl rfl
theorem wk154 : (.fieldLink RX0 111 "FloatCircuits$Value" "magnitude" "J" : Cond) ∈ fc_all := fc_1 (i := 205) rfl rfl
theorem wk155 : (.fieldLink RX5 132 "FloatCircuits$Value" "magnitude" "J" : Cond) ∈ fc_all := fc_1 (i := 206) rfl rfl
theorem wk156 : (.methodLink RX0 44 yX1_any : Cond) ∈ fc_all := fc_1 (i := 218) rfl rfl
theorem wk157 : (.static yX1_any : Cond) ∈ fc_all := fc_1 (i := 219) rfl rfl
theorem wk158 : (.code yX1_any prog_3_method_5_code 5 (some .long) : Cond) ∈ fc_all := fc_1 (i := 220) rfl rfl
theorem wk159 : (.methodLink RX0 64 yX4_infinity : Cond) ∈ fc_all := fc_1 (i := 221) rfl rfl
theorem wk160 : (.static yX4_infinity : Cond) ∈ fc_all := fc_1 (i := 222) rfl rfl
theorem wk161 : (.code yX4_infinity prog_6_method_3_code 2 (some (.object "FloatCircuits$Value")) : Cond) ∈ fc_all := fc_1 (i := 223) rfl rfl
theorem wk162 : (.methodLink RX0 67 yX1_ones : Cond) ∈ fc_all := fc_1 (i := 224) rfl rfl
theorem wk163 : (.static yX1_ones : Cond) ∈ fc_all := fc_1 (i := 225) rfl rfl
theorem wk164 : (.code yX1_ones prog_3_method_2_code 1 (some .long) : Cond) ∈ fc_all := fc_1 (i := 226) rfl rfl
theorem wk165 : (.methodLink RX0 70 yX1_difference : Cond) ∈ fc_all := fc_1 (i := 227) rfl rfl
theorem wk166 : (.methodLink RX0 73 yX1_sum : Cond) ∈ fc_all := fc_1 (i := 228) rfl rfl
theorem wk167 : (.static yX1_sum : Cond) ∈ fc_all := fc_1 (i := 229) rfl rfl
theorem wk168 : (.code yX1_sum prog_3_method_7_code 4 (some .long) : Cond) ∈ fc_all := fc_1 (i := 230) rfl rfl
theorem wk169 : (.methodLink RX0 76 yX4_finite : Cond) ∈ fc_all := fc_1 (i := 231) rfl rfl
theorem wk170 : (.static yX4_finite : Cond) ∈ fc_all := fc_1 (i := 232) rfl rfl
theorem wk171 : (.code yX4_finite prog_6_method_4_code 6 (some (.object "FloatCircuits$Value")) : Cond) ∈ fc_all := fc_1 (i := 233) rfl rfl
theorem wk172 : (.methodLink RX5 45 yX2_sum : Cond) ∈ fc_all := fc_1 (i := 234) rfl rfl
theorem wk173 : (.static yX2_sum : Cond) ∈ fc_all := fc_1 (i := 235) rfl rfl
theorem wk174 : (.code yX2_sum prog_4_method_2_code 9 (some (.object "FloatCircuits$Value")) : Cond) ∈ fc_all := fc_1 (i := 236) rfl rfl
theorem wk175 : (.methodLink RX2 15 yX4_notANumber : Cond) ∈ fc_all := fc_1 (i := 237) rfl rfl
theorem wk176 : (.methodLink RX2 29 yX1_below : Cond) ∈ fc_all := fc_1 (i := 238) rfl rfl
theorem wk177 : (.methodLink RX2 35 yX1_choose : Cond) ∈ fc_all := fc_1 (i := 239) rfl rfl
theorem wk178 : (.static yX1_choose : Cond) ∈ fc_all := fc_2 (i := 0) rfl rfl
theorem wk179 : (.code yX1_choose prog_3_method_4_code 8 (some .long) : Cond) ∈ fc_all := fc_2 (i := 1) rfl rfl
theorem wk180 : (.methodLink RX1 11 yX1_fan : Cond) ∈ fc_all := fc_2 (i := 2) rfl rfl
theorem wk181 : (.static yX1_fan : Cond) ∈ fc_all := fc_2 (i := 3) rfl rfl
theorem wk182 : (.code yX1_fan prog_3_method_3_code 2 (some .long) : Cond) ∈ fc_all := fc_2 (i := 4) rfl rfl
theorem wk183 : (.methodLink RX2 39 yX2_signedAt : Cond) ∈ fc_all := fc_2 (i := 5) rfl rfl
theorem wk184 : (.static yX2_signedAt : Cond) ∈ fc_all := fc_2 (i := 6) rfl rfl
theorem wk185 : (.code yX2_signedAt prog_4_method_3_code 5 (some .long) : Cond) ∈ fc_all := fc_2 (i := 7) rfl rfl
theorem wk186 : (.methodLink RX2 66 yX1_difference : Cond) ∈ fc_all := fc_2 (i := 8) rfl rfl
theorem wk187 : (.methodLink RX2 72 yX1_shiftLeft : Cond) ∈ fc_all := fc_2 (i := 9) rfl rfl
theorem wk188 : (.static yX1_shiftLeft : Cond) ∈ fc_all := fc_2 (i := 10) rfl rfl
theorem wk189 : (.code yX1_shiftLeft prog_3_method_12_code 7 (some .long) : Cond) ∈ fc_all := fc_2 (i := 11) rfl rfl
theorem wk190 : (.methodLink RX1 26 yX1_choose : Cond) ∈ fc_all := fc_2 (i := 12) rfl rfl
theorem wk191 : (.methodLink RX2 63 yX1_negateIf : Cond) ∈ fc_all := fc_2 (i := 13) rfl rfl
theorem wk192 : (.static yX1_negateIf : Cond) ∈ fc_all := fc_2 (i := 14) rfl rfl
theorem wk193 : (.code yX1_negateIf prog_3_method_9_code 4 (some .long) : Cond) ∈ fc_all := fc_2 (i := 15) rfl rfl
theorem wk194 : (.methodLink RX2 45 yX1_sum : Cond) ∈ fc_all := fc_2 (i := 16) rfl rfl
theorem wk195 : (.methodLink RX2 48 yX1_any : Cond) ∈ fc_all := fc_2 (i := 17) rfl rfl
theorem wk196 : (.methodLink RX2 52 yX2_signOfZeroSum : Cond) ∈ fc_all := fc_2 (i := 18) rfl rfl
theorem wk197 : (.static yX2_signOfZeroSum : Cond) ∈ fc_all := fc_2 (i := 19) rfl rfl
theorem wk198 : (.code yX2_signOfZeroSum prog_4_method_4_code 5 (some .long) : Cond) ∈ fc_all := fc_2 (i := 20) rfl rfl
theorem wk199 : (.methodLink RX2 56 yX4_finite : Cond) ∈ fc_all := fc_2 (i := 21) rfl rfl
theorem wk200 : (.methodLink RX2 60 yX1_isNegative : Cond) ∈ fc_all := fc_2 (i := 22) rfl rfl
theorem wk201 : (.methodLink RX5 51 yX0_pack : Cond) ∈ fc_all := fc_2 (i := 23) rfl rfl
theorem wk202 : (.instanceMethod yX0_pack : Cond) ∈ fc_all := fc_2 (i := 24) rfl rfl
theorem wk203 : (.selects RX0 yX0_pack yX0_pack : Cond) ∈ fc_all := fc_2 (i := 25) rfl rfl
theorem wk204 : (.code yX0_pack prog_2_method_7_code 6 (some .int) : Cond) ∈ fc_all := fc_2 (i := 26) rfl rfl
theorem wk205 : (.methodLink RX0 90 yX0_signed : Cond) ∈ fc_all := fc_2 (i := 27) rfl rfl
theorem wk206 : (.instanceMethod yX0_signed : Cond) ∈ fc_all := fc_2 (i := 29) rfl rfl
theorem wk207 : (.code yX0_signed prog_2_method_11_code 5 (some .int) : Cond) ∈ fc_all := fc_2 (i := 30) rfl rfl
theorem wk208 : (.methodLink RX0 94 yX4_isZero : Cond) ∈ fc_all := fc_2 (i := 31) rfl rfl
theorem wk209 : (.instanceMethod yX4_isZero : Cond) ∈ fc_all := fc_2 (i := 32) rfl rfl
theorem wk210 : (.selects RX4 yX4_isZero yX4_isZero : Cond) ∈ fc_all := fc_2 (i := 33) rfl rfl
theorem wk211 : (.code yX4_isZero prog_6_method_6_code 1 (some .boolean) : Cond) ∈ fc_all := fc_2 (i := 34) rfl rfl
theorem wk212 : (.methodLink RX4 29 yX1_any : Cond) ∈ fc_all := fc_2 (i := 35) rfl rfl
theorem wk213 : (.methodLink RX0 98 yX0_packMagnitude : Cond) ∈ fc_all := fc_2 (i := 36) rfl rfl
theorem wk214 : (.instanceMethod yX0_packMagnitude : Cond) ∈ fc_all := fc_2 (i := 38) rfl rfl
theorem wk215 : (.code yX0_packMagnitude prog_2_method_8_code 11 (some .long) : Cond) ∈ fc_all := fc_2 (i := 39) rfl rfl
theorem wk216 : (.methodLink RX0 114 yX1_top : Cond) ∈ fc_all := fc_2 (i := 40) rfl rfl
theorem wk217 : (.static yX1_top : Cond) ∈ fc_all := fc_2 (i := 41) rfl rfl
theorem wk218 : (.code yX1_top prog_3_method_14_code 11 (some .long) : Cond) ∈ fc_all := fc_2 (i := 42) rfl rfl
theorem wk219 : (.methodLink RX1 33 yX1_any : Cond) ∈ fc_all := fc_2 (i := 43) rfl rfl
theorem wk220 : (.methodLink RX0 117 yX1_choose : Cond) ∈ fc_all := fc_2 (i := 44) rfl rfl
theorem wk221 : (.methodLink RX0 121 yX3_round : Cond) ∈ fc_all := fc_2 (i := 45) rfl rfl
theorem wk222 : (.static yX3_round : Cond) ∈ fc_all := fc_2 (i := 46) rfl rfl
theorem wk223 : (.code yX3_round prog_5_method_2_code 16 (some .long) : Cond) ∈ fc_all := fc_2 (i := 47) rfl rfl
theorem wk224 : (.methodLink RX3 15 yX1_difference : Cond) ∈ fc_all := fc_2 (i := 48) rfl rfl
theorem wk225 : (.methodLink RX3 24 yX1_negateIf : Cond) ∈ fc_all := fc_2 (i := 49) rfl rfl
theorem wk226 : (.methodLink RX3 27 yX1_shiftLeft : Cond) ∈ fc_all := fc_2 (i := 50) rfl rfl
theorem wk227 : (.methodLink RX3 30 yX1_shiftRightMarking : Cond) ∈ fc_all := fc_2 (i := 51) rfl rfl
theorem wk228 : (.static yX1_shiftRightMarking : Cond) ∈ fc_all := fc_2 (i := 52) rfl rfl
theorem wk229 : (.code yX1_shiftRightMarking prog_3_method_13_code 10 (some .long) : Cond) ∈ fc_all := fc_2 (i := 53) rfl rfl
theorem wk230 : (.methodLink RX1 29 yX1_ones : Cond) ∈ fc_all := fc_2 (i := 54) rfl rfl
theorem wk231 : (.methodLink RX3 33 yX1_isNegative : Cond) ∈ fc_all := fc_2 (i := 55) rfl rfl
theorem wk232 : (.methodLink RX3 37 yX1_choose : Cond) ∈ fc_all := fc_2 (i := 56) rfl rfl
theorem wk233 : (.methodLink RX3 44 yX3_oneMore : Cond) ∈ fc_all := fc_2 (i := 57) rfl rfl
theorem wk234 : (.static yX3_oneMore : Cond) ∈ fc_all := fc_2 (i := 58) rfl rfl
theorem wk235 : (.code yX3_oneMore prog_5_method_3_code 9 (some .long) : Cond) ∈ fc_all := fc_2 (i := 59) rfl rfl
theorem wk236 : (.methodLink RX3 50 yX1_sum : Cond) ∈ fc_all := fc_2 (i := 60) rfl rfl
theorem wk237 : (.methodLink RX0 102 yX3_isEndless : Cond) ∈ fc_all := fc_2 (i := 61) rfl rfl
theorem wk238 : (.static yX3_isEndless : Cond) ∈ fc_all := fc_2 (i := 62) rfl rfl
theorem wk239 : (.code yX3_isEndless prog_5_method_4_code 3 (some .boolean) : Cond) ∈ fc_all := fc_2 (i := 63) rfl rfl
theorem wk240 : (.methodLink RX5 55 yX4_opposite : Cond) ∈ fc_all := fc_2 (i := 64) rfl rfl
theorem wk241 : (.instanceMethod yX4_opposite : Cond) ∈ fc_all := fc_2 (i := 65) rfl rfl
theorem wk242 : (.selects RX4 yX4_opposite yX4_opposite : Cond) ∈ fc_all := fc_2 (i := 66) rfl rfl
theorem wk243 : (.code yX4_opposite prog_6_method_5_code 1 (some (.object "FloatCircuits$Value")) : Cond) ∈ fc_all := fc_2 (i := 67) rfl rfl
theorem wk244 : (.methodLink RX5 61 yX2_product : Cond) ∈ fc_all := fc_2 (i := 68) rfl rfl
theorem wk245 : (.static yX2_product : Cond) ∈ fc_all := fc_2 (i := 69) rfl rfl
theorem wk246 : (.code yX2_product prog_4_method_5_code 6 (some (.object "FloatCircuits$Value")) : Cond) ∈ fc_all := fc_2 (i := 70) rfl rfl
theorem wk247 : (.methodLink RX2 75 yX4_isZero : Cond) ∈ fc_all := fc_2 (i := 71) rfl rfl
theorem wk248 : (.methodLink RX2 79 yX4_infinity : Cond) ∈ fc_all := fc_2 (i := 72) rfl rfl
theorem wk249 : (.methodLink RX2 85 yX1_product : Cond) ∈ fc_all := fc_2 (i := 73) rfl rfl
theorem wk250 : (.static yX1_product : Cond) ∈ fc_all := fc_2 (i := 74) rfl rfl
theorem wk251 : (.code yX1_product prog_3_method_15_code 8 (some .long) : Cond) ∈ fc_all := fc_2 (i := 75) rfl rfl
theorem wk252 : (.methodLink RX1 36 yX1_sum : Cond) ∈ fc_all := fc_2 (i := 76) rfl rfl
theorem wk253 : (.methodLink RX5 65 yX2_quotient : Cond) ∈ fc_all := fc_2 (i := 77) rfl rfl
theorem wk254 : (.static yX2_quotient : Cond) ∈ fc_all := fc_2 (i := 78) rfl rfl
theorem wk255 : (.code yX2_quotient prog_4_method_6_code 9 (some (.object "FloatCircuits$Value")) : Cond) ∈ fc_all := fc_2 (i := 79) rfl rfl
theorem wk256 : (.methodLink RX2 89 yX1_quotient : Cond) ∈ fc_all := fc_2 (i := 80) rfl rfl
theorem wk257 : (.static yX1_quotient : Cond) ∈ fc_all := fc_2 (i := 81) rfl rfl
theorem wk258 : (.code yX1_quotient prog_3_method_16_code 14 (some .long) : Cond) ∈ fc_all := fc_2 (i := 82) rfl rfl
theorem wk259 : (.constantLong RX2 92 25 : Cond) ∈ fc_all := fc_2 (i := 83) rfl rfl
theorem wk260 : (.methodLink RL 63 yL_change : Cond) ∈ fc_all := fc_2 (i := 84) rfl rfl
theorem wk261 : (.static yL_change : Cond) ∈ fc_all := fc_2 (i := 85) rfl rfl
theorem wk262 : (.codeWith yL_change method_5_code 6 (some .int) [(0, 12, 15, 13)] : Cond) ∈ fc_all := fc_2 (i := 86) rfl rfl
theorem wk263 : (.methodLink RL 19 yX5_change : Cond) ∈ fc_all := fc_2 (i := 87) rfl rfl
theorem wk264 : (.instanceMethod yX5_change : Cond) ∈ fc_all := fc_2 (i := 88) rfl rfl
theorem wk265 : (.selects RX5 yX5_change yX5_change : Cond) ∈ fc_all := fc_2 (i := 89) rfl rfl
theorem wk266 : (.code yX5_change prog_1_method_4_code 5 (some .int) : Cond) ∈ fc_all := fc_2 (i := 90) rfl rfl
theorem wk267 : (.methodLink RX5 68 yX2_root : Cond) ∈ fc_all := fc_2 (i := 91) rfl rfl
theorem wk268 : (.static yX2_root : Cond) ∈ fc_all := fc_2 (i := 92) rfl rfl
theorem wk269 : (.code yX2_root prog_4_method_7_code 10 (some (.object "FloatCircuits$Value")) : Cond) ∈ fc_all := fc_2 (i := 93) rfl rfl
theorem wk270 : (.constantLong RX2 94 13 : Cond) ∈ fc_all := fc_2 (i := 94) rfl rfl
theorem wk271 : (.methodLink RX2 96 yX1_root : Cond) ∈ fc_all := fc_2 (i := 95) rfl rfl
theorem wk272 : (.static yX1_root : Cond) ∈ fc_all := fc_2 (i := 96) rfl rfl
theorem wk273 : (.code yX1_root prog_3_method_17_code 12 (some .long) : Cond) ∈ fc_all := fc_2 (i := 97) rfl rfl
theorem wk274 : (.constantLong RX1 39 3 : Cond) ∈ fc_all := fc_2 (i := 98) rfl rfl
theorem wk275 : (.methodLink RX5 72 yX2_whole : Cond) ∈ fc_all := fc_2 (i := 99) rfl rfl
theorem wk276 : (.static yX2_whole : Cond) ∈ fc_all := fc_2 (i := 100) rfl rfl
theorem wk277 : (.code yX2_whole prog_4_method_8_code 2 (some (.object "FloatCircuits$Value")) : Cond) ∈ fc_all := fc_2 (i := 101) rfl rfl
theorem wk278 : (.methodLink RX2 100 yX3_round : Cond) ∈ fc_all := fc_2 (i := 102) rfl rfl
theorem wk279 : (.methodLink RL 67 yL_least : Cond) ∈ fc_all := fc_2 (i := 103) rfl rfl
theorem wk280 : (.static yL_least : Cond) ∈ fc_all := fc_2 (i := 104) rfl rfl
theorem wk281 : (.codeWith yL_least method_6_code 6 (some .int) [(0, 12, 15, 13)] : Cond) ∈ fc_all := fc_2 (i := 105) rfl rfl
theorem wk282 : (.methodLink RL 23 yX5_least : Cond) ∈ fc_all := fc_2 (i := 106) rfl rfl
theorem wk283 : (.instanceMethod yX5_least : Cond) ∈ fc_all := fc_2 (i := 107) rfl rfl
theorem wk284 : (.selects RX5 yX5_least yX5_least : Cond) ∈ fc_all := fc_2 (i := 108) rfl rfl
theorem wk285 : (.code yX5_least prog_1_method_5_code 5 (some .int) : Cond) ∈ fc_all := fc_2 (i := 109) rfl rfl
theorem wk286 : (.methodLink RX5 85 yX0_isNan : Cond) ∈ fc_all := fc_2 (i := 110) rfl rfl
theorem wk287 : (.methodLink RX5 88 yX0_isBelow : Cond) ∈ fc_all := fc_2 (i := 111) rfl rfl
theorem wk288 : (.instanceMethod yX0_isBelow : Cond) ∈ fc_all := fc_2 (i := 112) rfl rfl
theorem wk289 : (.selects RX0 yX0_isBelow yX0_isBelow : Cond) ∈ fc_all := fc_2 (i := 113) rfl rfl
theorem wk290 : (.code yX0_isBelow prog_2_method_5_code 3 (some .boolean) : Cond) ∈ fc_all := fc_2 (i := 114) rfl rfl
theorem wk291 : (.methodLink RX0 48 yX0_rank : Cond) ∈ fc_all := fc_2 (i := 115) rfl rfl
theorem wk292 : (.instanceMethod yX0_rank : Cond) ∈ fc_all := fc_2 (i := 117) rfl rfl
theorem wk293 : (.code yX0_rank prog_2_method_12_code 2 (some .long) : Cond) ∈ fc_all := fc_2 (i := 118) rfl rfl
theorem wk294 : (.methodLink RX0 125 yX1_negateIf : Cond) ∈ fc_all := fc_2 (i := 119) rfl rfl
theorem wk295 : (.methodLink RL 71 yL_compare : Cond) ∈ fc_all := fc_2 (i := 120) rfl rfl
theorem wk296 : (.static yL_compare : Cond) ∈ fc_all := fc_2 (i := 121) rfl rfl
theorem wk297 : (.codeWith yL_compare method_7_code 6 (some .int) [(0, 19, 22, 13)] : Cond) ∈ fc_all := fc_2 (i := 122) rfl rfl
theorem wk298 : (.methodLink RL 27 yX5_compare : Cond) ∈ fc_all := fc_2 (i := 123) rfl rfl
theorem wk299 : (.instanceMethod yX5_compare : Cond) ∈ fc_all := fc_2 (i := 124) rfl rfl
theorem wk300 : (.selects RX5 yX5_compare yX5_compare : Cond) ∈ fc_all := fc_2 (i := 125) rfl rfl
theorem wk301 : (.code yX5_compare prog_1_method_6_code 4 (some .boolean) : Cond) ∈ fc_all := fc_2 (i := 126) rfl rfl
theorem wk302 : (.methodLink RX5 91 yX1_any : Cond) ∈ fc_all := fc_2 (i := 127) rfl rfl
theorem wk303 : (.methodLink RL 74 yL_is : Cond) ∈ fc_all := fc_2 (i := 128) rfl rfl
theorem wk304 : (.static yL_is : Cond) ∈ fc_all := fc_2 (i := 129) rfl rfl
theorem wk305 : (.codeWith yL_is method_8_code 5 (some .int) [(0, 17, 20, 13)] : Cond) ∈ fc_all := fc_2 (i := 130) rfl rfl
theorem wk306 : (.methodLink RL 31 yX5_is : Cond) ∈ fc_all := fc_2 (i := 131) rfl rfl
theorem wk307 : (.instanceMethod yX5_is : Cond) ∈ fc_all := fc_2 (i := 132) rfl rfl
theorem wk308 : (.selects RX5 yX5_is yX5_is : Cond) ∈ fc_all := fc_2 (i := 133) rfl rfl
theorem wk309 : (.code yX5_is prog_1_method_7_code 6 (some .boolean) : Cond) ∈ fc_all := fc_2 (i := 134) rfl rfl
theorem wk310 : (.methodLink RX5 100 yX0_hasHiddenOne : Cond) ∈ fc_all := fc_2 (i := 135) rfl rfl
theorem wk311 : (.instanceMethod yX0_hasHiddenOne : Cond) ∈ fc_all := fc_2 (i := 136) rfl rfl
theorem wk312 : (.selects RX0 yX0_hasHiddenOne yX0_hasHiddenOne : Cond) ∈ fc_all := fc_2 (i := 137) rfl rfl
theorem wk313 : (.code yX0_hasHiddenOne prog_2_method_4_code 2 (some .boolean) : Cond) ∈ fc_all := fc_2 (i := 138) rfl rfl
theorem wk314 : (.methodLink RX5 103 yX4_isZero : Cond) ∈ fc_all := fc_2 (i := 139) rfl rfl
theorem wk315 : (.methodLink RL 77 yL_from : Cond) ∈ fc_all := fc_2 (i := 140) rfl rfl
theorem wk316 : (.static yL_from : Cond) ∈ fc_all := fc_2 (i := 141) rfl rfl
theorem wk317 : (.codeWith yL_from method_9_code 7 (some .int) [(0, 14, 17, 13)] : Cond) ∈ fc_all := fc_2 (i := 142) rfl rfl
theorem wk318 : (.methodLink RL 35 yX5_from : Cond) ∈ fc_all := fc_2 (i := 143) rfl rfl
theorem wk319 : (.instanceMethod yX5_from : Cond) ∈ fc_all := fc_2 (i := 144) rfl rfl
theorem wk320 : (.selects RX5 yX5_from yX5_from : Cond) ∈ fc_all := fc_2 (i := 145) rfl rfl
theorem wk321 : (.code yX5_from prog_1_method_8_code 6 (some .int) : Cond) ∈ fc_all := fc_2 (i := 146) rfl rfl
theorem wk322 : (.methodLink RL 80 yL_ofWhole : Cond) ∈ fc_all := fc_2 (i := 147) rfl rfl
theorem wk323 : (.static yL_ofWhole : Cond) ∈ fc_all := fc_2 (i := 148) rfl rfl
theorem wk324 : (.codeWith yL_ofWhole method_10_code 7 (some .int) [(0, 14, 17, 13)] : Cond) ∈ fc_all := fc_2 (i := 149) rfl rfl
theorem wk325 : (.methodLink RL 38 yX5_ofWhole : Cond) ∈ fc_all := fc_2 (i := 150) rfl rfl
theorem wk326 : (.instanceMethod yX5_ofWhole : Cond) ∈ fc_all := fc_2 (i := 151) rfl rfl
theorem wk327 : (.selects RX5 yX5_ofWhole yX5_ofWhole : Cond) ∈ fc_all := fc_2 (i := 152) rfl rfl
theorem wk328 : (.code yX5_ofWhole prog_1_method_9_code 11 (some .int) : Cond) ∈ fc_all := fc_2 (i := 153) rfl rfl
theorem wk329 : (.methodLink RX5 111 yX1_ones : Cond) ∈ fc_all := fc_2 (i := 154) rfl rfl
theorem wk330 : (.methodLink RX5 115 yX1_fan : Cond) ∈ fc_all := fc_2 (i := 155) rfl rfl
theorem wk331 : (.constantLong RX5 118 (-1) : Cond) ∈ fc_all := fc_2 (i := 156) rfl rfl
theorem wk332 : (.methodLink RX5 120 yX1_negateIf : Cond) ∈ fc_all := fc_2 (i := 157) rfl rfl
theorem wk333 : (.methodLink RX5 124 yX4_finite : Cond) ∈ fc_all := fc_2 (i := 158) rfl rfl
theorem wk334 : (.methodLink RL 84 yL_toWhole : Cond) ∈ fc_all := fc_2 (i := 159) rfl rfl
theorem wk335 : (.static yL_toWhole : Cond) ∈ fc_all := fc_2 (i := 160) rfl rfl
theorem wk336 : (.codeWith yL_toWhole method_11_code 7 (some .int) [(0, 14, 17, 13)] : Cond) ∈ fc_all := fc_2 (i := 161) rfl rfl
theorem wk337 : (.methodLink RL 42 yX5_toWhole : Cond) ∈ fc_all := fc_2 (i := 162) rfl rfl
theorem wk338 : (.instanceMethod yX5_toWhole : Cond) ∈ fc_all := fc_2 (i := 163) rfl rfl
theorem wk339 : (.selects RX5 yX5_toWhole yX5_toWhole : Cond) ∈ fc_all := fc_2 (i := 164) rfl rfl
theorem wk340 : (.code yX5_toWhole prog_1_method_10_code 6 (some .int) : Cond) ∈ fc_all := fc_2 (i := 165) rfl rfl
theorem wk341 : (.methodLink RX5 128 yX5_isWithinBits : Cond) ∈ fc_all := fc_2 (i := 166) rfl rfl
theorem wk342 : (.static yX5_isWithinBits : Cond) ∈ fc_all := fc_2 (i := 167) rfl rfl
theorem wk343 : (.code yX5_isWithinBits prog_1_method_11_code 5 (some .boolean) : Cond) ∈ fc_all := fc_2 (i := 168) rfl rfl
theorem wk344 : (.methodLink RX5 135 yX1_below : Cond) ∈ fc_all := fc_2 (i := 169) rfl rfl
theorem wk345 : (.classLink RL 46 RX6 : Cond) ∈ fc_all := fc_2 (i := 170) rfl rfl
theorem wk346 : (.instantiable RX6 7 : Cond) ∈ fc_all := fc_2 (i := 171) rfl rfl
theorem wk347 : (.methodLink RL 48 yX6_init : Cond) ∈ fc_all := fc_2 (i := 172) rfl rfl
theorem wk348 : (.instanceMethod yX6_init : Cond) ∈ fc_all := fc_2 (i := 173) rfl rfl
theorem wk349 : (.code yX6_init prog_8_method_1_code 1 none : Cond) ∈ fc_all := fc_2 (i := 174) rfl rfl
theorem wk350 : (.methodLink RX6 1 objectInit : Cond) ∈ fc_all := fc_2 (i := 175) rfl rfl
theorem wk351 : (.fieldLink RX6 7 "FloatCircuitsModel" "format" "I" : Cond) ∈ fc_all := fc_2 (i := 176) rfl rfl
theorem wk352 : (.fieldLink RX6 13 "FloatCircuitsModel" "code" "I" : Cond) ∈ fc_all := fc_2 (i := 177) rfl rfl
theorem wk353 : (.fieldLink RX6 88 "FloatCircuitsModel" "minus" "Z" : Cond) ∈ fc_all := fc_2 (i := 178) rfl rfl
theorem wk354 : (.fieldLink RX6 91 "FloatCircuitsModel" "m" "J" : Cond) ∈ fc_all := fc_2 (i := 179) rfl rfl
theorem wk355 : (.fieldLink RX6 95 "FloatCircuitsModel" "power" "I" : Cond) ∈ fc_all := fc_2 (i := 180) rfl rfl
theorem wk356 : (.fieldLink RX6 85 "FloatCircuitsModel" "infinite" "Z" : Cond) ∈ fc_all := fc_2 (i := 181) rfl rfl
theorem wk357 : (.fieldLink RX6 64 "FloatCircuitsModel" "none" "Z" : Cond) ∈ fc_all := fc_2 (i := 182) rfl rfl
theorem wk358 : (.methodLink RL 55 yX6_thrown : Cond) ∈ fc_all := fc_2 (i := 198) rfl rfl
theorem wk359 : (.instanceMethod yX6_thrown : Cond) ∈ fc_all := fc_2 (i := 199) rfl rfl
theorem wk360 : (.selects RX6 yX6_thrown yX6_thrown : Cond) ∈ fc_all := fc_2 (i := 200) rfl rfl
theorem wk361 : (.code yX6_thrown prog_8_method_2_code 1 (some .int) : Cond) ∈ fc_all := fc_2 (i := 201) rfl rfl
theorem wk362 : (.methodLink RL 54 yX6_format : Cond) ∈ fc_all := fc_2 (i := 202) rfl rfl
theorem wk363 : (.instanceMethod yX6_format : Cond) ∈ fc_all := fc_2 (i := 203) rfl rfl
theorem wk364 : (.selects RX6 yX6_format yX6_format : Cond) ∈ fc_all := fc_2 (i := 204) rfl rfl
theorem wk365 : (.code yX6_format prog_8_method_13_code 3 (some .int) : Cond) ∈ fc_all := fc_2 (i := 205) rfl rfl
theorem wk366 : (.methodLink RX6 34 yX6_isFormat : Cond) ∈ fc_all := fc_2 (i := 206) rfl rfl
theorem wk367 : (.static yX6_isFormat : Cond) ∈ fc_all := fc_2 (i := 207) rfl rfl
theorem wk368 : (.code yX6_isFormat prog_8_method_5_code 2 (some .boolean) : Cond) ∈ fc_all := fc_2 (i := 208) rfl rfl
theorem wk369 : (.methodLink RX6 16 yX6_in : Cond) ∈ fc_all := fc_2 (i := 209) rfl rfl
theorem wk370 : (.static yX6_in : Cond) ∈ fc_all := fc_2 (i := 210) rfl rfl
theorem wk371 : (.code yX6_in prog_8_method_4_code 3 (some .boolean) : Cond) ∈ fc_all := fc_2 (i := 211) rfl rfl
theorem wk372 : (.methodLink RX6 38 yX6_good : Cond) ∈ fc_all := fc_2 (i := 212) rfl rfl
theorem wk373 : (.instanceMethod yX6_good : Cond) ∈ fc_all := fc_2 (i := 214) rfl rfl
theorem wk374 : (.code yX6_good prog_8_method_3_code 2 (some .boolean) : Cond) ∈ fc_all := fc_2 (i := 215) rfl rfl
theorem wk375 : (.methodLink RL 62 yX6_reckon : Cond) ∈ fc_all := fc_2 (i := 216) rfl rfl
theorem wk376 : (.instanceMethod yX6_reckon : Cond) ∈ fc_all := fc_2 (i := 217) rfl rfl
theorem wk377 : (.selects RX6 yX6_reckon yX6_reckon : Cond) ∈ fc_all := fc_2 (i := 218) rfl rfl
theorem wk378 : (.code yX6_reckon prog_8_method_14_code 5 (some .int) : Cond) ∈ fc_all := fc_2 (i := 219) rfl rfl
theorem wk379 : (.methodLink RX6 42 yX6_isFloat : Cond) ∈ fc_all := fc_2 (i := 220) rfl rfl
theorem wk380 : (.instanceMethod yX6_isFloat : Cond) ∈ fc_all := fc_2 (i := 222) rfl rfl
theorem wk381 : (.code yX6_isFloat prog_8_method_12_code 3 (some .boolean) : Cond) ∈ fc_all := fc_2 (i := 223) rfl rfl
theorem wk382 : (.methodLink RX6 31 yX6_width : Cond) ∈ fc_all := fc_2 (i := 224) rfl rfl
theorem wk383 : (.static yX6_width : Cond) ∈ fc_all := fc_2 (i := 225) rfl rfl
theorem wk384 : (.code yX6_width prog_8_method_8_code 1 (some .int) : Cond) ∈ fc_all := fc_2 (i := 226) rfl rfl
theorem wk385 : (.methodLink RX6 20 yX6_exponent : Cond) ∈ fc_all := fc_2 (i := 227) rfl rfl
theorem wk386 : (.static yX6_exponent : Cond) ∈ fc_all := fc_2 (i := 228) rfl rfl
theorem wk387 : (.code yX6_exponent prog_8_method_6_code 1 (some .int) : Cond) ∈ fc_all := fc_2 (i := 229) rfl rfl
theorem wk388 : (.methodLink RX6 24 yX6_significand : Cond) ∈ fc_all := fc_2 (i := 230) rfl rfl
theorem wk389 : (.static yX6_significand : Cond) ∈ fc_all := fc_2 (i := 231) rfl rfl
theorem wk390 : (.code yX6_significand prog_8_method_7_code 1 (some .int) : Cond) ∈ fc_all := fc_2 (i := 232) rfl rfl
theorem wk391 : (.methodLink RX6 27 yX6_mask : Cond) ∈ fc_all := fc_2 (i := 233) rfl rfl
theorem wk392 : (.static yX6_mask : Cond) ∈ fc_all := fc_2 (i := 234) rfl rfl
theorem wk393 : (.code yX6_mask prog_8_method_9_code 1 (some .long) : Cond) ∈ fc_all := fc_2 (i := 235) rfl rfl
theorem wk394 : (.methodLink RX6 45 yX6_arithmetic : Cond) ∈ fc_all := fc_2 (i := 236) rfl rfl
theorem wk395 : (.instanceMethod yX6_arithmetic : Cond) ∈ fc_all := fc_2 (i := 238) rfl rfl
theorem wk396 : (.code yX6_arithmetic prog_8_method_27_code 26 (some .long) : Cond) ∈ fc_all := fc_2 (i := 239) rfl rfl
theorem wk397 : (.methodLink RX6 81 yX6_nan : Cond) ∈ fc_all := fc_3 (i := 0) rfl rfl
theorem wk398 : (.static yX6_nan : Cond) ∈ fc_all := fc_3 (i := 1) rfl rfl
theorem wk399 : (.code yX6_nan prog_8_method_11_code 2 (some .long) : Cond) ∈ fc_all := fc_3 (i := 2) rfl rfl
theorem wk400 : (.methodLink RX6 60 yX6_take : Cond) ∈ fc_all := fc_3 (i := 3) rfl rfl
theorem wk401 : (.instanceMethod yX6_take : Cond) ∈ fc_all := fc_3 (i := 5) rfl rfl
theorem wk402 : (.code yX6_take prog_8_method_22_code 11 none : Cond) ∈ fc_all := fc_3 (i := 6) rfl rfl
theorem wk403 : (.methodLink RX6 98 yX6_round : Cond) ∈ fc_all := fc_3 (i := 7) rfl rfl
theorem wk404 : (.static yX6_round : Cond) ∈ fc_all := fc_3 (i := 8) rfl rfl
theorem wk405 : (.code yX6_round prog_8_method_25_code 18 (some .long) : Cond) ∈ fc_all := fc_3 (i := 9) rfl rfl
theorem wk406 : (.methodLink RX6 113 yJ1_numberOfLeadingZeros : Cond) ∈ fc_all := fc_3 (i := 10) rfl rfl
theorem wk407 : (.static yJ1_numberOfLeadingZeros : Cond) ∈ fc_all := fc_3 (i := 11) rfl rfl
theorem wk408 : (.code yJ1_numberOfLeadingZeros prog_12_method_48_code 3 (some .int) : Cond) ∈ fc_all := fc_3 (i := 12) rfl rfl
theorem wk409 : (.methodLink RJ1 308 yJ0_numberOfLeadingZeros : Cond) ∈ fc_all := fc_3 (i := 13) rfl rfl
theorem wk410 : (.static yJ0_numberOfLeadingZeros : Cond) ∈ fc_all := fc_3 (i := 14) rfl rfl
theorem wk411 : (.code yJ0_numberOfLeadingZeros prog_11_method_47_code 2 (some .int) : Cond) ∈ fc_all := fc_3 (i := 15) rfl rfl
theorem wk412 : (.constant RJ0 264 65536 : Cond) ∈ fc_all := fc_3 (i := 16) rfl rfl
theorem wk413 : (.methodLink RX6 105 yX6_cut : Cond) ∈ fc_all := fc_3 (i := 17) rfl rfl
theorem wk414 : (.static yX6_cut : Cond) ∈ fc_all := fc_3 (i := 18) rfl rfl
theorem wk415 : (.code yX6_cut prog_8_method_24_code 12 (some .long) : Cond) ∈ fc_all := fc_3 (i := 19) rfl rfl
theorem wk416 : (.methodLink RX6 109 yX6_away : Cond) ∈ fc_all := fc_3 (i := 20) rfl rfl
theorem wk417 : (.static yX6_away : Cond) ∈ fc_all := fc_3 (i := 21) rfl rfl
theorem wk418 : (.code yX6_away prog_8_method_23_code 5 (some .boolean) : Cond) ∈ fc_all := fc_3 (i := 22) rfl rfl
theorem wk419 : (.methodLink RL 66 yX6_change : Cond) ∈ fc_all := fc_3 (i := 23) rfl rfl
theorem wk420 : (.instanceMethod yX6_change : Cond) ∈ fc_all := fc_3 (i := 24) rfl rfl
theorem wk421 : (.selects RX6 yX6_change yX6_change : Cond) ∈ fc_all := fc_3 (i := 25) rfl rfl
theorem wk422 : (.code yX6_change prog_8_method_15_code 6 (some .int) : Cond) ∈ fc_all := fc_3 (i := 26) rfl rfl
theorem wk423 : (.methodLink RX6 49 yX6_canonical : Cond) ∈ fc_all := fc_3 (i := 27) rfl rfl
theorem wk424 : (.instanceMethod yX6_canonical : Cond) ∈ fc_all := fc_3 (i := 29) rfl rfl
theorem wk425 : (.code yX6_canonical prog_8_method_26_code 4 (some .long) : Cond) ∈ fc_all := fc_3 (i := 30) rfl rfl
theorem wk426 : (.methodLink RX6 53 yX6_squareRoot : Cond) ∈ fc_all := fc_3 (i := 31) rfl rfl
theorem wk427 : (.instanceMethod yX6_squareRoot : Cond) ∈ fc_all := fc_3 (i := 33) rfl rfl
theorem wk428 : (.code yX6_squareRoot prog_8_method_28_code 12 (some .long) : Cond) ∈ fc_all := fc_3 (i := 34) rfl rfl
theorem wk429 : (.constantLong RX6 119 1073741824 : Cond) ∈ fc_all := fc_3 (i := 35) rfl rfl
theorem wk430 : (.methodLink RX6 57 yX6_whole : Cond) ∈ fc_all := fc_3 (i := 36) rfl rfl
theorem wk431 : (.instanceMethod yX6_whole : Cond) ∈ fc_all := fc_3 (i := 38) rfl rfl
theorem wk432 : (.code yX6_whole prog_8_method_29_code 7 (some .long) : Cond) ∈ fc_all := fc_3 (i := 39) rfl rfl
theorem wk433 : (.constantLong RX6 68 (-1) : Cond) ∈ fc_all := fc_3 (i := 40) rfl rfl
theorem wk434 : (.methodLink RL 70 yX6_least : Cond) ∈ fc_all := fc_3 (i := 41) rfl rfl
theorem wk435 : (.instanceMethod yX6_least : Cond) ∈ fc_all := fc_3 (i := 42) rfl rfl
theorem wk436 : (.selects RX6 yX6_least yX6_least : Cond) ∈ fc_all := fc_3 (i := 43) rfl rfl
theorem wk437 : (.code yX6_least prog_8_method_16_code 4 (some .int) : Cond) ∈ fc_all := fc_3 (i := 44) rfl rfl
theorem wk438 : (.methodLink RX6 70 yX6_extreme : Cond) ∈ fc_all := fc_3 (i := 45) rfl rfl
theorem wk439 : (.instanceMethod yX6_extreme : Cond) ∈ fc_all := fc_3 (i := 47) rfl rfl
theorem wk440 : (.code yX6_extreme prog_8_method_31_code 8 (some .long) : Cond) ∈ fc_all := fc_3 (i := 48) rfl rfl
theorem wk441 : (.methodLink RX6 121 yX6_order : Cond) ∈ fc_all := fc_3 (i := 49) rfl rfl
theorem wk442 : (.instanceMethod yX6_order : Cond) ∈ fc_all := fc_3 (i := 51) rfl rfl
theorem wk443 : (.code yX6_order prog_8_method_30_code 11 (some .int) : Cond) ∈ fc_all := fc_3 (i := 52) rfl rfl
theorem wk444 : (.methodLink RL 73 yX6_compare : Cond) ∈ fc_all := fc_3 (i := 53) rfl rfl
theorem wk445 : (.instanceMethod yX6_compare : Cond) ∈ fc_all := fc_3 (i := 54) rfl rfl
theorem wk446 : (.selects RX6 yX6_compare yX6_compare : Cond) ∈ fc_all := fc_3 (i := 55) rfl rfl
theorem wk447 : (.code yX6_compare prog_8_method_17_code 4 (some .boolean) : Cond) ∈ fc_all := fc_3 (i := 56) rfl rfl
theorem wk448 : (.methodLink RX6 74 yX6_compared : Cond) ∈ fc_all := fc_3 (i := 57) rfl rfl
theorem wk449 : (.instanceMethod yX6_compared : Cond) ∈ fc_all := fc_3 (i := 59) rfl rfl
theorem wk450 : (.code yX6_compared prog_8_method_32_code 9 (some .long) : Cond) ∈ fc_all := fc_3 (i := 60) rfl rfl
theorem wk451 : (.methodLink RL 76 yX6_is : Cond) ∈ fc_all := fc_3 (i := 61) rfl rfl
theorem wk452 : (.instanceMethod yX6_is : Cond) ∈ fc_all := fc_3 (i := 62) rfl rfl
theorem wk453 : (.selects RX6 yX6_is yX6_is : Cond) ∈ fc_all := fc_3 (i := 63) rfl rfl
theorem wk454 : (.code yX6_is prog_8_method_18_code 3 (some .boolean) : Cond) ∈ fc_all := fc_3 (i := 64) rfl rfl
theorem wk455 : (.methodLink RX6 78 yX6_told : Cond) ∈ fc_all := fc_3 (i := 65) rfl rfl
theorem wk456 : (.instanceMethod yX6_told : Cond) ∈ fc_all := fc_3 (i := 67) rfl rfl
theorem wk457 : (.code yX6_told prog_8_method_33_code 8 (some .long) : Cond) ∈ fc_all := fc_3 (i := 68) rfl rfl
theorem wk458 : (.methodLink RL 79 yX6_from : Cond) ∈ fc_all := fc_3 (i := 69) rfl rfl
theorem wk459 : (.instanceMethod yX6_from : Cond) ∈ fc_all := fc_3 (i := 70) rfl rfl
theorem wk460 : (.selects RX6 yX6_from yX6_from : Cond) ∈ fc_all := fc_3 (i := 71) rfl rfl
theorem wk461 : (.code yX6_from prog_8_method_19_code 7 (some .int) : Cond) ∈ fc_all := fc_3 (i := 72) rfl rfl
theorem wk462 : (.methodLink RL 83 yX6_ofWhole : Cond) ∈ fc_all := fc_3 (i := 73) rfl rfl
theorem wk463 : (.instanceMethod yX6_ofWhole : Cond) ∈ fc_all := fc_3 (i := 74) rfl rfl
theorem wk464 : (.selects RX6 yX6_ofWhole yX6_ofWhole : Cond) ∈ fc_all := fc_3 (i := 75) rfl rfl
theorem wk465 : (.code yX6_ofWhole prog_8_method_20_code 9 (some .int) : Cond) ∈ fc_all := fc_3 (i := 76) rfl rfl
theorem wk466 : (.methodLink RX6 102 yX6_signed : Cond) ∈ fc_all := fc_3 (i := 77) rfl rfl
theorem wk467 : (.static yX6_signed : Cond) ∈ fc_all := fc_3 (i := 78) rfl rfl
theorem wk468 : (.code yX6_signed prog_8_method_10_code 3 (some .long) : Cond) ∈ fc_all := fc_3 (i := 79) rfl rfl
theorem wk469 : (.methodLink RL 86 yX6_toWhole : Cond) ∈ fc_all := fc_3 (i := 80) rfl rfl
theorem wk470 : (.instanceMethod yX6_toWhole : Cond) ∈ fc_all := fc_3 (i := 81) rfl rfl
theorem wk471 : (.selects RX6 yX6_toWhole yX6_toWhole : Cond) ∈ fc_all := fc_3 (i := 82) rfl rfl
theorem wk472 : (.code yX6_toWhole prog_8_method_21_code 9 (some .int) : Cond) ∈ fc_all := fc_3 (i := 83) rfl rfl
theorem wk473 : (.arrayClass .long : Cond) ∈ fc_all := fc_3 (i := 84) rfl rfl
theorem ws0 : (.selects "java/lang/Throwable" ⟨"java/lang/Throwable", "fillInStackTrace", "(I)Ljava/lang/Throwable;"⟩ ⟨"java/lang/Throwable", "fillInStackTrace", "(I)Ljava/lang/Throwable;"⟩ : Cond) ∈ fc_all := fc_s (i := 0) rfl rfl
theorem ws1 : (.selects RX0 yX0_signOf yX0_signOf : Cond) ∈ fc_all := fc_s (i := 1) rfl rfl
theorem ws2 : (.selects RX0 yX0_unsigned yX0_unsigned : Cond) ∈ fc_all := fc_s (i := 2) rfl rfl
theorem ws3 : (.selects RX0 yX0_signed yX0_signed : Cond) ∈ fc_all := fc_s (i := 3) rfl rfl
theorem ws4 : (.selects RX0 yX0_packMagnitude yX0_packMagnitude : Cond) ∈ fc_all := fc_s (i := 4) rfl rfl
theorem ws5 : (.selects RX0 yX0_rank yX0_rank : Cond) ∈ fc_all := fc_s (i := 5) rfl rfl
theorem ws6 : (.selects RX6 yX6_good yX6_good : Cond) ∈ fc_all := fc_s (i := 6) rfl rfl
theorem ws7 : (.selects RX6 yX6_isFloat yX6_isFloat : Cond) ∈ fc_all := fc_s (i := 7) rfl rfl
theorem ws8 : (.selects RX6 yX6_arithmetic yX6_arithmetic : Cond) ∈ fc_all := fc_s (i := 8) rfl rfl
theorem ws9 : (.selects RX6 yX6_take yX6_take : Cond) ∈ fc_all := fc_s (i := 9) rfl rfl
theorem ws10 : (.selects RX6 yX6_canonical yX6_canonical : Cond) ∈ fc_all := fc_s (i := 10) rfl rfl
theorem ws11 : (.selects RX6 yX6_squareRoot yX6_squareRoot : Cond) ∈ fc_all := fc_s (i := 11) rfl rfl
theorem ws12 : (.selects RX6 yX6_whole yX6_whole : Cond) ∈ fc_all := fc_s (i := 12) rfl rfl
theorem ws13 : (.selects RX6 yX6_extreme yX6_extreme : Cond) ∈ fc_all := fc_s (i := 13) rfl rfl
theorem ws14 : (.selects RX6 yX6_order yX6_order : Cond) ∈ fc_all := fc_s (i := 14) rfl rfl
theorem ws15 : (.selects RX6 yX6_compared yX6_compared : Cond) ∈ fc_all := fc_s (i := 15) rfl rfl
theorem ws16 : (.selects RX6 yX6_told yX6_told : Cond) ∈ fc_all := fc_s (i := 16) rfl rfl
def TX0 : u_T := fun k => match k with
  | 0 => ("FloatCircuits$Format", "width", "I", true)
  | 1 => ("FloatCircuits$Format", "fractionBits", "I", true)
  | 2 => ("FloatCircuits$Format", "signBit", "I", true)
  | 3 => ("FloatCircuits$Format", "infinity", "I", true)
  | 4 => ("FloatCircuits$Format", "nan", "I", true)
  | _ => ("FloatCircuits$Format", "finest", "I", true)
def tyX0 : Nat → FieldType := fun k => match k with
  | 0 => .int
  | 1 => .int
  | 2 => .int
  | 3 => .int
  | 4 => .int
  | _ => .int
theorem nmX0 : ∀ a, a < 6 → ∀ b, b < 6 → a ≠ b → (TX0 a).2.1 ≠ (TX0 b).2.1 := by decide +kernel
theorem tyX0_ok : ∀ k, k < 6 → parseFieldDescriptor (TX0 k).2.2.1 = some (tyX0 k) := by decide +kernel
theorem hiX0 : ∀ w ∈ u_ws RX0 TX0 6, w ∈ fc_all := by decide +kernel
def TX4 : u_T := fun k => match k with
  | 0 => ("FloatCircuits$Value", "nan", "Z", true)
  | 1 => ("FloatCircuits$Value", "infinite", "Z", true)
  | 2 => ("FloatCircuits$Value", "sign", "J", true)
  | 3 => ("FloatCircuits$Value", "exponent", "J", true)
  | _ => ("FloatCircuits$Value", "magnitude", "J", true)
def tyX4 : Nat → FieldType := fun k => match k with
  | 0 => .boolean
  | 1 => .boolean
  | 2 => .long
  | 3 => .long
  | _ => .long
theorem nmX4 : ∀ a, a < 5 → ∀ b, b < 5 → a ≠ b → (TX4 a).2.1 ≠ (TX4 b).2.1 := by decide +kernel
theorem tyX4_ok : ∀ k, k < 5 → parseFieldDescriptor (TX4 k).2.2.1 = some (tyX4 k) := by decide +kernel
theorem hiX4 : ∀ w ∈ u_ws RX4 TX4 5, w ∈ fc_all := by decide +kernel
def TX5 : u_T := fun k => match k with
  | _ => ("FloatCircuits", "present", "LFloatCircuits$Format;", false)
def tyX5 : Nat → FieldType := fun k => match k with
  | _ => .object "FloatCircuits$Format"
theorem nmX5 : ∀ a, a < 1 → ∀ b, b < 1 → a ≠ b → (TX5 a).2.1 ≠ (TX5 b).2.1 := by decide +kernel
theorem tyX5_ok : ∀ k, k < 1 → parseFieldDescriptor (TX5 k).2.2.1 = some (tyX5 k) := by decide +kernel
theorem hiX5 : ∀ w ∈ u_ws RX5 TX5 1, w ∈ fc_all := by decide +kernel
def TX6 : u_T := fun k => match k with
  | 0 => ("FloatCircuitsModel", "format", "I", false)
  | 1 => ("FloatCircuitsModel", "code", "I", false)
  | 2 => ("FloatCircuitsModel", "minus", "Z", false)
  | 3 => ("FloatCircuitsModel", "m", "J", false)
  | 4 => ("FloatCircuitsModel", "power", "I", false)
  | 5 => ("FloatCircuitsModel", "infinite", "Z", false)
  | _ => ("FloatCircuitsModel", "none", "Z", false)
def tyX6 : Nat → FieldType := fun k => match k with
  | 0 => .int
  | 1 => .int
  | 2 => .boolean
  | 3 => .long
  | 4 => .int
  | 5 => .boolean
  | _ => .boolean
theorem nmX6 : ∀ a, a < 7 → ∀ b, b < 7 → a ≠ b → (TX6 a).2.1 ≠ (TX6 b).2.1 := by decide +kernel
theorem tyX6_ok : ∀ k, k < 7 → parseFieldDescriptor (TX6 k).2.2.1 = some (tyX6 k) := by decide +kernel
theorem hiX6 : ∀ w ∈ u_ws RX6 TX6 7, w ∈ fc_all := by decide +kernel
abbrev vwCl : List vw_C := [(RX0, TX0, 6), (RX4, TX4, 5), (RX5, TX5, 1), (RX6, TX6, 7)]
abbrev wsX5_init : List Cond := .code yX5_init cX5_init 1 none :: fc_all
abbrev wsX0_init : List Cond := .code yX0_init cX0_init 4 none :: fc_all
abbrev wsL_format : List Cond := .codeWith yL_format cL_format 5 (some .int) [(0, 10, 13, 13)] :: fc_all
abbrev wsX5_format : List Cond := .code yX5_format cX5_format 3 (some .int) :: fc_all
abbrev wsX5_isFormat : List Cond := .code yX5_isFormat cX5_isFormat 2 (some .boolean) :: fc_all
abbrev wsX5_isWithin : List Cond := .code yX5_isWithin cX5_isWithin 3 (some .boolean) :: fc_all
abbrev wsX5_require : List Cond := .code yX5_require cX5_require 1 none :: fc_all
abbrev wsL_reckon : List Cond := .codeWith yL_reckon cL_reckon 7 (some .int) [(0, 14, 17, 13)] :: fc_all
abbrev wsX5_reckon : List Cond := .code yX5_reckon cX5_reckon 7 (some .int) :: fc_all
abbrev wsX5_isMode : List Cond := .code yX5_isMode cX5_isMode 1 (some .boolean) :: fc_all
abbrev wsX0_holds : List Cond := .code yX0_holds cX0_holds 2 (some .boolean) :: fc_all
abbrev wsX0_unpack : List Cond := .code yX0_unpack cX0_unpack 12 (some (.object "FloatCircuits$Value")) :: fc_all
abbrev wsX0_signOf : List Cond := .code yX0_signOf cX0_signOf 2 (some .long) :: fc_all
abbrev wsX0_isNan : List Cond := .code yX0_isNan cX0_isNan 2 (some .boolean) :: fc_all
abbrev wsX0_unsigned : List Cond := .code yX0_unsigned cX0_unsigned 2 (some .long) :: fc_all
abbrev wsX1_below : List Cond := .code yX1_below cX1_below 4 (some .long) :: fc_all
abbrev wsX1_difference : List Cond := .code yX1_difference cX1_difference 4 (some .long) :: fc_all
abbrev wsX1_add : List Cond := .code yX1_add cX1_add 13 (some .long) :: fc_all
abbrev wsX1_isNegative : List Cond := .code yX1_isNegative cX1_isNegative 2 (some .long) :: fc_all
abbrev wsX4_notANumber : List Cond := .code yX4_notANumber cX4_notANumber 0 (some (.object "FloatCircuits$Value")) :: fc_all
abbrev wsX4_init : List Cond := .code yX4_init cX4_init 9 none :: fc_all
abbrev wsX1_any : List Cond := .code yX1_any cX1_any 5 (some .long) :: fc_all
abbrev wsX4_infinity : List Cond := .code yX4_infinity cX4_infinity 2 (some (.object "FloatCircuits$Value")) :: fc_all
abbrev wsX1_ones : List Cond := .code yX1_ones cX1_ones 1 (some .long) :: fc_all
abbrev wsX1_sum : List Cond := .code yX1_sum cX1_sum 4 (some .long) :: fc_all
abbrev wsX4_finite : List Cond := .code yX4_finite cX4_finite 6 (some (.object "FloatCircuits$Value")) :: fc_all
abbrev wsX2_sum : List Cond := .code yX2_sum cX2_sum 9 (some (.object "FloatCircuits$Value")) :: fc_all
abbrev wsX1_choose : List Cond := .code yX1_choose cX1_choose 8 (some .long) :: fc_all
abbrev wsX1_fan : List Cond := .code yX1_fan cX1_fan 2 (some .long) :: fc_all
abbrev wsX2_signedAt : List Cond := .code yX2_signedAt cX2_signedAt 5 (some .long) :: fc_all
abbrev wsX1_shiftLeft : List Cond := .code yX1_shiftLeft cX1_shiftLeft 7 (some .long) :: fc_all
abbrev wsX1_negateIf : List Cond := .code yX1_negateIf cX1_negateIf 4 (some .long) :: fc_all
abbrev wsX2_signOfZeroSum : List Cond := .code yX2_signOfZeroSum cX2_signOfZeroSum 5 (some .long) :: fc_all
abbrev wsX0_pack : List Cond := .code yX0_pack cX0_pack 6 (some .int) :: fc_all
abbrev wsX0_signed : List Cond := .code yX0_signed cX0_signed 5 (some .int) :: fc_all
abbrev wsX4_isZero : List Cond := .code yX4_isZero cX4_isZero 1 (some .boolean) :: fc_all
abbrev wsX0_packMagnitude : List Cond := .code yX0_packMagnitude cX0_packMagnitude 11 (some .long) :: fc_all
abbrev wsX1_top : List Cond := .code yX1_top cX1_top 11 (some .long) :: fc_all
abbrev wsX3_round : List Cond := .code yX3_round cX3_round 16 (some .long) :: fc_all
abbrev wsX1_shiftRightMarking : List Cond := .code yX1_shiftRightMarking cX1_shiftRightMarking 10 (some .long) :: fc_all
abbrev wsX3_oneMore : List Cond := .code yX3_oneMore cX3_oneMore 9 (some .long) :: fc_all
abbrev wsX3_isEndless : List Cond := .code yX3_isEndless cX3_isEndless 3 (some .boolean) :: fc_all
abbrev wsX4_opposite : List Cond := .code yX4_opposite cX4_opposite 1 (some (.object "FloatCircuits$Value")) :: fc_all
abbrev wsX2_product : List Cond := .code yX2_product cX2_product 6 (some (.object "FloatCircuits$Value")) :: fc_all
abbrev wsX1_product : List Cond := .code yX1_product cX1_product 8 (some .long) :: fc_all
abbrev wsX2_quotient : List Cond := .code yX2_quotient cX2_quotient 9 (some (.object "FloatCircuits$Value")) :: fc_all
abbrev wsX1_quotient : List Cond := .code yX1_quotient cX1_quotient 14 (some .long) :: fc_all
abbrev wsL_change : List Cond := .codeWith yL_change cL_change 6 (some .int) [(0, 12, 15, 13)] :: fc_all
abbrev wsX5_change : List Cond := .code yX5_change cX5_change 5 (some .int) :: fc_all
abbrev wsX2_root : List Cond := .code yX2_root cX2_root 10 (some (.object "FloatCircuits$Value")) :: fc_all
abbrev wsX1_root : List Cond := .code yX1_root cX1_root 12 (some .long) :: fc_all
abbrev wsX2_whole : List Cond := .code yX2_whole cX2_whole 2 (some (.object "FloatCircuits$Value")) :: fc_all
abbrev wsL_least : List Cond := .codeWith yL_least cL_least 6 (some .int) [(0, 12, 15, 13)] :: fc_all
abbrev wsX5_least : List Cond := .code yX5_least cX5_least 5 (some .int) :: fc_all
abbrev wsX0_isBelow : List Cond := .code yX0_isBelow cX0_isBelow 3 (some .boolean) :: fc_all
abbrev wsX0_rank : List Cond := .code yX0_rank cX0_rank 2 (some .long) :: fc_all
abbrev wsL_compare : List Cond := .codeWith yL_compare cL_compare 6 (some .int) [(0, 19, 22, 13)] :: fc_all
abbrev wsX5_compare : List Cond := .code yX5_compare cX5_compare 4 (some .boolean) :: fc_all
abbrev wsL_is : List Cond := .codeWith yL_is cL_is 5 (some .int) [(0, 17, 20, 13)] :: fc_all
abbrev wsX5_is : List Cond := .code yX5_is cX5_is 6 (some .boolean) :: fc_all
abbrev wsX0_hasHiddenOne : List Cond := .code yX0_hasHiddenOne cX0_hasHiddenOne 2 (some .boolean) :: fc_all
abbrev wsL_from : List Cond := .codeWith yL_from cL_from 7 (some .int) [(0, 14, 17, 13)] :: fc_all
abbrev wsX5_from : List Cond := .code yX5_from cX5_from 6 (some .int) :: fc_all
abbrev wsL_ofWhole : List Cond := .codeWith yL_ofWhole cL_ofWhole 7 (some .int) [(0, 14, 17, 13)] :: fc_all
abbrev wsX5_ofWhole : List Cond := .code yX5_ofWhole cX5_ofWhole 11 (some .int) :: fc_all
abbrev wsL_toWhole : List Cond := .codeWith yL_toWhole cL_toWhole 7 (some .int) [(0, 14, 17, 13)] :: fc_all
abbrev wsX5_toWhole : List Cond := .code yX5_toWhole cX5_toWhole 6 (some .int) :: fc_all
abbrev wsX5_isWithinBits : List Cond := .code yX5_isWithinBits cX5_isWithinBits 5 (some .boolean) :: fc_all
abbrev wsX6_init : List Cond := .code yX6_init cX6_init 1 none :: fc_all
abbrev wsX6_thrown : List Cond := .code yX6_thrown cX6_thrown 1 (some .int) :: fc_all
abbrev wsX6_format : List Cond := .code yX6_format cX6_format 3 (some .int) :: fc_all
abbrev wsX6_isFormat : List Cond := .code yX6_isFormat cX6_isFormat 2 (some .boolean) :: fc_all
abbrev wsX6_in : List Cond := .code yX6_in cX6_in 3 (some .boolean) :: fc_all
abbrev wsX6_good : List Cond := .code yX6_good cX6_good 2 (some .boolean) :: fc_all
abbrev wsX6_reckon : List Cond := .code yX6_reckon cX6_reckon 5 (some .int) :: fc_all
abbrev wsX6_isFloat : List Cond := .code yX6_isFloat cX6_isFloat 3 (some .boolean) :: fc_all
abbrev wsX6_width : List Cond := .code yX6_width cX6_width 1 (some .int) :: fc_all
abbrev wsX6_exponent : List Cond := .code yX6_exponent cX6_exponent 1 (some .int) :: fc_all
abbrev wsX6_significand : List Cond := .code yX6_significand cX6_significand 1 (some .int) :: fc_all
abbrev wsX6_mask : List Cond := .code yX6_mask cX6_mask 1 (some .long) :: fc_all
abbrev wsX6_arithmetic : List Cond := .code yX6_arithmetic cX6_arithmetic 26 (some .long) :: fc_all
abbrev wsX6_nan : List Cond := .code yX6_nan cX6_nan 2 (some .long) :: fc_all
abbrev wsX6_take : List Cond := .code yX6_take cX6_take 11 none :: fc_all
abbrev wsX6_round : List Cond := .code yX6_round cX6_round 18 (some .long) :: fc_all
abbrev wsJ1_numberOfLeadingZeros : List Cond := .code yJ1_numberOfLeadingZeros cJ1_numberOfLeadingZeros 3 (some .int) :: fc_all
abbrev wsJ0_numberOfLeadingZeros : List Cond := .code yJ0_numberOfLeadingZeros cJ0_numberOfLeadingZeros 2 (some .int) :: fc_all
abbrev wsX6_cut : List Cond := .code yX6_cut cX6_cut 12 (some .long) :: fc_all
abbrev wsX6_away : List Cond := .code yX6_away cX6_away 5 (some .boolean) :: fc_all
abbrev wsX6_change : List Cond := .code yX6_change cX6_change 6 (some .int) :: fc_all
abbrev wsX6_canonical : List Cond := .code yX6_canonical cX6_canonical 4 (some .long) :: fc_all
abbrev wsX6_squareRoot : List Cond := .code yX6_squareRoot cX6_squareRoot 12 (some .long) :: fc_all
abbrev wsX6_whole : List Cond := .code yX6_whole cX6_whole 7 (some .long) :: fc_all
abbrev wsX6_least : List Cond := .code yX6_least cX6_least 4 (some .int) :: fc_all
abbrev wsX6_extreme : List Cond := .code yX6_extreme cX6_extreme 8 (some .long) :: fc_all
abbrev wsX6_order : List Cond := .code yX6_order cX6_order 11 (some .int) :: fc_all
abbrev wsX6_compare : List Cond := .code yX6_compare cX6_compare 4 (some .boolean) :: fc_all
abbrev wsX6_compared : List Cond := .code yX6_compared cX6_compared 9 (some .long) :: fc_all
abbrev wsX6_is : List Cond := .code yX6_is cX6_is 3 (some .boolean) :: fc_all
abbrev wsX6_told : List Cond := .code yX6_told cX6_told 8 (some .long) :: fc_all
abbrev wsX6_from : List Cond := .code yX6_from cX6_from 7 (some .int) :: fc_all
abbrev wsX6_ofWhole : List Cond := .code yX6_ofWhole cX6_ofWhole 9 (some .int) :: fc_all
abbrev wsX6_signed : List Cond := .code yX6_signed cX6_signed 3 (some .long) :: fc_all
abbrev wsX6_toWhole : List Cond := .code yX6_toWhole cX6_toWhole 9 (some .int) :: fc_all
