section
-- ===== PART A: goes FIRST, ahead of the names: the tables' words, and 'selects' of the private methods out of them =====
/-- a private method of a class that the tables say can be made, by its rows of tables_1 -/
def lw_okq (q : MethodName × Nat) : Prop := (q.1.cls ≠ "java/lang/invoke/MethodHandle" ∧ q.1.cls ≠ "java/lang/invoke/VarHandle") ∧ Cond.instantiable q.1.cls q.2 ∈ tables_1 ∧ Cond.privateMethod q.1 ∈ tables_1 ∧ Cond.instanceMethod q.1 ∈ tables_1
theorem lw_p0 : lw_okq (⟨"java/lang/Throwable", "fillInStackTrace", "(I)Ljava/lang/Throwable;"⟩, 6) := ⟨⟨by decide +kernel, by decide +kernel⟩, List.mem_of_getElem? (i := 108) (by decide +kernel), List.mem_of_getElem? (i := 106) (by decide +kernel), List.mem_of_getElem? (i := 107) (by decide +kernel)⟩
theorem lw_p1 : lw_okq (⟨"FloatCircuits$Format", "signOf", "(I)J"⟩, 6) := ⟨⟨by decide +kernel, by decide +kernel⟩, List.mem_of_getElem? (i := 23) (by decide +kernel), List.mem_of_getElem? (i := 152) (by decide +kernel), List.mem_of_getElem? (i := 153) (by decide +kernel)⟩
theorem lw_p2 : lw_okq (⟨"FloatCircuits$Format", "unsigned", "(I)J"⟩, 6) := ⟨⟨by decide +kernel, by decide +kernel⟩, List.mem_of_getElem? (i := 23) (by decide +kernel), List.mem_of_getElem? (i := 160) (by decide +kernel), List.mem_of_getElem? (i := 161) (by decide +kernel)⟩
theorem lw_p3 : lw_okq (⟨"FloatCircuits$Format", "signed", "(JJ)I"⟩, 6) := ⟨⟨by decide +kernel, by decide +kernel⟩, List.mem_of_getElem? (i := 23) (by decide +kernel), List.mem_of_getElem? (i := 268) (by decide +kernel), List.mem_of_getElem? (i := 269) (by decide +kernel)⟩
theorem lw_p4 : lw_okq (⟨"FloatCircuits$Format", "packMagnitude", "(ILFloatCircuits$Value;)J"⟩, 6) := ⟨⟨by decide +kernel, by decide +kernel⟩, List.mem_of_getElem? (i := 23) (by decide +kernel), List.mem_of_getElem? (i := 277) (by decide +kernel), List.mem_of_getElem? (i := 278) (by decide +kernel)⟩
theorem lw_p5 : lw_okq (⟨"FloatCircuits$Format", "rank", "(I)J"⟩, 6) := ⟨⟨by decide +kernel, by decide +kernel⟩, List.mem_of_getElem? (i := 23) (by decide +kernel), List.mem_of_getElem? (i := 356) (by decide +kernel), List.mem_of_getElem? (i := 357) (by decide +kernel)⟩
theorem lw_p6 : lw_okq (⟨"FloatCircuitsModel", "good", "(Z)Z"⟩, 7) := ⟨⟨by decide +kernel, by decide +kernel⟩, List.mem_of_getElem? (i := 411) (by decide +kernel), List.mem_of_getElem? (i := 453) (by decide +kernel), List.mem_of_getElem? (i := 454) (by decide +kernel)⟩
theorem lw_p7 : lw_okq (⟨"FloatCircuitsModel", "isFloat", "(II)Z"⟩, 7) := ⟨⟨by decide +kernel, by decide +kernel⟩, List.mem_of_getElem? (i := 411) (by decide +kernel), List.mem_of_getElem? (i := 461) (by decide +kernel), List.mem_of_getElem? (i := 462) (by decide +kernel)⟩
theorem lw_p8 : lw_okq (⟨"FloatCircuitsModel", "arithmetic", "(IIJJI)J"⟩, 7) := ⟨⟨by decide +kernel, by decide +kernel⟩, List.mem_of_getElem? (i := 411) (by decide +kernel), List.mem_of_getElem? (i := 477) (by decide +kernel), List.mem_of_getElem? (i := 478) (by decide +kernel)⟩
theorem lw_p9 : lw_okq (⟨"FloatCircuitsModel", "take", "(JI)V"⟩, 7) := ⟨⟨by decide +kernel, by decide +kernel⟩, List.mem_of_getElem? (i := 411) (by decide +kernel), List.mem_of_getElem? (i := 484) (by decide +kernel), List.mem_of_getElem? (i := 485) (by decide +kernel)⟩
theorem lw_p10 : lw_okq (⟨"FloatCircuitsModel", "canonical", "(JI)J"⟩, 7) := ⟨⟨by decide +kernel, by decide +kernel⟩, List.mem_of_getElem? (i := 411) (by decide +kernel), List.mem_of_getElem? (i := 508) (by decide +kernel), List.mem_of_getElem? (i := 509) (by decide +kernel)⟩
theorem lw_p11 : lw_okq (⟨"FloatCircuitsModel", "squareRoot", "(IJI)J"⟩, 7) := ⟨⟨by decide +kernel, by decide +kernel⟩, List.mem_of_getElem? (i := 411) (by decide +kernel), List.mem_of_getElem? (i := 512) (by decide +kernel), List.mem_of_getElem? (i := 513) (by decide +kernel)⟩
theorem lw_p12 : lw_okq (⟨"FloatCircuitsModel", "whole", "(IJI)J"⟩, 7) := ⟨⟨by decide +kernel, by decide +kernel⟩, List.mem_of_getElem? (i := 411) (by decide +kernel), List.mem_of_getElem? (i := 517) (by decide +kernel), List.mem_of_getElem? (i := 518) (by decide +kernel)⟩
theorem lw_p13 : lw_okq (⟨"FloatCircuitsModel", "extreme", "(ZJJI)J"⟩, 7) := ⟨⟨by decide +kernel, by decide +kernel⟩, List.mem_of_getElem? (i := 411) (by decide +kernel), List.mem_of_getElem? (i := 526) (by decide +kernel), List.mem_of_getElem? (i := 527) (by decide +kernel)⟩
theorem lw_p14 : lw_okq (⟨"FloatCircuitsModel", "order", "(JJI)I"⟩, 7) := ⟨⟨by decide +kernel, by decide +kernel⟩, List.mem_of_getElem? (i := 411) (by decide +kernel), List.mem_of_getElem? (i := 530) (by decide +kernel), List.mem_of_getElem? (i := 531) (by decide +kernel)⟩
theorem lw_p15 : lw_okq (⟨"FloatCircuitsModel", "compared", "(IJJI)J"⟩, 7) := ⟨⟨by decide +kernel, by decide +kernel⟩, List.mem_of_getElem? (i := 411) (by decide +kernel), List.mem_of_getElem? (i := 538) (by decide +kernel), List.mem_of_getElem? (i := 539) (by decide +kernel)⟩
def lw_privs_1 : List (MethodName × Nat) := [(⟨"java/lang/Throwable", "fillInStackTrace", "(I)Ljava/lang/Throwable;"⟩, 6), (⟨"FloatCircuits$Format", "signOf", "(I)J"⟩, 6), (⟨"FloatCircuits$Format", "unsigned", "(I)J"⟩, 6), (⟨"FloatCircuits$Format", "signed", "(JJ)I"⟩, 6), (⟨"FloatCircuits$Format", "packMagnitude", "(ILFloatCircuits$Value;)J"⟩, 6), (⟨"FloatCircuits$Format", "rank", "(I)J"⟩, 6), (⟨"FloatCircuitsModel", "good", "(Z)Z"⟩, 7), (⟨"FloatCircuitsModel", "isFloat", "(II)Z"⟩, 7), (⟨"FloatCircuitsModel", "arithmetic", "(IIJJI)J"⟩, 7), (⟨"FloatCircuitsModel", "take", "(JI)V"⟩, 7), (⟨"FloatCircuitsModel", "canonical", "(JI)J"⟩, 7), (⟨"FloatCircuitsModel", "squareRoot", "(IJI)J"⟩, 7), (⟨"FloatCircuitsModel", "whole", "(IJI)J"⟩, 7), (⟨"FloatCircuitsModel", "extreme", "(ZJJI)J"⟩, 7), (⟨"FloatCircuitsModel", "order", "(JJI)I"⟩, 7), (⟨"FloatCircuitsModel", "compared", "(IJJI)J"⟩, 7)]
theorem lw_r1 : ∀ q ∈ lw_privs_1, lw_okq q := List.forall_mem_cons.mpr ⟨lw_p0, List.forall_mem_cons.mpr ⟨lw_p1, List.forall_mem_cons.mpr ⟨lw_p2, List.forall_mem_cons.mpr ⟨lw_p3, List.forall_mem_cons.mpr ⟨lw_p4, List.forall_mem_cons.mpr ⟨lw_p5, List.forall_mem_cons.mpr ⟨lw_p6, List.forall_mem_cons.mpr ⟨lw_p7, List.forall_mem_cons.mpr ⟨lw_p8, List.forall_mem_cons.mpr ⟨lw_p9, List.forall_mem_cons.mpr ⟨lw_p10, List.forall_mem_cons.mpr ⟨lw_p11, List.forall_mem_cons.mpr ⟨lw_p12, List.forall_mem_cons.mpr ⟨lw_p13, List.forall_mem_cons.mpr ⟨lw_p14, List.forall_mem_cons.mpr ⟨lw_p15, fun _ h => absurd h List.not_mem_nil⟩⟩⟩⟩⟩⟩⟩⟩⟩⟩⟩⟩⟩⟩⟩⟩
theorem lw_p16 : lw_okq (⟨"FloatCircuitsModel", "told", "(IJI)J"⟩, 7) := ⟨⟨by decide +kernel, by decide +kernel⟩, List.mem_of_getElem? (i := 411) (by decide +kernel), List.mem_of_getElem? (i := 546) (by decide +kernel), List.mem_of_getElem? (i := 547) (by decide +kernel)⟩
def lw_privs_2 : List (MethodName × Nat) := [(⟨"FloatCircuitsModel", "told", "(IJI)J"⟩, 7)]
theorem lw_r2 : ∀ q ∈ lw_privs_2, lw_okq q := List.forall_mem_cons.mpr ⟨lw_p16, fun _ h => absurd h List.not_mem_nil⟩
def lw_privs : List (MethodName × Nat) := lw_privs_1 ++ (lw_privs_2)
def lw_tbl : List Cond := k2_sels lw_privs ++ tables_1
theorem lw_privs_ok : ∀ q ∈ lw_privs, lw_okq q := by
  show ∀ q ∈ lw_privs_1 ++ (lw_privs_2), lw_okq q
  exact List.forall_mem_append.mpr ⟨lw_r1, lw_r2⟩
end
section
def fc_all : List Cond := lw_tbl.filter goodWord
theorem fc_mem {w : Cond} (h : w ∈ tables_1) (hg : goodWord w = true) : w ∈ fc_all := List.mem_filter.mpr ⟨List.mem_append_right _ h, hg⟩
theorem fc_1 {w : Cond} {i : Nat} (h : tables_1_1[i]? = some w) (hg : goodWord w = true) : w ∈ fc_all := fc_mem (List.mem_append_left _ (List.mem_of_getElem? h)) hg
theorem fc_2 {w : Cond} {i : Nat} (h : tables_1_2[i]? = some w) (hg : goodWord w = true) : w ∈ fc_all := fc_mem (List.mem_append_right _ (List.mem_append_left _ (List.mem_of_getElem? h))) hg
theorem fc_3 {w : Cond} {i : Nat} (h : tables_1_3[i]? = some w) (hg : goodWord w = true) : w ∈ fc_all := fc_mem (List.mem_append_right _ (List.mem_append_right _ (List.mem_of_getElem? h))) hg
theorem fc_s {w : Cond} {i : Nat} (h : (k2_sels lw_privs)[i]? = some w) (hg : goodWord w = true) : w ∈ fc_all := List.mem_filter.mpr ⟨List.mem_append_left _ (List.mem_of_getElem? h), hg⟩
theorem fc_good : GoodIn fc_all fc_all := fun w h => ⟨h, good_of_word (List.mem_filter.mp h).2⟩
def RJ0 : String := "java/lang/Integer"
def RJ1 : String := "java/lang/Long"
def RL : String := "FloatCircuitsLaw"
def RX0 : String := "FloatCircuits$Format"
def RX1 : String := "FloatCircuits$Gates"
def RX2 : String := "FloatCircuits$Reckoner"
def RX3 : String := "FloatCircuits$Rounder"
def RX4 : String := "FloatCircuits$Value"
def RX5 : String := "FloatCircuits"
def RX6 : String := "FloatCircuitsModel"
abbrev cX5_init : ByteArray := prog_1_method_1_code
def yX5_init : MethodName := ⟨RX5, "<init>", "()V"⟩
abbrev cX0_init : ByteArray := prog_2_method_1_code
def yX0_init : MethodName := ⟨RX0, "<init>", "(II)V"⟩
abbrev cL_format : ByteArray := method_3_code
def yL_format : MethodName := ⟨RL, "format", "(LFloatCircuits;II[J)I"⟩
abbrev cX5_format : ByteArray := prog_1_method_2_code
def yX5_format : MethodName := ⟨RX5, "format", "(II)I"⟩
abbrev cX5_isFormat : ByteArray := prog_1_method_15_code
def yX5_isFormat : MethodName := ⟨RX5, "isFormat", "(II)Z"⟩
abbrev cX5_isWithin : ByteArray := prog_1_method_13_code
def yX5_isWithin : MethodName := ⟨RX5, "isWithin", "(III)Z"⟩
abbrev cX5_require : ByteArray := prog_1_method_12_code
def yX5_require : MethodName := ⟨RX5, "require", "(Z)V"⟩
abbrev cL_reckon : ByteArray := method_4_code
def yL_reckon : MethodName := ⟨RL, "reckon", "(LFloatCircuits;IIII[J)I"⟩
abbrev cX5_reckon : ByteArray := prog_1_method_3_code
def yX5_reckon : MethodName := ⟨RX5, "reckon", "(IIII)I"⟩
abbrev cX5_isMode : ByteArray := prog_1_method_14_code
def yX5_isMode : MethodName := ⟨RX5, "isMode", "(I)Z"⟩
abbrev cX0_holds : ByteArray := prog_2_method_2_code
def yX0_holds : MethodName := ⟨RX0, "holds", "(I)Z"⟩
abbrev cX0_unpack : ByteArray := prog_2_method_6_code
def yX0_unpack : MethodName := ⟨RX0, "unpack", "(I)LFloatCircuits$Value;"⟩
abbrev cX0_signOf : ByteArray := prog_2_method_10_code
def yX0_signOf : MethodName := ⟨RX0, "signOf", "(I)J"⟩
abbrev cX0_isNan : ByteArray := prog_2_method_3_code
def yX0_isNan : MethodName := ⟨RX0, "isNan", "(I)Z"⟩
abbrev cX0_unsigned : ByteArray := prog_2_method_9_code
def yX0_unsigned : MethodName := ⟨RX0, "unsigned", "(I)J"⟩
abbrev cX1_below : ByteArray := prog_3_method_10_code
def yX1_below : MethodName := ⟨RX1, "below", "(JJ)J"⟩
abbrev cX1_difference : ByteArray := prog_3_method_8_code
def yX1_difference : MethodName := ⟨RX1, "difference", "(JJ)J"⟩
abbrev cX1_add : ByteArray := prog_3_method_11_code
def yX1_add : MethodName := ⟨RX1, "add", "(JJJ)J"⟩
abbrev cX1_isNegative : ByteArray := prog_3_method_6_code
def yX1_isNegative : MethodName := ⟨RX1, "isNegative", "(J)J"⟩
abbrev cX4_notANumber : ByteArray := prog_6_method_2_code
def yX4_notANumber : MethodName := ⟨RX4, "notANumber", "()LFloatCircuits$Value;"⟩
abbrev cX4_init : ByteArray := prog_6_method_1_code
def yX4_init : MethodName := ⟨RX4, "<init>", "(ZZJJJ)V"⟩
abbrev cX1_any : ByteArray := prog_3_method_5_code
def yX1_any : MethodName := ⟨RX1, "any", "(J)J"⟩
abbrev cX4_infinity : ByteArray := prog_6_method_3_code
def yX4_infinity : MethodName := ⟨RX4, "infinity", "(J)LFloatCircuits$Value;"⟩
abbrev cX1_ones : ByteArray := prog_3_method_2_code
def yX1_ones : MethodName := ⟨RX1, "ones", "(I)J"⟩
abbrev cX1_sum : ByteArray := prog_3_method_7_code
def yX1_sum : MethodName := ⟨RX1, "sum", "(JJ)J"⟩
abbrev cX4_finite : ByteArray := prog_6_method_4_code
def yX4_finite : MethodName := ⟨RX4, "finite", "(JJJ)LFloatCircuits$Value;"⟩
abbrev cX2_sum : ByteArray := prog_4_method_2_code
def yX2_sum : MethodName := ⟨RX2, "sum", "(ILFloatCircuits$Value;LFloatCircuits$Value;)LFloatCircuits$Value;"⟩
abbrev cX1_choose : ByteArray := prog_3_method_4_code
def yX1_choose : MethodName := ⟨RX1, "choose", "(JJJ)J"⟩
abbrev cX1_fan : ByteArray := prog_3_method_3_code
def yX1_fan : MethodName := ⟨RX1, "fan", "(J)J"⟩
abbrev cX2_signedAt : ByteArray := prog_4_method_3_code
def yX2_signedAt : MethodName := ⟨RX2, "signedAt", "(JLFloatCircuits$Value;)J"⟩
abbrev cX1_shiftLeft : ByteArray := prog_3_method_12_code
def yX1_shiftLeft : MethodName := ⟨RX1, "shiftLeft", "(JJ)J"⟩
abbrev cX1_negateIf : ByteArray := prog_3_method_9_code
def yX1_negateIf : MethodName := ⟨RX1, "negateIf", "(JJ)J"⟩
abbrev cX2_signOfZeroSum : ByteArray := prog_4_method_4_code
def yX2_signOfZeroSum : MethodName := ⟨RX2, "signOfZeroSum", "(IJJ)J"⟩
abbrev cX0_pack : ByteArray := prog_2_method_7_code
def yX0_pack : MethodName := ⟨RX0, "pack", "(ILFloatCircuits$Value;)I"⟩
abbrev cX0_signed : ByteArray := prog_2_method_11_code
def yX0_signed : MethodName := ⟨RX0, "signed", "(JJ)I"⟩
abbrev cX4_isZero : ByteArray := prog_6_method_6_code
def yX4_isZero : MethodName := ⟨RX4, "isZero", "()Z"⟩
abbrev cX0_packMagnitude : ByteArray := prog_2_method_8_code
def yX0_packMagnitude : MethodName := ⟨RX0, "packMagnitude", "(ILFloatCircuits$Value;)J"⟩
abbrev cX1_top : ByteArray := prog_3_method_14_code
def yX1_top : MethodName := ⟨RX1, "top", "(J)J"⟩
abbrev cX3_round : ByteArray := prog_5_method_2_code
def yX3_round : MethodName := ⟨RX3, "round", "(ILFloatCircuits$Value;J)J"⟩
abbrev cX1_shiftRightMarking : ByteArray := prog_3_method_13_code
def yX1_shiftRightMarking : MethodName := ⟨RX1, "shiftRightMarking", "(JJ)J"⟩
abbrev cX3_oneMore : ByteArray := prog_5_method_3_code
def yX3_oneMore : MethodName := ⟨RX3, "oneMore", "(IJJJJ)J"⟩
abbrev cX3_isEndless : ByteArray := prog_5_method_4_code
def yX3_isEndless : MethodName := ⟨RX3, "isEndless", "(IJ)Z"⟩
abbrev cX4_opposite : ByteArray := prog_6_method_5_code
def yX4_opposite : MethodName := ⟨RX4, "opposite", "()LFloatCircuits$Value;"⟩
abbrev cX2_product : ByteArray := prog_4_method_5_code
def yX2_product : MethodName := ⟨RX2, "product", "(LFloatCircuits$Value;LFloatCircuits$Value;)LFloatCircuits$Value;"⟩
abbrev cX1_product : ByteArray := prog_3_method_15_code
def yX1_product : MethodName := ⟨RX1, "product", "(JJI)J"⟩
abbrev cX2_quotient : ByteArray := prog_4_method_6_code
def yX2_quotient : MethodName := ⟨RX2, "quotient", "(LFloatCircuits$Value;LFloatCircuits$Value;)LFloatCircuits$Value;"⟩
abbrev cX1_quotient : ByteArray := prog_3_method_16_code
def yX1_quotient : MethodName := ⟨RX1, "quotient", "(JJI)J"⟩
abbrev cL_change : ByteArray := method_5_code
def yL_change : MethodName := ⟨RL, "change", "(LFloatCircuits;III[J)I"⟩
abbrev cX5_change : ByteArray := prog_1_method_4_code
def yX5_change : MethodName := ⟨RX5, "change", "(III)I"⟩
abbrev cX2_root : ByteArray := prog_4_method_7_code
def yX2_root : MethodName := ⟨RX2, "root", "(LFloatCircuits$Value;)LFloatCircuits$Value;"⟩
abbrev cX1_root : ByteArray := prog_3_method_17_code
def yX1_root : MethodName := ⟨RX1, "root", "(JI)J"⟩
abbrev cX2_whole : ByteArray := prog_4_method_8_code
def yX2_whole : MethodName := ⟨RX2, "whole", "(ILFloatCircuits$Value;)LFloatCircuits$Value;"⟩
abbrev cL_least : ByteArray := method_6_code
def yL_least : MethodName := ⟨RL, "least", "(LFloatCircuits;IIZ[J)I"⟩
abbrev cX5_least : ByteArray := prog_1_method_5_code
def yX5_least : MethodName := ⟨RX5, "least", "(IIZ)I"⟩
abbrev cX0_isBelow : ByteArray := prog_2_method_5_code
def yX0_isBelow : MethodName := ⟨RX0, "isBelow", "(II)Z"⟩
abbrev cX0_rank : ByteArray := prog_2_method_12_code
def yX0_rank : MethodName := ⟨RX0, "rank", "(I)J"⟩
abbrev cL_compare : ByteArray := method_7_code
def yL_compare : MethodName := ⟨RL, "compare", "(LFloatCircuits;III[J)I"⟩
abbrev cX5_compare : ByteArray := prog_1_method_6_code
def yX5_compare : MethodName := ⟨RX5, "compare", "(III)Z"⟩
abbrev cL_is : ByteArray := method_8_code
def yL_is : MethodName := ⟨RL, "is", "(LFloatCircuits;II[J)I"⟩
abbrev cX5_is : ByteArray := prog_1_method_7_code
def yX5_is : MethodName := ⟨RX5, "is", "(II)Z"⟩
abbrev cX0_hasHiddenOne : ByteArray := prog_2_method_4_code
def yX0_hasHiddenOne : MethodName := ⟨RX0, "hasHiddenOne", "(I)Z"⟩
abbrev cL_from : ByteArray := method_9_code
def yL_from : MethodName := ⟨RL, "from", "(LFloatCircuits;IIII[J)I"⟩
abbrev cX5_from : ByteArray := prog_1_method_8_code
def yX5_from : MethodName := ⟨RX5, "from", "(IIII)I"⟩
abbrev cL_ofWhole : ByteArray := method_10_code
def yL_ofWhole : MethodName := ⟨RL, "ofWhole", "(LFloatCircuits;IIIZ[J)I"⟩
abbrev cX5_ofWhole : ByteArray := prog_1_method_9_code
def yX5_ofWhole : MethodName := ⟨RX5, "ofWhole", "(IIIZ)I"⟩
abbrev cL_toWhole : ByteArray := method_11_code
def yL_toWhole : MethodName := ⟨RL, "toWhole", "(LFloatCircuits;IIIZ[J)I"⟩
abbrev cX5_toWhole : ByteArray := prog_1_method_10_code
def yX5_toWhole : MethodName := ⟨RX5, "toWhole", "(IIIZ)I"⟩
abbrev cX5_isWithinBits : ByteArray := prog_1_method_11_code
def yX5_isWithinBits : MethodName := ⟨RX5, "isWithinBits", "(LFloatCircuits$Value;IZ)Z"⟩
abbrev cX6_init : ByteArray := prog_8_method_1_code
def yX6_init : MethodName := ⟨RX6, "<init>", "()V"⟩
abbrev cX6_thrown : ByteArray := prog_8_method_2_code
def yX6_thrown : MethodName := ⟨RX6, "thrown", "()I"⟩
abbrev cX6_format : ByteArray := prog_8_method_13_code
def yX6_format : MethodName := ⟨RX6, "format", "(II)I"⟩
abbrev cX6_isFormat : ByteArray := prog_8_method_5_code
def yX6_isFormat : MethodName := ⟨RX6, "isFormat", "(II)Z"⟩
abbrev cX6_in : ByteArray := prog_8_method_4_code
def yX6_in : MethodName := ⟨RX6, "in", "(III)Z"⟩
abbrev cX6_good : ByteArray := prog_8_method_3_code
def yX6_good : MethodName := ⟨RX6, "good", "(Z)Z"⟩
abbrev cX6_reckon : ByteArray := prog_8_method_14_code
def yX6_reckon : MethodName := ⟨RX6, "reckon", "(IIII)I"⟩
abbrev cX6_isFloat : ByteArray := prog_8_method_12_code
def yX6_isFloat : MethodName := ⟨RX6, "isFloat", "(II)Z"⟩
abbrev cX6_width : ByteArray := prog_8_method_8_code
def yX6_width : MethodName := ⟨RX6, "width", "(I)I"⟩
abbrev cX6_exponent : ByteArray := prog_8_method_6_code
def yX6_exponent : MethodName := ⟨RX6, "exponent", "(I)I"⟩
abbrev cX6_significand : ByteArray := prog_8_method_7_code
def yX6_significand : MethodName := ⟨RX6, "significand", "(I)I"⟩
abbrev cX6_mask : ByteArray := prog_8_method_9_code
def yX6_mask : MethodName := ⟨RX6, "mask", "(I)J"⟩
abbrev cX6_arithmetic : ByteArray := prog_8_method_27_code
def yX6_arithmetic : MethodName := ⟨RX6, "arithmetic", "(IIJJI)J"⟩
abbrev cX6_nan : ByteArray := prog_8_method_11_code
def yX6_nan : MethodName := ⟨RX6, "nan", "(II)J"⟩
abbrev cX6_take : ByteArray := prog_8_method_22_code
def yX6_take : MethodName := ⟨RX6, "take", "(JI)V"⟩
abbrev cX6_round : ByteArray := prog_8_method_25_code
def yX6_round : MethodName := ⟨RX6, "round", "(IZJIZI)J"⟩
abbrev cJ1_numberOfLeadingZeros : ByteArray := prog_12_method_48_code
def yJ1_numberOfLeadingZeros : MethodName := ⟨RJ1, "numberOfLeadingZeros", "(J)I"⟩
abbrev cJ0_numberOfLeadingZeros : ByteArray := prog_11_method_47_code
def yJ0_numberOfLeadingZeros : MethodName := ⟨RJ0, "numberOfLeadingZeros", "(I)I"⟩
abbrev cX6_cut : ByteArray := prog_8_method_24_code
def yX6_cut : MethodName := ⟨RX6, "cut", "(JIZIZ)J"⟩
abbrev cX6_away : ByteArray := prog_8_method_23_code
def yX6_away : MethodName := ⟨RX6, "away", "(IZZZI)Z"⟩
abbrev cX6_change : ByteArray := prog_8_method_15_code
def yX6_change : MethodName := ⟨RX6, "change", "(III)I"⟩
abbrev cX6_canonical : ByteArray := prog_8_method_26_code
def yX6_canonical : MethodName := ⟨RX6, "canonical", "(JI)J"⟩
abbrev cX6_squareRoot : ByteArray := prog_8_method_28_code
def yX6_squareRoot : MethodName := ⟨RX6, "squareRoot", "(IJI)J"⟩
abbrev cX6_whole : ByteArray := prog_8_method_29_code
def yX6_whole : MethodName := ⟨RX6, "whole", "(IJI)J"⟩
abbrev cX6_least : ByteArray := prog_8_method_16_code
def yX6_least : MethodName := ⟨RX6, "least", "(IIZ)I"⟩
abbrev cX6_extreme : ByteArray := prog_8_method_31_code
def yX6_extreme : MethodName := ⟨RX6, "extreme", "(ZJJI)J"⟩
abbrev cX6_order : ByteArray := prog_8_method_30_code
def yX6_order : MethodName := ⟨RX6, "order", "(JJI)I"⟩
abbrev cX6_compare : ByteArray := prog_8_method_17_code
def yX6_compare : MethodName := ⟨RX6, "compare", "(III)Z"⟩
abbrev cX6_compared : ByteArray := prog_8_method_32_code
def yX6_compared : MethodName := ⟨RX6, "compared", "(IJJI)J"⟩
abbrev cX6_is : ByteArray := prog_8_method_18_code
def yX6_is : MethodName := ⟨RX6, "is", "(II)Z"⟩
abbrev cX6_told : ByteArray := prog_8_method_33_code
def yX6_told : MethodName := ⟨RX6, "told", "(IJI)J"⟩
abbrev cX6_from : ByteArray := prog_8_method_19_code
def yX6_from : MethodName := ⟨RX6, "from", "(IIII)I"⟩
abbrev cX6_ofWhole : ByteArray := prog_8_method_20_code
def yX6_ofWhole : MethodName := ⟨RX6, "ofWhole", "(IIIZ)I"⟩
abbrev cX6_signed : ByteArray := prog_8_method_10_code
def yX6_signed : MethodName := ⟨RX6, "signed", "(JI)J"⟩
abbrev cX6_toWhole : ByteArray := prog_8_method_21_code
def yX6_toWhole : MethodName := ⟨RX6, "toWhole", "(IIIZ)I"⟩
abbrev cL_law : ByteArray := code
def yL_law : MethodName := ⟨RL, "law", "([I)Z"⟩
theorem wk0 : (.initialized RL : Cond) ∈ fc_all := fc_1 (i := 0) rfl rfl
theorem wk1 : (.initialized RX5 : Cond) ∈ fc_all := fc_1 (i := 1) rfl rfl
theorem wk2 : (.initialized RX0 : Cond) ∈ fc_all := fc_1 (i := 2) rfl rfl
theorem wk3 : (.initialized RX6 : Cond) ∈ fc_all := fc_1 (i := 3) rfl rfl
theorem wk4 : (.initialized "java/lang/Throwable" : Cond) ∈ fc_all := fc_1 (i := 4) rfl rfl
theorem wk5 : (.initialized "java/lang/Exception" : Cond) ∈ fc_all := fc_1 (i := 5) rfl rfl
theorem wk6 : (.initialized "java/lang/RuntimeException" : Cond) ∈ fc_all := fc_1 (i := 6) rfl rfl
theorem wk7 : (.initialized "java/lang/IllegalArgumentException" : Cond) ∈ fc_all := fc_1 (i := 7) rfl rfl
theorem wk8 : (.initialized RX1 : Cond) ∈ fc_all := fc_1 (i := 8) rfl rfl
theorem wk9 : (.initialized RX4 : Cond) ∈ fc_all := fc_1 (i := 9) rfl rfl
theorem wk10 : (.initialized RX2 : Cond) ∈ fc_all := fc_1 (i := 10) rfl rfl
theorem wk11 : (.initialized RX3 : Cond) ∈ fc_all := fc_1 (i := 11) rfl rfl
theorem wk12 : (.initialized RJ1 : Cond) ∈ fc_all := fc_1 (i := 12) rfl rfl
theorem wk13 : (.initialized RJ0 : Cond) ∈ fc_all := fc_1 (i := 13) rfl rfl
theorem wk14 : (.classLink RL 8 RX5 : Cond) ∈ fc_all := fc_1 (i := 14) rfl rfl
theorem wk15 : (.instantiable RX5 1 : Cond) ∈ fc_all := fc_1 (i := 15) rfl rfl
theorem wk16 : (.methodLink RL 45 yX5_init : Cond) ∈ fc_all := fc_1 (i := 16) rfl rfl
theorem wk17 : (.instanceMethod yX5_init : Cond) ∈ fc_all := fc_1 (i := 17) rfl rfl
theorem wk18 : (.code yX5_init prog_1_method_1_code 1 none : Cond) ∈ fc_all := fc_1 (i := 18) rfl rfl
theorem wk19 : (.methodLink RX5 1 objectInit : Cond) ∈ fc_all := fc_1 (i := 19) rfl rfl
theorem wk20 : (.instanceMethod objectInit : Cond) ∈ fc_all := fc_1 (i := 20) rfl rfl
theorem wk21 : (.code objectInit object_method_1_code 1 none : Cond) ∈ fc_all := fc_1 (i := 21) rfl rfl
theorem wk22 : (.classLink RX5 7 RX0 : Cond) ∈ fc_all := fc_1 (i := 22) rfl rfl
theorem wk23 : (.instantiable RX0 6 : Cond) ∈ fc_all := fc_1 (i := 23) rfl rfl
theorem wk24 : (.methodLink RX5 9 yX0_init : Cond) ∈ fc_all := fc_1 (i := 24) rfl rfl
theorem wk25 : (.instanceMethod yX0_init : Cond) ∈ fc_all := fc_1 (i := 25) rfl rfl
theorem wk26 : (.code yX0_init prog_2_method_1_code 4 none : Cond) ∈ fc_all := fc_1 (i := 26) rfl rfl
theorem wk27 : (.methodLink RX0 1 objectInit : Cond) ∈ fc_all := fc_1 (i := 27) rfl rfl
theorem wk28 : (.fieldLink RX0 7 "FloatCircuits$Format" "width" "I" : Cond) ∈ fc_all := fc_1 (i := 28) rfl rfl
theorem wk29 : (.fieldLink RX5 26 "FloatCircuits$Format" "width" "I" : Cond) ∈ fc_all := fc_1 (i := 29) rfl rfl
theorem wk30 : (.fieldLink RX0 13 "FloatCircuits$Format" "fractionBits" "I" : Cond) ∈ fc_all := fc_1 (i := 30) rfl rfl
theorem wk31 : (.fieldLink RX0 16 "FloatCircuits$Format" "signBit" "I" : Cond) ∈ fc_all := fc_1 (i := 31) rfl rfl
theorem wk32 : (.fieldLink RX5 82 "FloatCircuits$Format" "signBit" "I" : Cond) ∈ fc_all := fc_1 (i := 32) rfl rfl
theorem wk33 : (.fieldLink RX0 19 "FloatCircuits$Format" "infinity" "I" : Cond) ∈ fc_all := fc_1 (i := 33) rfl rfl
theorem wk34 : (.fieldLink RX0 22 "FloatCircuits$Format" "nan" "I" : Cond) ∈ fc_all := fc_1 (i := 34) rfl rfl
theorem wk35 : (.fieldLink RX5 80 "FloatCircuits$Format" "nan" "I" : Cond) ∈ fc_all := fc_1 (i := 35) rfl rfl
theorem wk36 : (.fieldLink RX0 25 "FloatCircuits$Format" "finest" "I" : Cond) ∈ fc_all := fc_1 (i := 36) rfl rfl
theorem wk37 : (.fieldLink RX5 12 "FloatCircuits" "present" "LFloatCircuits$Format;" : Cond) ∈ fc_all := fc_1 (i := 50) rfl rfl
theorem wk38 : (.methodLink RL 49 yL_format : Cond) ∈ fc_all := fc_1 (i := 54) rfl rfl
theorem wk39 : (.static yL_format : Cond) ∈ fc_all := fc_1 (i := 55) rfl rfl
theorem wk40 : (.codeWith yL_format method_3_code 5 (some .int) [(0, 10, 13, 13)] : Cond) ∈ fc_all := fc_1 (i := 56) rfl rfl
theorem wk41 : (.classLink RL 13 "java/lang/IllegalArgumentException" : Cond) ∈ fc_all := fc_1 (i := 57) rfl rfl
theorem wk42 : (.methodLink RL 7 yX5_format : Cond) ∈ fc_all := fc_1 (i := 58) rfl rfl
theorem wk43 : (.instanceMethod yX5_format : Cond) ∈ fc_all := fc_1 (i := 59) rfl rfl
theorem wk44 : (.selects RX5 yX5_format yX5_format : Cond) ∈ fc_all := fc_1 (i := 60) rfl rfl
theorem wk45 : (.code yX5_format prog_1_method_2_code 3 (some .int) : Cond) ∈ fc_all := fc_1 (i := 61) rfl rfl
theorem wk46 : (.methodLink RX5 18 yX5_isFormat : Cond) ∈ fc_all := fc_1 (i := 62) rfl rfl
theorem wk47 : (.static yX5_isFormat : Cond) ∈ fc_all := fc_1 (i := 63) rfl rfl
theorem wk48 : (.code yX5_isFormat prog_1_method_15_code 2 (some .boolean) : Cond) ∈ fc_all := fc_1 (i := 64) rfl rfl
theorem wk49 : (.methodLink RX5 30 yX5_isWithin : Cond) ∈ fc_all := fc_1 (i := 65) rfl rfl
theorem wk50 : (.static yX5_isWithin : Cond) ∈ fc_all := fc_1 (i := 66) rfl rfl
theorem wk51 : (.code yX5_isWithin prog_1_method_13_code 3 (some .boolean) : Cond) ∈ fc_all := fc_1 (i := 67) rfl rfl
theorem wk52 : (.methodLink RX5 22 yX5_require : Cond) ∈ fc_all := fc_1 (i := 68) rfl rfl
theorem wk53 : (.static yX5_require : Cond) ∈ fc_all := fc_1 (i := 69) rfl rfl
theorem wk54 : (.code yX5_require prog_1_method_12_code 1 none : Cond) ∈ fc_all := fc_1 (i := 70) rfl rfl
theorem wk55 : (.classLink RX5 138 "java/lang/IllegalArgumentException" : Cond) ∈ fc_all := fc_1 (i := 71) rfl rfl
theorem wk56 : (.instantiable "java/lang/IllegalArgumentException" 6 : Cond) ∈ fc_all := fc_1 (i := 72) rfl rfl
theorem wk57 : (.selects "java/lang/IllegalArgumentException" ⟨"java/lang/Throwable", "fillInStackTrace", "(I)Ljava/lang/Throwable;"⟩ ⟨"java/lang/Throwable", "fillInStackTrace", "(I)Ljava/lang/Throwable;"⟩ : Cond) ∈ fc_all := fc_1 (i := 80) rfl rfl
theorem wk58 : (.selects "java/lang/IllegalArgumentException" ⟨"java/lang/Throwable", "fillInStackTrace", "()Ljava/lang/Throwable;"⟩ ⟨"java/lang/Throwable", "fillInStackTrace", "()Ljava/lang/Throwable;"⟩ : Cond) ∈ fc_all := fc_1 (i := 81) rfl rfl
theorem wk59 : (.fieldLink "java/lang/Throwable" 198 "java/lang/Throwable" "backtrace" "Ljava/lang/Object;" : Cond) ∈ fc_all := fc_1 (i := 92) rfl rfl
theorem wk60 : (.instanceMethod ⟨"java/lang/Throwable", "<init>", "()V"⟩ : Cond) ∈ fc_all := fc_1 (i := 94) rfl rfl
theorem wk61 : (.code ⟨"java/lang/Throwable", "<init>", "()V"⟩ prog_14_method_1_code 1 none : Cond) ∈ fc_all := fc_1 (i := 95) rfl rfl
theorem wk62 : (.methodLink "java/lang/Throwable" 1 objectInit : Cond) ∈ fc_all := fc_1 (i := 96) rfl rfl
theorem wk63 : (.fieldLink "java/lang/Throwable" 13 "java/lang/Throwable" "UNASSIGNED_STACK" "[Ljava/lang/StackTraceElement;" : Cond) ∈ fc_all := fc_1 (i := 97) rfl rfl
theorem wk64 : (.fieldLink "java/lang/Throwable" 20 "java/lang/Throwable" "SUPPRESSED_SENTINEL" "Ljava/util/List;" : Cond) ∈ fc_all := fc_1 (i := 99) rfl rfl
theorem wk65 : (.methodLink "java/lang/Throwable" 27 ⟨"java/lang/Throwable", "fillInStackTrace", "()Ljava/lang/Throwable;"⟩ : Cond) ∈ fc_all := fc_1 (i := 101) rfl rfl
theorem wk66 : (.instanceMethod ⟨"java/lang/Throwable", "fillInStackTrace", "()Ljava/lang/Throwable;"⟩ : Cond) ∈ fc_all := fc_1 (i := 102) rfl rfl
theorem wk67 : (.methodLink "java/lang/Throwable" 202 ⟨"java/lang/Throwable", "fillInStackTrace", "(I)Ljava/lang/Throwable;"⟩ : Cond) ∈ fc_all := fc_1 (i := 105) rfl rfl
theorem wk68 : (.instanceMethod ⟨"java/lang/Throwable", "fillInStackTrace", "(I)Ljava/lang/Throwable;"⟩ : Cond) ∈ fc_all := fc_1 (i := 107) rfl rfl
theorem wk69 : (.instantiable "java/lang/Throwable" 6 : Cond) ∈ fc_all := fc_1 (i := 108) rfl rfl
theorem wk70 : (.methodLink RX5 140 ⟨"java/lang/IllegalArgumentException", "<init>", "()V"⟩ : Cond) ∈ fc_all := fc_1 (i := 110) rfl rfl
theorem wk71 : (.instanceMethod ⟨"java/lang/IllegalArgumentException", "<init>", "()V"⟩ : Cond) ∈ fc_all := fc_1 (i := 111) rfl rfl
theorem wk72 : (.code ⟨"java/lang/IllegalArgumentException", "<init>", "()V"⟩ prog_10_method_1_code 1 none : Cond) ∈ fc_all := fc_1 (i := 112) rfl rfl
theorem wk73 : (.methodLink "java/lang/IllegalArgumentException" 1 ⟨"java/lang/RuntimeException", "<init>", "()V"⟩ : Cond) ∈ fc_all := fc_1 (i := 113) rfl rfl
theorem wk74 : (.instanceMethod ⟨"java/lang/RuntimeException", "<init>", "()V"⟩ : Cond) ∈ fc_all := fc_1 (i := 114) rfl rfl
theorem wk75 : (.code ⟨"java/lang/RuntimeException", "<init>", "()V"⟩ prog_13_method_1_code 1 none : Cond) ∈ fc_all := fc_1 (i := 115) rfl rfl
theorem wk76 : (.methodLink "java/lang/RuntimeException" 1 ⟨"java/lang/Exception", "<init>", "()V"⟩ : Cond) ∈ fc_all := fc_1 (i := 116) rfl rfl
theorem wk77 : (.instanceMethod ⟨"java/lang/Exception", "<init>", "()V"⟩ : Cond) ∈ fc_all := fc_1 (i := 117) rfl rfl
theorem wk78 : (.code ⟨"java/lang/Exception", "<init>", "()V"⟩ prog_9_method_1_code 1 none : Cond) ∈ fc_all := fc_1 (i := 118) rfl rfl
theorem wk79 : (.methodLink "java/lang/Exception" 1 ⟨"java/lang/Throwable", "<init>", "()V"⟩ : Cond) ∈ fc_all := fc_1 (i := 119) rfl rfl
theorem wk81 : (.fieldLink "java/lang/Throwable" 7 "java/lang/Throwable" "cause" "Ljava/lang/Throwable;" : Cond) ∈ fc_all := fc_1 (i := 121) rfl rfl
theorem wk82 : (.fieldLink "java/lang/Throwable" 17 "java/lang/Throwable" "stackTrace" "[Ljava/lang/StackTraceElement;" : Cond) ∈ fc_all := fc_1 (i := 122) rfl rfl
theorem wk83 : (.fieldLink "java/lang/Throwable" 24 "java/lang/Throwable" "suppressedExceptions" "Ljava/util/List;" : Cond) ∈ fc_all := fc_1 (i := 123) rfl rfl
theorem wk84 : (.methodLink RL 59 yL_reckon : Cond) ∈ fc_all := fc_1 (i := 132) rfl rfl
theorem wk85 : (.static yL_reckon : Cond) ∈ fc_all := fc_1 (i := 133) rfl rfl
theorem wk86 : (.codeWith yL_reckon method_4_code 7 (some .int) [(0, 14, 17, 13)] : Cond) ∈ fc_all := fc_1 (i := 134) rfl rfl
theorem wk87 : (.methodLink RL 15 yX5_reckon : Cond) ∈ fc_all := fc_1 (i := 135) rfl rfl
theorem wk88 : (.instanceMethod yX5_reckon : Cond) ∈ fc_all := fc_1 (i := 136) rfl rfl
theorem wk89 : (.selects RX5 yX5_reckon yX5_reckon : Cond) ∈ fc_all := fc_1 (i := 137) rfl rfl
theorem wk90 : (.code yX5_reckon prog_1_method_3_code 7 (some .int) : Cond) ∈ fc_all := fc_1 (i := 138) rfl rfl
theorem wk91 : (.methodLink RX5 34 yX5_isMode : Cond) ∈ fc_all := fc_1 (i := 139) rfl rfl
theorem wk92 : (.static yX5_isMode : Cond) ∈ fc_all := fc_1 (i := 140) rfl rfl
theorem wk93 : (.code yX5_isMode prog_1_method_14_code 1 (some .boolean) : Cond) ∈ fc_all := fc_1 (i := 141) rfl rfl
theorem wk94 : (.methodLink RX5 38 yX0_holds : Cond) ∈ fc_all := fc_1 (i := 142) rfl rfl
theorem wk95 : (.instanceMethod yX0_holds : Cond) ∈ fc_all := fc_1 (i := 143) rfl rfl
theorem wk96 : (.selects RX0 yX0_holds yX0_holds : Cond) ∈ fc_all := fc_1 (i := 144) rfl rfl
theorem wk97 : (.code yX0_holds prog_2_method_2_code 2 (some .boolean) : Cond) ∈ fc_all := fc_1 (i := 145) rfl rfl
theorem wk98 : (.methodLink RX5 41 yX0_unpack : Cond) ∈ fc_all := fc_1 (i := 147) rfl rfl
theorem wk99 : (.instanceMethod yX0_unpack : Cond) ∈ fc_all := fc_1 (i := 148) rfl rfl
theorem wk100 : (.selects RX0 yX0_unpack yX0_unpack : Cond) ∈ fc_all := fc_1 (i := 149) rfl rfl
theorem wk101 : (.code yX0_unpack prog_2_method_6_code 12 (some (.object "FloatCircuits$Value")) : Cond) ∈ fc_all := fc_1 (i := 150) rfl rfl
theorem wk102 : (.methodLink RX0 51 yX0_signOf : Cond) ∈ fc_all := fc_1 (i := 151) rfl rfl
theorem wk103 : (.instanceMethod yX0_signOf : Cond) ∈ fc_all := fc_1 (i := 153) rfl rfl
theorem wk104 : (.code yX0_signOf prog_2_method_10_code 2 (some .long) : Cond) ∈ fc_all := fc_1 (i := 154) rfl rfl
theorem wk105 : (.methodLink RX0 54 yX0_isNan : Cond) ∈ fc_all := fc_1 (i := 155) rfl rfl
theorem wk106 : (.instanceMethod yX0_isNan : Cond) ∈ fc_all := fc_1 (i := 156) rfl rfl
theorem wk107 : (.selects RX0 yX0_isNan yX0_isNan : Cond) ∈ fc_all := fc_1 (i := 157) rfl rfl
theorem wk108 : (.code yX0_isNan prog_2_method_3_code 2 (some .boolean) : Cond) ∈ fc_all := fc_1 (i := 158) rfl rfl
theorem wk109 : (.methodLink RX0 34 yX0_unsigned : Cond) ∈ fc_all := fc_1 (i := 159) rfl rfl
theorem wk110 : (.instanceMethod yX0_unsigned : Cond) ∈ fc_all := fc_1 (i := 161) rfl rfl
theorem wk111 : (.code yX0_unsigned prog_2_method_9_code 2 (some .long) : Cond) ∈ fc_all := fc_1 (i := 162) rfl rfl
theorem wk112 : (.methodLink RX0 38 yX1_below : Cond) ∈ fc_all := fc_1 (i := 163) rfl rfl
theorem wk113 : (.static yX1_below : Cond) ∈ fc_all := fc_1 (i := 164) rfl rfl
theorem wk114 : (.code yX1_below prog_3_method_10_code 4 (some .long) : Cond) ∈ fc_all := fc_1 (i := 165) rfl rfl
theorem wk115 : (.methodLink RX1 19 yX1_difference : Cond) ∈ fc_all := fc_1 (i := 166) rfl rfl
theorem wk116 : (.static yX1_difference : Cond) ∈ fc_all := fc_1 (i := 167) rfl rfl
theorem wk117 : (.code yX1_difference prog_3_method_8_code 4 (some .long) : Cond) ∈ fc_all := fc_1 (i := 168) rfl rfl
theorem wk118 : (.constantLong RX1 7 (-1) : Cond) ∈ fc_all := fc_1 (i := 169) rfl rfl
theorem wk119 : (.methodLink RX1 15 yX1_add : Cond) ∈ fc_all := fc_1 (i := 170) rfl rfl
theorem wk120 : (.static yX1_add : Cond) ∈ fc_all := fc_1 (i := 171) rfl rfl
theorem wk121 : (.code yX1_add prog_3_method_11_code 13 (some .long) : Cond) ∈ fc_all := fc_1 (i := 172) rfl rfl
theorem wk122 : (.methodLink RX1 23 yX1_isNegative : Cond) ∈ fc_all := fc_1 (i := 173) rfl rfl
theorem wk123 : (.static yX1_isNegative : Cond) ∈ fc_all := fc_1 (i := 174) rfl rfl
theorem wk124 : (.code yX1_isNegative prog_3_method_6_code 2 (some .long) : Cond) ∈ fc_all := fc_1 (i := 175) rfl rfl
theorem wk125 : (.methodLink RX0 58 yX4_notANumber : Cond) ∈ fc_all := fc_1 (i := 176) rfl rfl
theorem wk126 : (.static yX4_notANumber : Cond) ∈ fc_all := fc_1 (i := 177) rfl rfl
theorem wk127 : (.code yX4_notANumber prog_6_method_2_code 0 (some (.object "FloatCircuits$Value")) : Cond) ∈ fc_all := fc_1 (i := 178) rfl rfl
theorem wk128 : (.classLink RX4 8 RX4 : Cond) ∈ fc_all := fc_1 (i := 179) rfl rfl
theorem wk129 : (.instantiable RX4 5 : Cond) ∈ fc_all := fc_1 (i := 180) rfl rfl
theorem wk130 : (.methodLink RX4 26 yX4_init : Cond) ∈ fc_all := fc_1 (i := 181) rfl rfl
theorem wk131 : (.instanceMethod yX4_init : Cond) ∈ fc_all := fc_1 (i := 182) rfl rfl
theorem wk132 : (.code yX4_init prog_6_method_1_code 9 none : Cond) ∈ fc_all := fc_1 (i := 183) rfl rfl
theorem wk133 : (.methodLink RX4 1 objectInit : Cond) ∈ fc_all := fc_1 (i := 184) rfl rfl
theorem wk134 : (.fieldLink RX4 7 "FloatCircuits$Value" "nan" "Z" : Cond) ∈ fc_all := fc_1 (i := 185) rfl rfl
theorem wk135 : (.fieldLink RX2 9 "FloatCircuits$Value" "nan" "Z" : Cond) ∈ fc_all := fc_1 (i := 186) rfl rfl
theorem wk136 : (.fieldLink RX5 76 "FloatCircuits$Value" "nan" "Z" : Cond) ∈ fc_all := fc_1 (i := 187) rfl rfl
theorem wk137 : (.fieldLink RX0 80 "FloatCircuits$Value" "nan" "Z" : Cond) ∈ fc_all := fc_1 (i := 188) rfl rfl
theorem wk138 : (.fieldLink RX4 13 "FloatCircuits$Value" "infinite" "Z" : Cond) ∈ fc_all := fc_1 (i := 189) rfl rfl
theorem wk139 : (.fieldLink RX2 19 "FloatCircuits$Value" "infinite" "Z" : Cond) ∈ fc_all := fc_1 (i := 190) rfl rfl
theorem wk140 : (.fieldLink RX0 83 "FloatCircuits$Value" "infinite" "Z" : Cond) ∈ fc_all := fc_1 (i := 191) rfl rfl
theorem wk141 : (.fieldLink RX5 97 "FloatCircuits$Value" "infinite" "Z" : Cond) ∈ fc_all := fc_1 (i := 192) rfl rfl
theorem wk142 : (.fieldLink RX4 16 "FloatCircuits$Value" "sign" "J" : Cond) ∈ fc_all := fc_1 (i := 193) rfl rfl
theorem wk143 : (.fieldLink RX2 22 "FloatCircuits$Value" "sign" "J" : Cond) ∈ fc_all := fc_1 (i := 194) rfl rfl
theorem wk144 : (.fieldLink RX3 41 "FloatCircuits$Value" "sign" "J" : Cond) ∈ fc_all := fc_1 (i := 195) rfl rfl
theorem wk145 : (.fieldLink RX0 86 "FloatCircuits$Value" "sign" "J" : Cond) ∈ fc_all := fc_1 (i := 196) rfl rfl
theorem wk146 : (.fieldLink RX5 107 "FloatCircuits$Value" "sign" "J" : Cond) ∈ fc_all := fc_1 (i := 197) rfl rfl
theorem wk147 : (.fieldLink RX4 20 "FloatCircuits$Value" "exponent" "J" : Cond) ∈ fc_all := fc_1 (i := 198) rfl rfl
theorem wk148 : (.fieldLink RX3 9 "FloatCircuits$Value" "exponent" "J" : Cond) ∈ fc_all := fc_1 (i := 199) rfl rfl
theorem wk149 : (.fieldLink RX2 26 "FloatCircuits$Value" "exponent" "J" : Cond) ∈ fc_all := fc_1 (i := 200) rfl rfl
theorem wk150 : (.fieldLink RX0 108 "FloatCircuits$Value" "exponent" "J" : Cond) ∈ fc_all := fc_1 (i := 201) rfl rfl
theorem wk151 : (.fieldLink RX4 23 "FloatCircuits$Value" "magnitude" "J" : Cond) ∈ fc_all := fc_1 (i := 202) rfl rfl
theorem wk152 : (.fieldLink RX3 21 "FloatCircuits$Value" "magnitude" "J" : Cond) ∈ fc_all := fc_1 (i := 203) rfl rfl
theorem wk153 : (.fieldLink RX2 69 "FloatCircuits$Value" "magnitude" "J" : Cond) ∈ fc_all := fc_1 (i := 204) rfl rfl
theorem wk154 : (.fieldLink RX0 111 "FloatCircuits$Value" "magnitude" "J" : Cond) ∈ fc_all := fc_1 (i := 205) rfl rfl
theorem wk155 : (.fieldLink RX5 132 "FloatCircuits$Value" "magnitude" "J" : Cond) ∈ fc_all := fc_1 (i := 206) rfl rfl
theorem wk156 : (.methodLink RX0 44 yX1_any : Cond) ∈ fc_all := fc_1 (i := 218) rfl rfl
theorem wk157 : (.static yX1_any : Cond) ∈ fc_all := fc_1 (i := 219) rfl rfl
theorem wk158 : (.code yX1_any prog_3_method_5_code 5 (some .long) : Cond) ∈ fc_all := fc_1 (i := 220) rfl rfl
theorem wk159 : (.methodLink RX0 64 yX4_infinity : Cond) ∈ fc_all := fc_1 (i := 221) rfl rfl
theorem wk160 : (.static yX4_infinity : Cond) ∈ fc_all := fc_1 (i := 222) rfl rfl
theorem wk161 : (.code yX4_infinity prog_6_method_3_code 2 (some (.object "FloatCircuits$Value")) : Cond) ∈ fc_all := fc_1 (i := 223) rfl rfl
theorem wk162 : (.methodLink RX0 67 yX1_ones : Cond) ∈ fc_all := fc_1 (i := 224) rfl rfl
theorem wk163 : (.static yX1_ones : Cond) ∈ fc_all := fc_1 (i := 225) rfl rfl
theorem wk164 : (.code yX1_ones prog_3_method_2_code 1 (some .long) : Cond) ∈ fc_all := fc_1 (i := 226) rfl rfl
theorem wk165 : (.methodLink RX0 70 yX1_difference : Cond) ∈ fc_all := fc_1 (i := 227) rfl rfl
theorem wk166 : (.methodLink RX0 73 yX1_sum : Cond) ∈ fc_all := fc_1 (i := 228) rfl rfl
theorem wk167 : (.static yX1_sum : Cond) ∈ fc_all := fc_1 (i := 229) rfl rfl
theorem wk168 : (.code yX1_sum prog_3_method_7_code 4 (some .long) : Cond) ∈ fc_all := fc_1 (i := 230) rfl rfl
theorem wk169 : (.methodLink RX0 76 yX4_finite : Cond) ∈ fc_all := fc_1 (i := 231) rfl rfl
theorem wk170 : (.static yX4_finite : Cond) ∈ fc_all := fc_1 (i := 232) rfl rfl
theorem wk171 : (.code yX4_finite prog_6_method_4_code 6 (some (.object "FloatCircuits$Value")) : Cond) ∈ fc_all := fc_1 (i := 233) rfl rfl
theorem wk172 : (.methodLink RX5 45 yX2_sum : Cond) ∈ fc_all := fc_1 (i := 234) rfl rfl
theorem wk173 : (.static yX2_sum : Cond) ∈ fc_all := fc_1 (i := 235) rfl rfl
theorem wk174 : (.code yX2_sum prog_4_method_2_code 9 (some (.object "FloatCircuits$Value")) : Cond) ∈ fc_all := fc_1 (i := 236) rfl rfl
theorem wk175 : (.methodLink RX2 15 yX4_notANumber : Cond) ∈ fc_all := fc_1 (i := 237) rfl rfl
theorem wk176 : (.methodLink RX2 29 yX1_below : Cond) ∈ fc_all := fc_1 (i := 238) rfl rfl
theorem wk177 : (.methodLink RX2 35 yX1_choose : Cond) ∈ fc_all := fc_1 (i := 239) rfl rfl
theorem wk178 : (.static yX1_choose : Cond) ∈ fc_all := fc_2 (i := 0) rfl rfl
theorem wk179 : (.code yX1_choose prog_3_method_4_code 8 (some .long) : Cond) ∈ fc_all := fc_2 (i := 1) rfl rfl
theorem wk180 : (.methodLink RX1 11 yX1_fan : Cond) ∈ fc_all := fc_2 (i := 2) rfl rfl
theorem wk181 : (.static yX1_fan : Cond) ∈ fc_all := fc_2 (i := 3) rfl rfl
theorem wk182 : (.code yX1_fan prog_3_method_3_code 2 (some .long) : Cond) ∈ fc_all := fc_2 (i := 4) rfl rfl
theorem wk183 : (.methodLink RX2 39 yX2_signedAt : Cond) ∈ fc_all := fc_2 (i := 5) rfl rfl
theorem wk184 : (.static yX2_signedAt : Cond) ∈ fc_all := fc_2 (i := 6) rfl rfl
theorem wk185 : (.code yX2_signedAt prog_4_method_3_code 5 (some .long) : Cond) ∈ fc_all := fc_2 (i := 7) rfl rfl
theorem wk186 : (.methodLink RX2 66 yX1_difference : Cond) ∈ fc_all := fc_2 (i := 8) rfl rfl
theorem wk187 : (.methodLink RX2 72 yX1_shiftLeft : Cond) ∈ fc_all := fc_2 (i := 9) rfl rfl
theorem wk188 : (.static yX1_shiftLeft : Cond) ∈ fc_all := fc_2 (i := 10) rfl rfl
theorem wk189 : (.code yX1_shiftLeft prog_3_method_12_code 7 (some .long) : Cond) ∈ fc_all := fc_2 (i := 11) rfl rfl
theorem wk190 : (.methodLink RX1 26 yX1_choose : Cond) ∈ fc_all := fc_2 (i := 12) rfl rfl
theorem wk191 : (.methodLink RX2 63 yX1_negateIf : Cond) ∈ fc_all := fc_2 (i := 13) rfl rfl
theorem wk192 : (.static yX1_negateIf : Cond) ∈ fc_all := fc_2 (i := 14) rfl rfl
theorem wk193 : (.code yX1_negateIf prog_3_method_9_code 4 (some .long) : Cond) ∈ fc_all := fc_2 (i := 15) rfl rfl
theorem wk194 : (.methodLink RX2 45 yX1_sum : Cond) ∈ fc_all := fc_2 (i := 16) rfl rfl
theorem wk195 : (.methodLink RX2 48 yX1_any : Cond) ∈ fc_all := fc_2 (i := 17) rfl rfl
theorem wk196 : (.methodLink RX2 52 yX2_signOfZeroSum : Cond) ∈ fc_all := fc_2 (i := 18) rfl rfl
theorem wk197 : (.static yX2_signOfZeroSum : Cond) ∈ fc_all := fc_2 (i := 19) rfl rfl
theorem wk198 : (.code yX2_signOfZeroSum prog_4_method_4_code 5 (some .long) : Cond) ∈ fc_all := fc_2 (i := 20) rfl rfl
theorem wk199 : (.methodLink RX2 56 yX4_finite : Cond) ∈ fc_all := fc_2 (i := 21) rfl rfl
theorem wk200 : (.methodLink RX2 60 yX1_isNegative : Cond) ∈ fc_all := fc_2 (i := 22) rfl rfl
theorem wk201 : (.methodLink RX5 51 yX0_pack : Cond) ∈ fc_all := fc_2 (i := 23) rfl rfl
theorem wk202 : (.instanceMethod yX0_pack : Cond) ∈ fc_all := fc_2 (i := 24) rfl rfl
theorem wk203 : (.selects RX0 yX0_pack yX0_pack : Cond) ∈ fc_all := fc_2 (i := 25) rfl rfl
theorem wk204 : (.code yX0_pack prog_2_method_7_code 6 (some .int) : Cond) ∈ fc_all := fc_2 (i := 26) rfl rfl
theorem wk205 : (.methodLink RX0 90 yX0_signed : Cond) ∈ fc_all := fc_2 (i := 27) rfl rfl
theorem wk206 : (.instanceMethod yX0_signed : Cond) ∈ fc_all := fc_2 (i := 29) rfl rfl
theorem wk207 : (.code yX0_signed prog_2_method_11_code 5 (some .int) : Cond) ∈ fc_all := fc_2 (i := 30) rfl rfl
theorem wk208 : (.methodLink RX0 94 yX4_isZero : Cond) ∈ fc_all := fc_2 (i := 31) rfl rfl
theorem wk209 : (.instanceMethod yX4_isZero : Cond) ∈ fc_all := fc_2 (i := 32) rfl rfl
theorem wk210 : (.selects RX4 yX4_isZero yX4_isZero : Cond) ∈ fc_all := fc_2 (i := 33) rfl rfl
theorem wk211 : (.code yX4_isZero prog_6_method_6_code 1 (some .boolean) : Cond) ∈ fc_all := fc_2 (i := 34) rfl rfl
theorem wk212 : (.methodLink RX4 29 yX1_any : Cond) ∈ fc_all := fc_2 (i := 35) rfl rfl
theorem wk213 : (.methodLink RX0 98 yX0_packMagnitude : Cond) ∈ fc_all := fc_2 (i := 36) rfl rfl
theorem wk214 : (.instanceMethod yX0_packMagnitude : Cond) ∈ fc_all := fc_2 (i := 38) rfl rfl
theorem wk215 : (.code yX0_packMagnitude prog_2_method_8_code 11 (some .long) : Cond) ∈ fc_all := fc_2 (i := 39) rfl rfl
theorem wk216 : (.methodLink RX0 114 yX1_top : Cond) ∈ fc_all := fc_2 (i := 40) rfl rfl
theorem wk217 : (.static yX1_top : Cond) ∈ fc_all := fc_2 (i := 41) rfl rfl
theorem wk218 : (.code yX1_top prog_3_method_14_code 11 (some .long) : Cond) ∈ fc_all := fc_2 (i := 42) rfl rfl
theorem wk219 : (.methodLink RX1 33 yX1_any : Cond) ∈ fc_all := fc_2 (i := 43) rfl rfl
theorem wk220 : (.methodLink RX0 117 yX1_choose : Cond) ∈ fc_all := fc_2 (i := 44) rfl rfl
theorem wk221 : (.methodLink RX0 121 yX3_round : Cond) ∈ fc_all := fc_2 (i := 45) rfl rfl
theorem wk222 : (.static yX3_round : Cond) ∈ fc_all := fc_2 (i := 46) rfl rfl
theorem wk223 : (.code yX3_round prog_5_method_2_code 16 (some .long) : Cond) ∈ fc_all := fc_2 (i := 47) rfl rfl
theorem wk224 : (.methodLink RX3 15 yX1_difference : Cond) ∈ fc_all := fc_2 (i := 48) rfl rfl
theorem wk225 : (.methodLink RX3 24 yX1_negateIf : Cond) ∈ fc_all := fc_2 (i := 49) rfl rfl
theorem wk226 : (.methodLink RX3 27 yX1_shiftLeft : Cond) ∈ fc_all := fc_2 (i := 50) rfl rfl
theorem wk227 : (.methodLink RX3 30 yX1_shiftRightMarking : Cond) ∈ fc_all := fc_2 (i := 51) rfl rfl
theorem wk228 : (.static yX1_shiftRightMarking : Cond) ∈ fc_all := fc_2 (i := 52) rfl rfl
theorem wk229 : (.code yX1_shiftRightMarking prog_3_method_13_code 10 (some .long) : Cond) ∈ fc_all := fc_2 (i := 53) rfl rfl
theorem wk230 : (.methodLink RX1 29 yX1_ones : Cond) ∈ fc_all := fc_2 (i := 54) rfl rfl
theorem wk231 : (.methodLink RX3 33 yX1_isNegative : Cond) ∈ fc_all := fc_2 (i := 55) rfl rfl
theorem wk232 : (.methodLink RX3 37 yX1_choose : Cond) ∈ fc_all := fc_2 (i := 56) rfl rfl
theorem wk233 : (.methodLink RX3 44 yX3_oneMore : Cond) ∈ fc_all := fc_2 (i := 57) rfl rfl
theorem wk234 : (.static yX3_oneMore : Cond) ∈ fc_all := fc_2 (i := 58) rfl rfl
theorem wk235 : (.code yX3_oneMore prog_5_method_3_code 9 (some .long) : Cond) ∈ fc_all := fc_2 (i := 59) rfl rfl
theorem wk236 : (.methodLink RX3 50 yX1_sum : Cond) ∈ fc_all := fc_2 (i := 60) rfl rfl
theorem wk237 : (.methodLink RX0 102 yX3_isEndless : Cond) ∈ fc_all := fc_2 (i := 61) rfl rfl
theorem wk238 : (.static yX3_isEndless : Cond) ∈ fc_all := fc_2 (i := 62) rfl rfl
theorem wk239 : (.code yX3_isEndless prog_5_method_4_code 3 (some .boolean) : Cond) ∈ fc_all := fc_2 (i := 63) rfl rfl
theorem wk240 : (.methodLink RX5 55 yX4_opposite : Cond) ∈ fc_all := fc_2 (i := 64) rfl rfl
theorem wk241 : (.instanceMethod yX4_opposite : Cond) ∈ fc_all := fc_2 (i := 65) rfl rfl
theorem wk242 : (.selects RX4 yX4_opposite yX4_opposite : Cond) ∈ fc_all := fc_2 (i := 66) rfl rfl
theorem wk243 : (.code yX4_opposite prog_6_method_5_code 1 (some (.object "FloatCircuits$Value")) : Cond) ∈ fc_all := fc_2 (i := 67) rfl rfl
theorem wk244 : (.methodLink RX5 61 yX2_product : Cond) ∈ fc_all := fc_2 (i := 68) rfl rfl
theorem wk245 : (.static yX2_product : Cond) ∈ fc_all := fc_2 (i := 69) rfl rfl
theorem wk246 : (.code yX2_product prog_4_method_5_code 6 (some (.object "FloatCircuits$Value")) : Cond) ∈ fc_all := fc_2 (i := 70) rfl rfl
theorem wk247 : (.methodLink RX2 75 yX4_isZero : Cond) ∈ fc_all := fc_2 (i := 71) rfl rfl
theorem wk248 : (.methodLink RX2 79 yX4_infinity : Cond) ∈ fc_all := fc_2 (i := 72) rfl rfl
theorem wk249 : (.methodLink RX2 85 yX1_product : Cond) ∈ fc_all := fc_2 (i := 73) rfl rfl
theorem wk250 : (.static yX1_product : Cond) ∈ fc_all := fc_2 (i := 74) rfl rfl
theorem wk251 : (.code yX1_product prog_3_method_15_code 8 (some .long) : Cond) ∈ fc_all := fc_2 (i := 75) rfl rfl
theorem wk252 : (.methodLink RX1 36 yX1_sum : Cond) ∈ fc_all := fc_2 (i := 76) rfl rfl
theorem wk253 : (.methodLink RX5 65 yX2_quotient : Cond) ∈ fc_all := fc_2 (i := 77) rfl rfl
theorem wk254 : (.static yX2_quotient : Cond) ∈ fc_all := fc_2 (i := 78) rfl rfl
theorem wk255 : (.code yX2_quotient prog_4_method_6_code 9 (some (.object "FloatCircuits$Value")) : Cond) ∈ fc_all := fc_2 (i := 79) rfl rfl
theorem wk256 : (.methodLink RX2 89 yX1_quotient : Cond) ∈ fc_all := fc_2 (i := 80) rfl rfl
theorem wk257 : (.static yX1_quotient : Cond) ∈ fc_all := fc_2 (i := 81) rfl rfl
theorem wk258 : (.code yX1_quotient prog_3_method_16_code 14 (some .long) : Cond) ∈ fc_all := fc_2 (i := 82) rfl rfl
theorem wk259 : (.constantLong RX2 92 25 : Cond) ∈ fc_all := fc_2 (i := 83) rfl rfl
theorem wk260 : (.methodLink RL 63 yL_change : Cond) ∈ fc_all := fc_2 (i := 84) rfl rfl
theorem wk261 : (.static yL_change : Cond) ∈ fc_all := fc_2 (i := 85) rfl rfl
theorem wk262 : (.codeWith yL_change method_5_code 6 (some .int) [(0, 12, 15, 13)] : Cond) ∈ fc_all := fc_2 (i := 86) rfl rfl
theorem wk263 : (.methodLink RL 19 yX5_change : Cond) ∈ fc_all := fc_2 (i := 87) rfl rfl
theorem wk264 : (.instanceMethod yX5_change : Cond) ∈ fc_all := fc_2 (i := 88) rfl rfl
theorem wk265 : (.selects RX5 yX5_change yX5_change : Cond) ∈ fc_all := fc_2 (i := 89) rfl rfl
theorem wk266 : (.code yX5_change prog_1_method_4_code 5 (some .int) : Cond) ∈ fc_all := fc_2 (i := 90) rfl rfl
theorem wk267 : (.methodLink RX5 68 yX2_root : Cond) ∈ fc_all := fc_2 (i := 91) rfl rfl
theorem wk268 : (.static yX2_root : Cond) ∈ fc_all := fc_2 (i := 92) rfl rfl
theorem wk269 : (.code yX2_root prog_4_method_7_code 10 (some (.object "FloatCircuits$Value")) : Cond) ∈ fc_all := fc_2 (i := 93) rfl rfl
theorem wk270 : (.constantLong RX2 94 13 : Cond) ∈ fc_all := fc_2 (i := 94) rfl rfl
theorem wk271 : (.methodLink RX2 96 yX1_root : Cond) ∈ fc_all := fc_2 (i := 95) rfl rfl
theorem wk272 : (.static yX1_root : Cond) ∈ fc_all := fc_2 (i := 96) rfl rfl
theorem wk273 : (.code yX1_root prog_3_method_17_code 12 (some .long) : Cond) ∈ fc_all := fc_2 (i := 97) rfl rfl
theorem wk274 : (.constantLong RX1 39 3 : Cond) ∈ fc_all := fc_2 (i := 98) rfl rfl
theorem wk275 : (.methodLink RX5 72 yX2_whole : Cond) ∈ fc_all := fc_2 (i := 99) rfl rfl
theorem wk276 : (.static yX2_whole : Cond) ∈ fc_all := fc_2 (i := 100) rfl rfl
theorem wk277 : (.code yX2_whole prog_4_method_8_code 2 (some (.object "FloatCircuits$Value")) : Cond) ∈ fc_all := fc_2 (i := 101) rfl rfl
theorem wk278 : (.methodLink RX2 100 yX3_round : Cond) ∈ fc_all := fc_2 (i := 102) rfl rfl
theorem wk279 : (.methodLink RL 67 yL_least : Cond) ∈ fc_all := fc_2 (i := 103) rfl rfl
theorem wk280 : (.static yL_least : Cond) ∈ fc_all := fc_2 (i := 104) rfl rfl
theorem wk281 : (.codeWith yL_least method_6_code 6 (some .int) [(0, 12, 15, 13)] : Cond) ∈ fc_all := fc_2 (i := 105) rfl rfl
theorem wk282 : (.methodLink RL 23 yX5_least : Cond) ∈ fc_all := fc_2 (i := 106) rfl rfl
theorem wk283 : (.instanceMethod yX5_least : Cond) ∈ fc_all := fc_2 (i := 107) rfl rfl
theorem wk284 : (.selects RX5 yX5_least yX5_least : Cond) ∈ fc_all := fc_2 (i := 108) rfl rfl
theorem wk285 : (.code yX5_least prog_1_method_5_code 5 (some .int) : Cond) ∈ fc_all := fc_2 (i := 109) rfl rfl
theorem wk286 : (.methodLink RX5 85 yX0_isNan : Cond) ∈ fc_all := fc_2 (i := 110) rfl rfl
theorem wk287 : (.methodLink RX5 88 yX0_isBelow : Cond) ∈ fc_all := fc_2 (i := 111) rfl rfl
theorem wk288 : (.instanceMethod yX0_isBelow : Cond) ∈ fc_all := fc_2 (i := 112) rfl rfl
theorem wk289 : (.selects RX0 yX0_isBelow yX0_isBelow : Cond) ∈ fc_all := fc_2 (i := 113) rfl rfl
theorem wk290 : (.code yX0_isBelow prog_2_method_5_code 3 (some .boolean) : Cond) ∈ fc_all := fc_2 (i := 114) rfl rfl
theorem wk291 : (.methodLink RX0 48 yX0_rank : Cond) ∈ fc_all := fc_2 (i := 115) rfl rfl
theorem wk292 : (.instanceMethod yX0_rank : Cond) ∈ fc_all := fc_2 (i := 117) rfl rfl
theorem wk293 : (.code yX0_rank prog_2_method_12_code 2 (some .long) : Cond) ∈ fc_all := fc_2 (i := 118) rfl rfl
theorem wk294 : (.methodLink RX0 125 yX1_negateIf : Cond) ∈ fc_all := fc_2 (i := 119) rfl rfl
theorem wk295 : (.methodLink RL 71 yL_compare : Cond) ∈ fc_all := fc_2 (i := 120) rfl rfl
theorem wk296 : (.static yL_compare : Cond) ∈ fc_all := fc_2 (i := 121) rfl rfl
theorem wk297 : (.codeWith yL_compare method_7_code 6 (some .int) [(0, 19, 22, 13)] : Cond) ∈ fc_all := fc_2 (i := 122) rfl rfl
theorem wk298 : (.methodLink RL 27 yX5_compare : Cond) ∈ fc_all := fc_2 (i := 123) rfl rfl
theorem wk299 : (.instanceMethod yX5_compare : Cond) ∈ fc_all := fc_2 (i := 124) rfl rfl
theorem wk300 : (.selects RX5 yX5_compare yX5_compare : Cond) ∈ fc_all := fc_2 (i := 125) rfl rfl
theorem wk301 : (.code yX5_compare prog_1_method_6_code 4 (some .boolean) : Cond) ∈ fc_all := fc_2 (i := 126) rfl rfl
theorem wk302 : (.methodLink RX5 91 yX1_any : Cond) ∈ fc_all := fc_2 (i := 127) rfl rfl
theorem wk303 : (.methodLink RL 74 yL_is : Cond) ∈ fc_all := fc_2 (i := 128) rfl rfl
theorem wk304 : (.static yL_is : Cond) ∈ fc_all := fc_2 (i := 129) rfl rfl
theorem wk305 : (.codeWith yL_is method_8_code 5 (some .int) [(0, 17, 20, 13)] : Cond) ∈ fc_all := fc_2 (i := 130) rfl rfl
theorem wk306 : (.methodLink RL 31 yX5_is : Cond) ∈ fc_all := fc_2 (i := 131) rfl rfl
theorem wk307 : (.instanceMethod yX5_is : Cond) ∈ fc_all := fc_2 (i := 132) rfl rfl
theorem wk308 : (.selects RX5 yX5_is yX5_is : Cond) ∈ fc_all := fc_2 (i := 133) rfl rfl
theorem wk309 : (.code yX5_is prog_1_method_7_code 6 (some .boolean) : Cond) ∈ fc_all := fc_2 (i := 134) rfl rfl
theorem wk310 : (.methodLink RX5 100 yX0_hasHiddenOne : Cond) ∈ fc_all := fc_2 (i := 135) rfl rfl
theorem wk311 : (.instanceMethod yX0_hasHiddenOne : Cond) ∈ fc_all := fc_2 (i := 136) rfl rfl
theorem wk312 : (.selects RX0 yX0_hasHiddenOne yX0_hasHiddenOne : Cond) ∈ fc_all := fc_2 (i := 137) rfl rfl
theorem wk313 : (.code yX0_hasHiddenOne prog_2_method_4_code 2 (some .boolean) : Cond) ∈ fc_all := fc_2 (i := 138) rfl rfl
theorem wk314 : (.methodLink RX5 103 yX4_isZero : Cond) ∈ fc_all := fc_2 (i := 139) rfl rfl
theorem wk315 : (.methodLink RL 77 yL_from : Cond) ∈ fc_all := fc_2 (i := 140) rfl rfl
theorem wk316 : (.static yL_from : Cond) ∈ fc_all := fc_2 (i := 141) rfl rfl
theorem wk317 : (.codeWith yL_from method_9_code 7 (some .int) [(0, 14, 17, 13)] : Cond) ∈ fc_all := fc_2 (i := 142) rfl rfl
theorem wk318 : (.methodLink RL 35 yX5_from : Cond) ∈ fc_all := fc_2 (i := 143) rfl rfl
theorem wk319 : (.instanceMethod yX5_from : Cond) ∈ fc_all := fc_2 (i := 144) rfl rfl
theorem wk320 : (.selects RX5 yX5_from yX5_from : Cond) ∈ fc_all := fc_2 (i := 145) rfl rfl
theorem wk321 : (.code yX5_from prog_1_method_8_code 6 (some .int) : Cond) ∈ fc_all := fc_2 (i := 146) rfl rfl
theorem wk322 : (.methodLink RL 80 yL_ofWhole : Cond) ∈ fc_all := fc_2 (i := 147) rfl rfl
theorem wk323 : (.static yL_ofWhole : Cond) ∈ fc_all := fc_2 (i := 148) rfl rfl
theorem wk324 : (.codeWith yL_ofWhole method_10_code 7 (some .int) [(0, 14, 17, 13)] : Cond) ∈ fc_all := fc_2 (i := 149) rfl rfl
theorem wk325 : (.methodLink RL 38 yX5_ofWhole : Cond) ∈ fc_all := fc_2 (i := 150) rfl rfl
theorem wk326 : (.instanceMethod yX5_ofWhole : Cond) ∈ fc_all := fc_2 (i := 151) rfl rfl
theorem wk327 : (.selects RX5 yX5_ofWhole yX5_ofWhole : Cond) ∈ fc_all := fc_2 (i := 152) rfl rfl
theorem wk328 : (.code yX5_ofWhole prog_1_method_9_code 11 (some .int) : Cond) ∈ fc_all := fc_2 (i := 153) rfl rfl
theorem wk329 : (.methodLink RX5 111 yX1_ones : Cond) ∈ fc_all := fc_2 (i := 154) rfl rfl
theorem wk330 : (.methodLink RX5 115 yX1_fan : Cond) ∈ fc_all := fc_2 (i := 155) rfl rfl
theorem wk331 : (.constantLong RX5 118 (-1) : Cond) ∈ fc_all := fc_2 (i := 156) rfl rfl
theorem wk332 : (.methodLink RX5 120 yX1_negateIf : Cond) ∈ fc_all := fc_2 (i := 157) rfl rfl
theorem wk333 : (.methodLink RX5 124 yX4_finite : Cond) ∈ fc_all := fc_2 (i := 158) rfl rfl
theorem wk334 : (.methodLink RL 84 yL_toWhole : Cond) ∈ fc_all := fc_2 (i := 159) rfl rfl
theorem wk335 : (.static yL_toWhole : Cond) ∈ fc_all := fc_2 (i := 160) rfl rfl
theorem wk336 : (.codeWith yL_toWhole method_11_code 7 (some .int) [(0, 14, 17, 13)] : Cond) ∈ fc_all := fc_2 (i := 161) rfl rfl
theorem wk337 : (.methodLink RL 42 yX5_toWhole : Cond) ∈ fc_all := fc_2 (i := 162) rfl rfl
theorem wk338 : (.instanceMethod yX5_toWhole : Cond) ∈ fc_all := fc_2 (i := 163) rfl rfl
theorem wk339 : (.selects RX5 yX5_toWhole yX5_toWhole : Cond) ∈ fc_all := fc_2 (i := 164) rfl rfl
theorem wk340 : (.code yX5_toWhole prog_1_method_10_code 6 (some .int) : Cond) ∈ fc_all := fc_2 (i := 165) rfl rfl
theorem wk341 : (.methodLink RX5 128 yX5_isWithinBits : Cond) ∈ fc_all := fc_2 (i := 166) rfl rfl
theorem wk342 : (.static yX5_isWithinBits : Cond) ∈ fc_all := fc_2 (i := 167) rfl rfl
theorem wk343 : (.code yX5_isWithinBits prog_1_method_11_code 5 (some .boolean) : Cond) ∈ fc_all := fc_2 (i := 168) rfl rfl
theorem wk344 : (.methodLink RX5 135 yX1_below : Cond) ∈ fc_all := fc_2 (i := 169) rfl rfl
theorem wk345 : (.classLink RL 46 RX6 : Cond) ∈ fc_all := fc_2 (i := 170) rfl rfl
theorem wk346 : (.instantiable RX6 7 : Cond) ∈ fc_all := fc_2 (i := 171) rfl rfl
theorem wk347 : (.methodLink RL 48 yX6_init : Cond) ∈ fc_all := fc_2 (i := 172) rfl rfl
theorem wk348 : (.instanceMethod yX6_init : Cond) ∈ fc_all := fc_2 (i := 173) rfl rfl
theorem wk349 : (.code yX6_init prog_8_method_1_code 1 none : Cond) ∈ fc_all := fc_2 (i := 174) rfl rfl
theorem wk350 : (.methodLink RX6 1 objectInit : Cond) ∈ fc_all := fc_2 (i := 175) rfl rfl
theorem wk351 : (.fieldLink RX6 7 "FloatCircuitsModel" "format" "I" : Cond) ∈ fc_all := fc_2 (i := 176) rfl rfl
theorem wk352 : (.fieldLink RX6 13 "FloatCircuitsModel" "code" "I" : Cond) ∈ fc_all := fc_2 (i := 177) rfl rfl
theorem wk353 : (.fieldLink RX6 88 "FloatCircuitsModel" "minus" "Z" : Cond) ∈ fc_all := fc_2 (i := 178) rfl rfl
theorem wk354 : (.fieldLink RX6 91 "FloatCircuitsModel" "m" "J" : Cond) ∈ fc_all := fc_2 (i := 179) rfl rfl
theorem wk355 : (.fieldLink RX6 95 "FloatCircuitsModel" "power" "I" : Cond) ∈ fc_all := fc_2 (i := 180) rfl rfl
theorem wk356 : (.fieldLink RX6 85 "FloatCircuitsModel" "infinite" "Z" : Cond) ∈ fc_all := fc_2 (i := 181) rfl rfl
theorem wk357 : (.fieldLink RX6 64 "FloatCircuitsModel" "none" "Z" : Cond) ∈ fc_all := fc_2 (i := 182) rfl rfl
theorem wk358 : (.methodLink RL 55 yX6_thrown : Cond) ∈ fc_all := fc_2 (i := 198) rfl rfl
theorem wk359 : (.instanceMethod yX6_thrown : Cond) ∈ fc_all := fc_2 (i := 199) rfl rfl
theorem wk360 : (.selects RX6 yX6_thrown yX6_thrown : Cond) ∈ fc_all := fc_2 (i := 200) rfl rfl
theorem wk361 : (.code yX6_thrown prog_8_method_2_code 1 (some .int) : Cond) ∈ fc_all := fc_2 (i := 201) rfl rfl
theorem wk362 : (.methodLink RL 54 yX6_format : Cond) ∈ fc_all := fc_2 (i := 202) rfl rfl
theorem wk363 : (.instanceMethod yX6_format : Cond) ∈ fc_all := fc_2 (i := 203) rfl rfl
theorem wk364 : (.selects RX6 yX6_format yX6_format : Cond) ∈ fc_all := fc_2 (i := 204) rfl rfl
theorem wk365 : (.code yX6_format prog_8_method_13_code 3 (some .int) : Cond) ∈ fc_all := fc_2 (i := 205) rfl rfl
theorem wk366 : (.methodLink RX6 34 yX6_isFormat : Cond) ∈ fc_all := fc_2 (i := 206) rfl rfl
theorem wk367 : (.static yX6_isFormat : Cond) ∈ fc_all := fc_2 (i := 207) rfl rfl
theorem wk368 : (.code yX6_isFormat prog_8_method_5_code 2 (some .boolean) : Cond) ∈ fc_all := fc_2 (i := 208) rfl rfl
theorem wk369 : (.methodLink RX6 16 yX6_in : Cond) ∈ fc_all := fc_2 (i := 209) rfl rfl
theorem wk370 : (.static yX6_in : Cond) ∈ fc_all := fc_2 (i := 210) rfl rfl
theorem wk371 : (.code yX6_in prog_8_method_4_code 3 (some .boolean) : Cond) ∈ fc_all := fc_2 (i := 211) rfl rfl
theorem wk372 : (.methodLink RX6 38 yX6_good : Cond) ∈ fc_all := fc_2 (i := 212) rfl rfl
theorem wk373 : (.instanceMethod yX6_good : Cond) ∈ fc_all := fc_2 (i := 214) rfl rfl
theorem wk374 : (.code yX6_good prog_8_method_3_code 2 (some .boolean) : Cond) ∈ fc_all := fc_2 (i := 215) rfl rfl
theorem wk375 : (.methodLink RL 62 yX6_reckon : Cond) ∈ fc_all := fc_2 (i := 216) rfl rfl
theorem wk376 : (.instanceMethod yX6_reckon : Cond) ∈ fc_all := fc_2 (i := 217) rfl rfl
theorem wk377 : (.selects RX6 yX6_reckon yX6_reckon : Cond) ∈ fc_all := fc_2 (i := 218) rfl rfl
theorem wk378 : (.code yX6_reckon prog_8_method_14_code 5 (some .int) : Cond) ∈ fc_all := fc_2 (i := 219) rfl rfl
theorem wk379 : (.methodLink RX6 42 yX6_isFloat : Cond) ∈ fc_all := fc_2 (i := 220) rfl rfl
theorem wk380 : (.instanceMethod yX6_isFloat : Cond) ∈ fc_all := fc_2 (i := 222) rfl rfl
theorem wk381 : (.code yX6_isFloat prog_8_method_12_code 3 (some .boolean) : Cond) ∈ fc_all := fc_2 (i := 223) rfl rfl
theorem wk382 : (.methodLink RX6 31 yX6_width : Cond) ∈ fc_all := fc_2 (i := 224) rfl rfl
theorem wk383 : (.static yX6_width : Cond) ∈ fc_all := fc_2 (i := 225) rfl rfl
theorem wk384 : (.code yX6_width prog_8_method_8_code 1 (some .int) : Cond) ∈ fc_all := fc_2 (i := 226) rfl rfl
theorem wk385 : (.methodLink RX6 20 yX6_exponent : Cond) ∈ fc_all := fc_2 (i := 227) rfl rfl
theorem wk386 : (.static yX6_exponent : Cond) ∈ fc_all := fc_2 (i := 228) rfl rfl
theorem wk387 : (.code yX6_exponent prog_8_method_6_code 1 (some .int) : Cond) ∈ fc_all := fc_2 (i := 229) rfl rfl
theorem wk388 : (.methodLink RX6 24 yX6_significand : Cond) ∈ fc_all := fc_2 (i := 230) rfl rfl
theorem wk389 : (.static yX6_significand : Cond) ∈ fc_all := fc_2 (i := 231) rfl rfl
theorem wk390 : (.code yX6_significand prog_8_method_7_code 1 (some .int) : Cond) ∈ fc_all := fc_2 (i := 232) rfl rfl
theorem wk391 : (.methodLink RX6 27 yX6_mask : Cond) ∈ fc_all := fc_2 (i := 233) rfl rfl
theorem wk392 : (.static yX6_mask : Cond) ∈ fc_all := fc_2 (i := 234) rfl rfl
theorem wk393 : (.code yX6_mask prog_8_method_9_code 1 (some .long) : Cond) ∈ fc_all := fc_2 (i := 235) rfl rfl
theorem wk394 : (.methodLink RX6 45 yX6_arithmetic : Cond) ∈ fc_all := fc_2 (i := 236) rfl rfl
theorem wk395 : (.instanceMethod yX6_arithmetic : Cond) ∈ fc_all := fc_2 (i := 238) rfl rfl
theorem wk396 : (.code yX6_arithmetic prog_8_method_27_code 26 (some .long) : Cond) ∈ fc_all := fc_2 (i := 239) rfl rfl
theorem wk397 : (.methodLink RX6 81 yX6_nan : Cond) ∈ fc_all := fc_3 (i := 0) rfl rfl
theorem wk398 : (.static yX6_nan : Cond) ∈ fc_all := fc_3 (i := 1) rfl rfl
theorem wk399 : (.code yX6_nan prog_8_method_11_code 2 (some .long) : Cond) ∈ fc_all := fc_3 (i := 2) rfl rfl
theorem wk400 : (.methodLink RX6 60 yX6_take : Cond) ∈ fc_all := fc_3 (i := 3) rfl rfl
theorem wk401 : (.instanceMethod yX6_take : Cond) ∈ fc_all := fc_3 (i := 5) rfl rfl
theorem wk402 : (.code yX6_take prog_8_method_22_code 11 none : Cond) ∈ fc_all := fc_3 (i := 6) rfl rfl
theorem wk403 : (.methodLink RX6 98 yX6_round : Cond) ∈ fc_all := fc_3 (i := 7) rfl rfl
theorem wk404 : (.static yX6_round : Cond) ∈ fc_all := fc_3 (i := 8) rfl rfl
theorem wk405 : (.code yX6_round prog_8_method_25_code 18 (some .long) : Cond) ∈ fc_all := fc_3 (i := 9) rfl rfl
theorem wk406 : (.methodLink RX6 113 yJ1_numberOfLeadingZeros : Cond) ∈ fc_all := fc_3 (i := 10) rfl rfl
theorem wk407 : (.static yJ1_numberOfLeadingZeros : Cond) ∈ fc_all := fc_3 (i := 11) rfl rfl
theorem wk408 : (.code yJ1_numberOfLeadingZeros prog_12_method_48_code 3 (some .int) : Cond) ∈ fc_all := fc_3 (i := 12) rfl rfl
theorem wk409 : (.methodLink RJ1 308 yJ0_numberOfLeadingZeros : Cond) ∈ fc_all := fc_3 (i := 13) rfl rfl
theorem wk410 : (.static yJ0_numberOfLeadingZeros : Cond) ∈ fc_all := fc_3 (i := 14) rfl rfl
theorem wk411 : (.code yJ0_numberOfLeadingZeros prog_11_method_47_code 2 (some .int) : Cond) ∈ fc_all := fc_3 (i := 15) rfl rfl
theorem wk412 : (.constant RJ0 264 65536 : Cond) ∈ fc_all := fc_3 (i := 16) rfl rfl
theorem wk413 : (.methodLink RX6 105 yX6_cut : Cond) ∈ fc_all := fc_3 (i := 17) rfl rfl
theorem wk414 : (.static yX6_cut : Cond) ∈ fc_all := fc_3 (i := 18) rfl rfl
theorem wk415 : (.code yX6_cut prog_8_method_24_code 12 (some .long) : Cond) ∈ fc_all := fc_3 (i := 19) rfl rfl
theorem wk416 : (.methodLink RX6 109 yX6_away : Cond) ∈ fc_all := fc_3 (i := 20) rfl rfl
theorem wk417 : (.static yX6_away : Cond) ∈ fc_all := fc_3 (i := 21) rfl rfl
theorem wk418 : (.code yX6_away prog_8_method_23_code 5 (some .boolean) : Cond) ∈ fc_all := fc_3 (i := 22) rfl rfl
theorem wk419 : (.methodLink RL 66 yX6_change : Cond) ∈ fc_all := fc_3 (i := 23) rfl rfl
theorem wk420 : (.instanceMethod yX6_change : Cond) ∈ fc_all := fc_3 (i := 24) rfl rfl
theorem wk421 : (.selects RX6 yX6_change yX6_change : Cond) ∈ fc_all := fc_3 (i := 25) rfl rfl
theorem wk422 : (.code yX6_change prog_8_method_15_code 6 (some .int) : Cond) ∈ fc_all := fc_3 (i := 26) rfl rfl
theorem wk423 : (.methodLink RX6 49 yX6_canonical : Cond) ∈ fc_all := fc_3 (i := 27) rfl rfl
theorem wk424 : (.instanceMethod yX6_canonical : Cond) ∈ fc_all := fc_3 (i := 29) rfl rfl
theorem wk425 : (.code yX6_canonical prog_8_method_26_code 4 (some .long) : Cond) ∈ fc_all := fc_3 (i := 30) rfl rfl
theorem wk426 : (.methodLink RX6 53 yX6_squareRoot : Cond) ∈ fc_all := fc_3 (i := 31) rfl rfl
theorem wk427 : (.instanceMethod yX6_squareRoot : Cond) ∈ fc_all := fc_3 (i := 33) rfl rfl
theorem wk428 : (.code yX6_squareRoot prog_8_method_28_code 12 (some .long) : Cond) ∈ fc_all := fc_3 (i := 34) rfl rfl
theorem wk429 : (.constantLong RX6 119 1073741824 : Cond) ∈ fc_all := fc_3 (i := 35) rfl rfl
theorem wk430 : (.methodLink RX6 57 yX6_whole : Cond) ∈ fc_all := fc_3 (i := 36) rfl rfl
theorem wk431 : (.instanceMethod yX6_whole : Cond) ∈ fc_all := fc_3 (i := 38) rfl rfl
theorem wk432 : (.code yX6_whole prog_8_method_29_code 7 (some .long) : Cond) ∈ fc_all := fc_3 (i := 39) rfl rfl
theorem wk433 : (.constantLong RX6 68 (-1) : Cond) ∈ fc_all := fc_3 (i := 40) rfl rfl
theorem wk434 : (.methodLink RL 70 yX6_least : Cond) ∈ fc_all := fc_3 (i := 41) rfl rfl
theorem wk435 : (.instanceMethod yX6_least : Cond) ∈ fc_all := fc_3 (i := 42) rfl rfl
theorem wk436 : (.selects RX6 yX6_least yX6_least : Cond) ∈ fc_all := fc_3 (i := 43) rfl rfl
theorem wk437 : (.code yX6_least prog_8_method_16_code 4 (some .int) : Cond) ∈ fc_all := fc_3 (i := 44) rfl rfl
theorem wk438 : (.methodLink RX6 70 yX6_extreme : Cond) ∈ fc_all := fc_3 (i := 45) rfl rfl
theorem wk439 : (.instanceMethod yX6_extreme : Cond) ∈ fc_all := fc_3 (i := 47) rfl rfl
theorem wk440 : (.code yX6_extreme prog_8_method_31_code 8 (some .long) : Cond) ∈ fc_all := fc_3 (i := 48) rfl rfl
theorem wk441 : (.methodLink RX6 121 yX6_order : Cond) ∈ fc_all := fc_3 (i := 49) rfl rfl
theorem wk442 : (.instanceMethod yX6_order : Cond) ∈ fc_all := fc_3 (i := 51) rfl rfl
theorem wk443 : (.code yX6_order prog_8_method_30_code 11 (some .int) : Cond) ∈ fc_all := fc_3 (i := 52) rfl rfl
theorem wk444 : (.methodLink RL 73 yX6_compare : Cond) ∈ fc_all := fc_3 (i := 53) rfl rfl
theorem wk445 : (.instanceMethod yX6_compare : Cond) ∈ fc_all := fc_3 (i := 54) rfl rfl
theorem wk446 : (.selects RX6 yX6_compare yX6_compare : Cond) ∈ fc_all := fc_3 (i := 55) rfl rfl
theorem wk447 : (.code yX6_compare prog_8_method_17_code 4 (some .boolean) : Cond) ∈ fc_all := fc_3 (i := 56) rfl rfl
theorem wk448 : (.methodLink RX6 74 yX6_compared : Cond) ∈ fc_all := fc_3 (i := 57) rfl rfl
theorem wk449 : (.instanceMethod yX6_compared : Cond) ∈ fc_all := fc_3 (i := 59) rfl rfl
theorem wk450 : (.code yX6_compared prog_8_method_32_code 9 (some .long) : Cond) ∈ fc_all := fc_3 (i := 60) rfl rfl
theorem wk451 : (.methodLink RL 76 yX6_is : Cond) ∈ fc_all := fc_3 (i := 61) rfl rfl
theorem wk452 : (.instanceMethod yX6_is : Cond) ∈ fc_all := fc_3 (i := 62) rfl rfl
theorem wk453 : (.selects RX6 yX6_is yX6_is : Cond) ∈ fc_all := fc_3 (i := 63) rfl rfl
theorem wk454 : (.code yX6_is prog_8_method_18_code 3 (some .boolean) : Cond) ∈ fc_all := fc_3 (i := 64) rfl rfl
theorem wk455 : (.methodLink RX6 78 yX6_told : Cond) ∈ fc_all := fc_3 (i := 65) rfl rfl
theorem wk456 : (.instanceMethod yX6_told : Cond) ∈ fc_all := fc_3 (i := 67) rfl rfl
theorem wk457 : (.code yX6_told prog_8_method_33_code 8 (some .long) : Cond) ∈ fc_all := fc_3 (i := 68) rfl rfl
theorem wk458 : (.methodLink RL 79 yX6_from : Cond) ∈ fc_all := fc_3 (i := 69) rfl rfl
theorem wk459 : (.instanceMethod yX6_from : Cond) ∈ fc_all := fc_3 (i := 70) rfl rfl
theorem wk460 : (.selects RX6 yX6_from yX6_from : Cond) ∈ fc_all := fc_3 (i := 71) rfl rfl
theorem wk461 : (.code yX6_from prog_8_method_19_code 7 (some .int) : Cond) ∈ fc_all := fc_3 (i := 72) rfl rfl
theorem wk462 : (.methodLink RL 83 yX6_ofWhole : Cond) ∈ fc_all := fc_3 (i := 73) rfl rfl
theorem wk463 : (.instanceMethod yX6_ofWhole : Cond) ∈ fc_all := fc_3 (i := 74) rfl rfl
theorem wk464 : (.selects RX6 yX6_ofWhole yX6_ofWhole : Cond) ∈ fc_all := fc_3 (i := 75) rfl rfl
theorem wk465 : (.code yX6_ofWhole prog_8_method_20_code 9 (some .int) : Cond) ∈ fc_all := fc_3 (i := 76) rfl rfl
theorem wk466 : (.methodLink RX6 102 yX6_signed : Cond) ∈ fc_all := fc_3 (i := 77) rfl rfl
theorem wk467 : (.static yX6_signed : Cond) ∈ fc_all := fc_3 (i := 78) rfl rfl
theorem wk468 : (.code yX6_signed prog_8_method_10_code 3 (some .long) : Cond) ∈ fc_all := fc_3 (i := 79) rfl rfl
theorem wk469 : (.methodLink RL 86 yX6_toWhole : Cond) ∈ fc_all := fc_3 (i := 80) rfl rfl
theorem wk470 : (.instanceMethod yX6_toWhole : Cond) ∈ fc_all := fc_3 (i := 81) rfl rfl
theorem wk471 : (.selects RX6 yX6_toWhole yX6_toWhole : Cond) ∈ fc_all := fc_3 (i := 82) rfl rfl
theorem wk472 : (.code yX6_toWhole prog_8_method_21_code 9 (some .int) : Cond) ∈ fc_all := fc_3 (i := 83) rfl rfl
theorem wk473 : (.arrayClass .long : Cond) ∈ fc_all := fc_3 (i := 84) rfl rfl
theorem ws0 : (.selects "java/lang/Throwable" ⟨"java/lang/Throwable", "fillInStackTrace", "(I)Ljava/lang/Throwable;"⟩ ⟨"java/lang/Throwable", "fillInStackTrace", "(I)Ljava/lang/Throwable;"⟩ : Cond) ∈ fc_all := fc_s (i := 0) rfl rfl
theorem ws1 : (.selects RX0 yX0_signOf yX0_signOf : Cond) ∈ fc_all := fc_s (i := 1) rfl rfl
theorem ws2 : (.selects RX0 yX0_unsigned yX0_unsigned : Cond) ∈ fc_all := fc_s (i := 2) rfl rfl
theorem ws3 : (.selects RX0 yX0_signed yX0_signed : Cond) ∈ fc_all := fc_s (i := 3) rfl rfl
theorem ws4 : (.selects RX0 yX0_packMagnitude yX0_packMagnitude : Cond) ∈ fc_all := fc_s (i := 4) rfl rfl
theorem ws5 : (.selects RX0 yX0_rank yX0_rank : Cond) ∈ fc_all := fc_s (i := 5) rfl rfl
theorem ws6 : (.selects RX6 yX6_good yX6_good : Cond) ∈ fc_all := fc_s (i := 6) rfl rfl
theorem ws7 : (.selects RX6 yX6_isFloat yX6_isFloat : Cond) ∈ fc_all := fc_s (i := 7) rfl rfl
theorem ws8 : (.selects RX6 yX6_arithmetic yX6_arithmetic : Cond) ∈ fc_all := fc_s (i := 8) rfl rfl
theorem ws9 : (.selects RX6 yX6_take yX6_take : Cond) ∈ fc_all := fc_s (i := 9) rfl rfl
theorem ws10 : (.selects RX6 yX6_canonical yX6_canonical : Cond) ∈ fc_all := fc_s (i := 10) rfl rfl
theorem ws11 : (.selects RX6 yX6_squareRoot yX6_squareRoot : Cond) ∈ fc_all := fc_s (i := 11) rfl rfl
theorem ws12 : (.selects RX6 yX6_whole yX6_whole : Cond) ∈ fc_all := fc_s (i := 12) rfl rfl
theorem ws13 : (.selects RX6 yX6_extreme yX6_extreme : Cond) ∈ fc_all := fc_s (i := 13) rfl rfl
theorem ws14 : (.selects RX6 yX6_order yX6_order : Cond) ∈ fc_all := fc_s (i := 14) rfl rfl
theorem ws15 : (.selects RX6 yX6_compared yX6_compared : Cond) ∈ fc_all := fc_s (i := 15) rfl rfl
theorem ws16 : (.selects RX6 yX6_told yX6_told : Cond) ∈ fc_all := fc_s (i := 16) rfl rfl
def TX0 : u_T := fun k => match k with
  | 0 => ("FloatCircuits$Format", "width", "I", true)
  | 1 => ("FloatCircuits$Format", "fractionBits", "I", true)
  | 2 => ("FloatCircuits$Format", "signBit", "I", true)
  | 3 => ("FloatCircuits$Format", "infinity", "I", true)
  | 4 => ("FloatCircuits$Format", "nan", "I", true)
  | _ => ("FloatCircuits$Format", "finest", "I", true)
def tyX0 : Nat → FieldType := fun k => match k with
  | 0 => .int
  | 1 => .int
  | 2 => .int
  | 3 => .int
  | 4 => .int
  | _ => .int
theorem nmX0 : ∀ a, a < 6 → ∀ b, b < 6 → a ≠ b → (TX0 a).2.1 ≠ (TX0 b).2.1 := by decide +kernel
theorem tyX0_ok : ∀ k, k < 6 → parseFieldDescriptor (TX0 k).2.2.1 = some (tyX0 k) := by decide +kernel
theorem hiX0 : ∀ w ∈ u_ws RX0 TX0 6, w ∈ fc_all := by decide +kernel
def TX4 : u_T := fun k => match k with
  | 0 => ("FloatCircuits$Value", "nan", "Z", true)
  | 1 => ("FloatCircuits$Value", "infinite", "Z", true)
  | 2 => ("FloatCircuits$Value", "sign", "J", true)
  | 3 => ("FloatCircuits$Value", "exponent", "J", true)
  | _ => ("FloatCircuits$Value", "magnitude", "J", true)
def tyX4 : Nat → FieldType := fun k => match k with
  | 0 => .boolean
  | 1 => .boolean
  | 2 => .long
  | 3 => .long
  | _ => .long
theorem nmX4 : ∀ a, a < 5 → ∀ b, b < 5 → a ≠ b → (TX4 a).2.1 ≠ (TX4 b).2.1 := by decide +kernel
theorem tyX4_ok : ∀ k, k < 5 → parseFieldDescriptor (TX4 k).2.2.1 = some (tyX4 k) := by decide +kernel
theorem hiX4 : ∀ w ∈ u_ws RX4 TX4 5, w ∈ fc_all := by decide +kernel
def TX5 : u_T := fun k => match k with
  | _ => ("FloatCircuits", "present", "LFloatCircuits$Format;", false)
def tyX5 : Nat → FieldType := fun k => match k with
  | _ => .object "FloatCircuits$Format"
theorem nmX5 : ∀ a, a < 1 → ∀ b, b < 1 → a ≠ b → (TX5 a).2.1 ≠ (TX5 b).2.1 := by decide +kernel
theorem tyX5_ok : ∀ k, k < 1 → parseFieldDescriptor (TX5 k).2.2.1 = some (tyX5 k) := by decide +kernel
theorem hiX5 : ∀ w ∈ u_ws RX5 TX5 1, w ∈ fc_all := by decide +kernel
def TX6 : u_T := fun k => match k with
  | 0 => ("FloatCircuitsModel", "format", "I", false)
  | 1 => ("FloatCircuitsModel", "code", "I", false)
  | 2 => ("FloatCircuitsModel", "minus", "Z", false)
  | 3 => ("FloatCircuitsModel", "m", "J", false)
  | 4 => ("FloatCircuitsModel", "power", "I", false)
  | 5 => ("FloatCircuitsModel", "infinite", "Z", false)
  | _ => ("FloatCircuitsModel", "none", "Z", false)
def tyX6 : Nat → FieldType := fun k => match k with
  | 0 => .int
  | 1 => .int
  | 2 => .boolean
  | 3 => .long
  | 4 => .int
  | 5 => .boolean
  | _ => .boolean
theorem nmX6 : ∀ a, a < 7 → ∀ b, b < 7 → a ≠ b → (TX6 a).2.1 ≠ (TX6 b).2.1 := by decide +kernel
theorem tyX6_ok : ∀ k, k < 7 → parseFieldDescriptor (TX6 k).2.2.1 = some (tyX6 k) := by decide +kernel
theorem hiX6 : ∀ w ∈ u_ws RX6 TX6 7, w ∈ fc_all := by decide +kernel
abbrev vwCl : List vw_C := [(RX0, TX0, 6), (RX4, TX4, 5), (RX5, TX5, 1), (RX6, TX6, 7)]
abbrev wsX5_init : List Cond := .code yX5_init cX5_init 1 none :: fc_all
abbrev wsX0_init : List Cond := .code yX0_init cX0_init 4 none :: fc_all
abbrev wsL_format : List Cond := .codeWith yL_format cL_format 5 (some .int) [(0, 10, 13, 13)] :: fc_all
abbrev wsX5_format : List Cond := .code yX5_format cX5_format 3 (some .int) :: fc_all
abbrev wsX5_isFormat : List Cond := .code yX5_isFormat cX5_isFormat 2 (some .boolean) :: fc_all
abbrev wsX5_isWithin : List Cond := .code yX5_isWithin cX5_isWithin 3 (some .boolean) :: fc_all
abbrev wsX5_require : List Cond := .code yX5_require cX5_require 1 none :: fc_all
abbrev wsL_reckon : List Cond := .codeWith yL_reckon cL_reckon 7 (some .int) [(0, 14, 17, 13)] :: fc_all
abbrev wsX5_reckon : List Cond := .code yX5_reckon cX5_reckon 7 (some .int) :: fc_all
abbrev wsX5_isMode : List Cond := .code yX5_isMode cX5_isMode 1 (some .boolean) :: fc_all
abbrev wsX0_holds : List Cond := .code yX0_holds cX0_holds 2 (some .boolean) :: fc_all
abbrev wsX0_unpack : List Cond := .code yX0_unpack cX0_unpack 12 (some (.object "FloatCircuits$Value")) :: fc_all
abbrev wsX0_signOf : List Cond := .code yX0_signOf cX0_signOf 2 (some .long) :: fc_all
abbrev wsX0_isNan : List Cond := .code yX0_isNan cX0_isNan 2 (some .boolean) :: fc_all
abbrev wsX0_unsigned : List Cond := .code yX0_unsigned cX0_unsigned 2 (some .long) :: fc_all
abbrev wsX1_below : List Cond := .code yX1_below cX1_below 4 (some .long) :: fc_all
abbrev wsX1_difference : List Cond := .code yX1_difference cX1_difference 4 (some .long) :: fc_all
abbrev wsX1_add : List Cond := .code yX1_add cX1_add 13 (some .long) :: fc_all
abbrev wsX1_isNegative : List Cond := .code yX1_isNegative cX1_isNegative 2 (some .long) :: fc_all
abbrev wsX4_notANumber : List Cond := .code yX4_notANumber cX4_notANumber 0 (some (.object "FloatCircuits$Value")) :: fc_all
abbrev wsX4_init : List Cond := .code yX4_init cX4_init 9 none :: fc_all
abbrev wsX1_any : List Cond := .code yX1_any cX1_any 5 (some .long) :: fc_all
abbrev wsX4_infinity : List Cond := .code yX4_infinity cX4_infinity 2 (some (.object "FloatCircuits$Value")) :: fc_all
abbrev wsX1_ones : List Cond := .code yX1_ones cX1_ones 1 (some .long) :: fc_all
abbrev wsX1_sum : List Cond := .code yX1_sum cX1_sum 4 (some .long) :: fc_all
abbrev wsX4_finite : List Cond := .code yX4_finite cX4_finite 6 (some (.object "FloatCircuits$Value")) :: fc_all
abbrev wsX2_sum : List Cond := .code yX2_sum cX2_sum 9 (some (.object "FloatCircuits$Value")) :: fc_all
abbrev wsX1_choose : List Cond := .code yX1_choose cX1_choose 8 (some .long) :: fc_all
abbrev wsX1_fan : List Cond := .code yX1_fan cX1_fan 2 (some .long) :: fc_all
abbrev wsX2_signedAt : List Cond := .code yX2_signedAt cX2_signedAt 5 (some .long) :: fc_all
abbrev wsX1_shiftLeft : List Cond := .code yX1_shiftLeft cX1_shiftLeft 7 (some .long) :: fc_all
abbrev wsX1_negateIf : List Cond := .code yX1_negateIf cX1_negateIf 4 (some .long) :: fc_all
abbrev wsX2_signOfZeroSum : List Cond := .code yX2_signOfZeroSum cX2_signOfZeroSum 5 (some .long) :: fc_all
abbrev wsX0_pack : List Cond := .code yX0_pack cX0_pack 6 (some .int) :: fc_all
abbrev wsX0_signed : List Cond := .code yX0_signed cX0_signed 5 (some .int) :: fc_all
abbrev wsX4_isZero : List Cond := .code yX4_isZero cX4_isZero 1 (some .boolean) :: fc_all
abbrev wsX0_packMagnitude : List Cond := .code yX0_packMagnitude cX0_packMagnitude 11 (some .long) :: fc_all
abbrev wsX1_top : List Cond := .code yX1_top cX1_top 11 (some .long) :: fc_all
abbrev wsX3_round : List Cond := .code yX3_round cX3_round 16 (some .long) :: fc_all
abbrev wsX1_shiftRightMarking : List Cond := .code yX1_shiftRightMarking cX1_shiftRightMarking 10 (some .long) :: fc_all
abbrev wsX3_oneMore : List Cond := .code yX3_oneMore cX3_oneMore 9 (some .long) :: fc_all
abbrev wsX3_isEndless : List Cond := .code yX3_isEndless cX3_isEndless 3 (some .boolean) :: fc_all
abbrev wsX4_opposite : List Cond := .code yX4_opposite cX4_opposite 1 (some (.object "FloatCircuits$Value")) :: fc_all
abbrev wsX2_product : List Cond := .code yX2_product cX2_product 6 (some (.object "FloatCircuits$Value")) :: fc_all
abbrev wsX1_product : List Cond := .code yX1_product cX1_product 8 (some .long) :: fc_all
abbrev wsX2_quotient : List Cond := .code yX2_quotient cX2_quotient 9 (some (.object "FloatCircuits$Value")) :: fc_all
abbrev wsX1_quotient : List Cond := .code yX1_quotient cX1_quotient 14 (some .long) :: fc_all
abbrev wsL_change : List Cond := .codeWith yL_change cL_change 6 (some .int) [(0, 12, 15, 13)] :: fc_all
abbrev wsX5_change : List Cond := .code yX5_change cX5_change 5 (some .int) :: fc_all
abbrev wsX2_root : List Cond := .code yX2_root cX2_root 10 (some (.object "FloatCircuits$Value")) :: fc_all
abbrev wsX1_root : List Cond := .code yX1_root cX1_root 12 (some .long) :: fc_all
abbrev wsX2_whole : List Cond := .code yX2_whole cX2_whole 2 (some (.object "FloatCircuits$Value")) :: fc_all
abbrev wsL_least : List Cond := .codeWith yL_least cL_least 6 (some .int) [(0, 12, 15, 13)] :: fc_all
abbrev wsX5_least : List Cond := .code yX5_least cX5_least 5 (some .int) :: fc_all
abbrev wsX0_isBelow : List Cond := .code yX0_isBelow cX0_isBelow 3 (some .boolean) :: fc_all
abbrev wsX0_rank : List Cond := .code yX0_rank cX0_rank 2 (some .long) :: fc_all
abbrev wsL_compare : List Cond := .codeWith yL_compare cL_compare 6 (some .int) [(0, 19, 22, 13)] :: fc_all
abbrev wsX5_compare : List Cond := .code yX5_compare cX5_compare 4 (some .boolean) :: fc_all
abbrev wsL_is : List Cond := .codeWith yL_is cL_is 5 (some .int) [(0, 17, 20, 13)] :: fc_all
abbrev wsX5_is : List Cond := .code yX5_is cX5_is 6 (some .boolean) :: fc_all
abbrev wsX0_hasHiddenOne : List Cond := .code yX0_hasHiddenOne cX0_hasHiddenOne 2 (some .boolean) :: fc_all
abbrev wsL_from : List Cond := .codeWith yL_from cL_from 7 (some .int) [(0, 14, 17, 13)] :: fc_all
abbrev wsX5_from : List Cond := .code yX5_from cX5_from 6 (some .int) :: fc_all
abbrev wsL_ofWhole : List Cond := .codeWith yL_ofWhole cL_ofWhole 7 (some .int) [(0, 14, 17, 13)] :: fc_all
abbrev wsX5_ofWhole : List Cond := .code yX5_ofWhole cX5_ofWhole 11 (some .int) :: fc_all
abbrev wsL_toWhole : List Cond := .codeWith yL_toWhole cL_toWhole 7 (some .int) [(0, 14, 17, 13)] :: fc_all
abbrev wsX5_toWhole : List Cond := .code yX5_toWhole cX5_toWhole 6 (some .int) :: fc_all
abbrev wsX5_isWithinBits : List Cond := .code yX5_isWithinBits cX5_isWithinBits 5 (some .boolean) :: fc_all
abbrev wsX6_init : List Cond := .code yX6_init cX6_init 1 none :: fc_all
abbrev wsX6_thrown : List Cond := .code yX6_thrown cX6_thrown 1 (some .int) :: fc_all
abbrev wsX6_format : List Cond := .code yX6_format cX6_format 3 (some .int) :: fc_all
abbrev wsX6_isFormat : List Cond := .code yX6_isFormat cX6_isFormat 2 (some .boolean) :: fc_all
abbrev wsX6_in : List Cond := .code yX6_in cX6_in 3 (some .boolean) :: fc_all
abbrev wsX6_good : List Cond := .code yX6_good cX6_good 2 (some .boolean) :: fc_all
abbrev wsX6_reckon : List Cond := .code yX6_reckon cX6_reckon 5 (some .int) :: fc_all
abbrev wsX6_isFloat : List Cond := .code yX6_isFloat cX6_isFloat 3 (some .boolean) :: fc_all
abbrev wsX6_width : List Cond := .code yX6_width cX6_width 1 (some .int) :: fc_all
abbrev wsX6_exponent : List Cond := .code yX6_exponent cX6_exponent 1 (some .int) :: fc_all
abbrev wsX6_significand : List Cond := .code yX6_significand cX6_significand 1 (some .int) :: fc_all
abbrev wsX6_mask : List Cond := .code yX6_mask cX6_mask 1 (some .long) :: fc_all
abbrev wsX6_arithmetic : List Cond := .code yX6_arithmetic cX6_arithmetic 26 (some .long) :: fc_all
abbrev wsX6_nan : List Cond := .code yX6_nan cX6_nan 2 (some .long) :: fc_all
abbrev wsX6_take : List Cond := .code yX6_take cX6_take 11 none :: fc_all
abbrev wsX6_round : List Cond := .code yX6_round cX6_round 18 (some .long) :: fc_all
abbrev wsJ1_numberOfLeadingZeros : List Cond := .code yJ1_numberOfLeadingZeros cJ1_numberOfLeadingZeros 3 (some .int) :: fc_all
abbrev wsJ0_numberOfLeadingZeros : List Cond := .code yJ0_numberOfLeadingZeros cJ0_numberOfLeadingZeros 2 (some .int) :: fc_all
abbrev wsX6_cut : List Cond := .code yX6_cut cX6_cut 12 (some .long) :: fc_all
abbrev wsX6_away : List Cond := .code yX6_away cX6_away 5 (some .boolean) :: fc_all
abbrev wsX6_change : List Cond := .code yX6_change cX6_change 6 (some .int) :: fc_all
abbrev wsX6_canonical : List Cond := .code yX6_canonical cX6_canonical 4 (some .long) :: fc_all
abbrev wsX6_squareRoot : List Cond := .code yX6_squareRoot cX6_squareRoot 12 (some .long) :: fc_all
abbrev wsX6_whole : List Cond := .code yX6_whole cX6_whole 7 (some .long) :: fc_all
abbrev wsX6_least : List Cond := .code yX6_least cX6_least 4 (some .int) :: fc_all
abbrev wsX6_extreme : List Cond := .code yX6_extreme cX6_extreme 8 (some .long) :: fc_all
abbrev wsX6_order : List Cond := .code yX6_order cX6_order 11 (some .int) :: fc_all
abbrev wsX6_compare : List Cond := .code yX6_compare cX6_compare 4 (some .boolean) :: fc_all
abbrev wsX6_compared : List Cond := .code yX6_compared cX6_compared 9 (some .long) :: fc_all
abbrev wsX6_is : List Cond := .code yX6_is cX6_is 3 (some .boolean) :: fc_all
abbrev wsX6_told : List Cond := .code yX6_told cX6_told 8 (some .long) :: fc_all
abbrev wsX6_from : List Cond := .code yX6_from cX6_from 7 (some .int) :: fc_all
abbrev wsX6_ofWhole : List Cond := .code yX6_ofWhole cX6_ofWhole 9 (some .int) :: fc_all
abbrev wsX6_signed : List Cond := .code yX6_signed cX6_signed 3 (some .long) :: fc_all
abbrev wsX6_toWhole : List Cond := .code yX6_toWhole cX6_toWhole 9 (some .int) :: fc_all
end
section
theorem dX5_init_0 : decode cX5_init 0 = .ok (.aload_n 0, 1) := by decide +kernel
theorem dX5_init_1 : decode cX5_init 1 = .ok (.invokespecial 1, 3) := by decide +kernel
theorem dX5_init_4 : decode cX5_init 4 = .ok (.aload_n 0, 1) := by decide +kernel
theorem dX5_init_5 : decode cX5_init 5 = .ok (.new 7, 3) := by decide +kernel
theorem dX5_init_8 : decode cX5_init 8 = .ok (.dup, 1) := by decide +kernel
theorem dX5_init_9 : decode cX5_init 9 = .ok (.iconst 5, 1) := by decide +kernel
theorem dX5_init_10 : decode cX5_init 10 = .ok (.bipush 11, 2) := by decide +kernel
theorem dX5_init_12 : decode cX5_init 12 = .ok (.invokespecial 9, 3) := by decide +kernel
theorem dX5_init_15 : decode cX5_init 15 = .ok (.putfield 12, 3) := by decide +kernel
theorem dX5_init_18 : decode cX5_init 18 = .ok (.return_, 1) := by decide +kernel
theorem dX0_init_0 : decode cX0_init 0 = .ok (.aload_n 0, 1) := by decide +kernel
theorem dX0_init_1 : decode cX0_init 1 = .ok (.invokespecial 1, 3) := by decide +kernel
theorem dX0_init_4 : decode cX0_init 4 = .ok (.aload_n 0, 1) := by decide +kernel
theorem dX0_init_5 : decode cX0_init 5 = .ok (.iload_n 1, 1) := by decide +kernel
theorem dX0_init_6 : decode cX0_init 6 = .ok (.iload_n 2, 1) := by decide +kernel
theorem dX0_init_7 : decode cX0_init 7 = .ok (.iadd, 1) := by decide +kernel
theorem dX0_init_8 : decode cX0_init 8 = .ok (.putfield 7, 3) := by decide +kernel
theorem dX0_init_11 : decode cX0_init 11 = .ok (.aload_n 0, 1) := by decide +kernel
theorem dX0_init_12 : decode cX0_init 12 = .ok (.iload_n 2, 1) := by decide +kernel
theorem dX0_init_13 : decode cX0_init 13 = .ok (.iconst 1, 1) := by decide +kernel
theorem dX0_init_14 : decode cX0_init 14 = .ok (.isub, 1) := by decide +kernel
theorem dX0_init_15 : decode cX0_init 15 = .ok (.putfield 13, 3) := by decide +kernel
theorem dX0_init_18 : decode cX0_init 18 = .ok (.aload_n 0, 1) := by decide +kernel
theorem dX0_init_19 : decode cX0_init 19 = .ok (.iconst 1, 1) := by decide +kernel
theorem dX0_init_20 : decode cX0_init 20 = .ok (.aload_n 0, 1) := by decide +kernel
theorem dX0_init_21 : decode cX0_init 21 = .ok (.getfield 7, 3) := by decide +kernel
theorem dX0_init_24 : decode cX0_init 24 = .ok (.iconst 1, 1) := by decide +kernel
theorem dX0_init_25 : decode cX0_init 25 = .ok (.isub, 1) := by decide +kernel
theorem dX0_init_26 : decode cX0_init 26 = .ok (.ishl, 1) := by decide +kernel
theorem dX0_init_27 : decode cX0_init 27 = .ok (.putfield 16, 3) := by decide +kernel
theorem dX0_init_30 : decode cX0_init 30 = .ok (.aload_n 0, 1) := by decide +kernel
theorem dX0_init_31 : decode cX0_init 31 = .ok (.iconst 1, 1) := by decide +kernel
theorem dX0_init_32 : decode cX0_init 32 = .ok (.iload_n 1, 1) := by decide +kernel
theorem dX0_init_33 : decode cX0_init 33 = .ok (.ishl, 1) := by decide +kernel
theorem dX0_init_34 : decode cX0_init 34 = .ok (.iconst 1, 1) := by decide +kernel
theorem dX0_init_35 : decode cX0_init 35 = .ok (.isub, 1) := by decide +kernel
theorem dX0_init_36 : decode cX0_init 36 = .ok (.aload_n 0, 1) := by decide +kernel
theorem dX0_init_37 : decode cX0_init 37 = .ok (.getfield 13, 3) := by decide +kernel
theorem dX0_init_40 : decode cX0_init 40 = .ok (.ishl, 1) := by decide +kernel
theorem dX0_init_41 : decode cX0_init 41 = .ok (.putfield 19, 3) := by decide +kernel
theorem dX0_init_44 : decode cX0_init 44 = .ok (.aload_n 0, 1) := by decide +kernel
theorem dX0_init_45 : decode cX0_init 45 = .ok (.aload_n 0, 1) := by decide +kernel
theorem dX0_init_46 : decode cX0_init 46 = .ok (.getfield 19, 3) := by decide +kernel
theorem dX0_init_49 : decode cX0_init 49 = .ok (.iconst 1, 1) := by decide +kernel
theorem dX0_init_50 : decode cX0_init 50 = .ok (.aload_n 0, 1) := by decide +kernel
theorem dX0_init_51 : decode cX0_init 51 = .ok (.getfield 13, 3) := by decide +kernel
theorem dX0_init_54 : decode cX0_init 54 = .ok (.iconst 1, 1) := by decide +kernel
theorem dX0_init_55 : decode cX0_init 55 = .ok (.isub, 1) := by decide +kernel
theorem dX0_init_56 : decode cX0_init 56 = .ok (.ishl, 1) := by decide +kernel
theorem dX0_init_57 : decode cX0_init 57 = .ok (.ior, 1) := by decide +kernel
theorem dX0_init_58 : decode cX0_init 58 = .ok (.putfield 22, 3) := by decide +kernel
theorem dX0_init_61 : decode cX0_init 61 = .ok (.iconst 1, 1) := by decide +kernel
theorem dX0_init_62 : decode cX0_init 62 = .ok (.iload_n 1, 1) := by decide +kernel
theorem dX0_init_63 : decode cX0_init 63 = .ok (.iconst 1, 1) := by decide +kernel
theorem dX0_init_64 : decode cX0_init 64 = .ok (.isub, 1) := by decide +kernel
theorem dX0_init_65 : decode cX0_init 65 = .ok (.ishl, 1) := by decide +kernel
theorem dX0_init_66 : decode cX0_init 66 = .ok (.iconst 1, 1) := by decide +kernel
theorem dX0_init_67 : decode cX0_init 67 = .ok (.isub, 1) := by decide +kernel
theorem dX0_init_68 : decode cX0_init 68 = .ok (.istore_n 3, 1) := by decide +kernel
theorem dX0_init_69 : decode cX0_init 69 = .ok (.aload_n 0, 1) := by decide +kernel
theorem dX0_init_70 : decode cX0_init 70 = .ok (.iconst 1, 1) := by decide +kernel
theorem dX0_init_71 : decode cX0_init 71 = .ok (.iload_n 3, 1) := by decide +kernel
theorem dX0_init_72 : decode cX0_init 72 = .ok (.isub, 1) := by decide +kernel
theorem dX0_init_73 : decode cX0_init 73 = .ok (.aload_n 0, 1) := by decide +kernel
theorem dX0_init_74 : decode cX0_init 74 = .ok (.getfield 13, 3) := by decide +kernel
theorem dX0_init_77 : decode cX0_init 77 = .ok (.isub, 1) := by decide +kernel
theorem dX0_init_78 : decode cX0_init 78 = .ok (.putfield 25, 3) := by decide +kernel
theorem dX0_init_81 : decode cX0_init 81 = .ok (.return_, 1) := by decide +kernel
theorem dL_format_0 : decode cL_format 0 = .ok (.aload_n 3, 1) := by decide +kernel
theorem dL_format_1 : decode cL_format 1 = .ok (.iconst 0, 1) := by decide +kernel
theorem dL_format_2 : decode cL_format 2 = .ok (.aload_n 0, 1) := by decide +kernel
theorem dL_format_3 : decode cL_format 3 = .ok (.iload_n 1, 1) := by decide +kernel
theorem dL_format_4 : decode cL_format 4 = .ok (.iload_n 2, 1) := by decide +kernel
theorem dL_format_5 : decode cL_format 5 = .ok (.invokevirtual 7, 3) := by decide +kernel
theorem dL_format_8 : decode cL_format 8 = .ok (.i2l, 1) := by decide +kernel
theorem dL_format_9 : decode cL_format 9 = .ok (.lastore, 1) := by decide +kernel
theorem dL_format_10 : decode cL_format 10 = .ok (.goto 7, 3) := by decide +kernel
theorem dL_format_13 : decode cL_format 13 = .ok (.astore 4, 2) := by decide +kernel
theorem dL_format_15 : decode cL_format 15 = .ok (.iconst 1, 1) := by decide +kernel
theorem dL_format_16 : decode cL_format 16 = .ok (.ireturn, 1) := by decide +kernel
theorem dL_format_17 : decode cL_format 17 = .ok (.iconst 0, 1) := by decide +kernel
theorem dL_format_18 : decode cL_format 18 = .ok (.ireturn, 1) := by decide +kernel
theorem dX5_format_0 : decode cX5_format 0 = .ok (.iload_n 1, 1) := by decide +kernel
theorem dX5_format_1 : decode cX5_format 1 = .ok (.iload_n 2, 1) := by decide +kernel
theorem dX5_format_2 : decode cX5_format 2 = .ok (.invokestatic 18, 3) := by decide +kernel
theorem dX5_format_5 : decode cX5_format 5 = .ok (.invokestatic 22, 3) := by decide +kernel
theorem dX5_format_8 : decode cX5_format 8 = .ok (.aload_n 0, 1) := by decide +kernel
theorem dX5_format_9 : decode cX5_format 9 = .ok (.new 7, 3) := by decide +kernel
theorem dX5_format_12 : decode cX5_format 12 = .ok (.dup, 1) := by decide +kernel
theorem dX5_format_13 : decode cX5_format 13 = .ok (.iload_n 1, 1) := by decide +kernel
theorem dX5_format_14 : decode cX5_format 14 = .ok (.iload_n 2, 1) := by decide +kernel
theorem dX5_format_15 : decode cX5_format 15 = .ok (.invokespecial 9, 3) := by decide +kernel
theorem dX5_format_18 : decode cX5_format 18 = .ok (.putfield 12, 3) := by decide +kernel
theorem dX5_format_21 : decode cX5_format 21 = .ok (.aload_n 0, 1) := by decide +kernel
theorem dX5_format_22 : decode cX5_format 22 = .ok (.getfield 12, 3) := by decide +kernel
theorem dX5_format_25 : decode cX5_format 25 = .ok (.getfield 26, 3) := by decide +kernel
theorem dX5_format_28 : decode cX5_format 28 = .ok (.ireturn, 1) := by decide +kernel
theorem dX5_isFormat_0 : decode cX5_isFormat 0 = .ok (.iload_n 0, 1) := by decide +kernel
theorem dX5_isFormat_1 : decode cX5_isFormat 1 = .ok (.iconst 2, 1) := by decide +kernel
theorem dX5_isFormat_2 : decode cX5_isFormat 2 = .ok (.iconst 5, 1) := by decide +kernel
theorem dX5_isFormat_3 : decode cX5_isFormat 3 = .ok (.invokestatic 30, 3) := by decide +kernel
theorem dX5_isFormat_6 : decode cX5_isFormat 6 = .ok (.ifCond .eq 17, 3) := by decide +kernel
theorem dX5_isFormat_9 : decode cX5_isFormat 9 = .ok (.iload_n 1, 1) := by decide +kernel
theorem dX5_isFormat_10 : decode cX5_isFormat 10 = .ok (.iconst 2, 1) := by decide +kernel
theorem dX5_isFormat_11 : decode cX5_isFormat 11 = .ok (.bipush 11, 2) := by decide +kernel
theorem dX5_isFormat_13 : decode cX5_isFormat 13 = .ok (.invokestatic 30, 3) := by decide +kernel
theorem dX5_isFormat_16 : decode cX5_isFormat 16 = .ok (.ifCond .eq 7, 3) := by decide +kernel
theorem dX5_isFormat_19 : decode cX5_isFormat 19 = .ok (.iconst 1, 1) := by decide +kernel
theorem dX5_isFormat_20 : decode cX5_isFormat 20 = .ok (.goto 4, 3) := by decide +kernel
theorem dX5_isFormat_23 : decode cX5_isFormat 23 = .ok (.iconst 0, 1) := by decide +kernel
theorem dX5_isFormat_24 : decode cX5_isFormat 24 = .ok (.ireturn, 1) := by decide +kernel
theorem dX5_isWithin_0 : decode cX5_isWithin 0 = .ok (.iload_n 1, 1) := by decide +kernel
theorem dX5_isWithin_1 : decode cX5_isWithin 1 = .ok (.iload_n 0, 1) := by decide +kernel
theorem dX5_isWithin_2 : decode cX5_isWithin 2 = .ok (.if_icmp .gt 12, 3) := by decide +kernel
theorem dX5_isWithin_5 : decode cX5_isWithin 5 = .ok (.iload_n 0, 1) := by decide +kernel
theorem dX5_isWithin_6 : decode cX5_isWithin 6 = .ok (.iload_n 2, 1) := by decide +kernel
theorem dX5_isWithin_7 : decode cX5_isWithin 7 = .ok (.if_icmp .gt 7, 3) := by decide +kernel
theorem dX5_isWithin_10 : decode cX5_isWithin 10 = .ok (.iconst 1, 1) := by decide +kernel
theorem dX5_isWithin_11 : decode cX5_isWithin 11 = .ok (.goto 4, 3) := by decide +kernel
theorem dX5_isWithin_14 : decode cX5_isWithin 14 = .ok (.iconst 0, 1) := by decide +kernel
theorem dX5_isWithin_15 : decode cX5_isWithin 15 = .ok (.ireturn, 1) := by decide +kernel
theorem dX5_require_0 : decode cX5_require 0 = .ok (.iload_n 0, 1) := by decide +kernel
theorem dX5_require_1 : decode cX5_require 1 = .ok (.ifCond .ne 11, 3) := by decide +kernel
theorem dX5_require_4 : decode cX5_require 4 = .ok (.new 138, 3) := by decide +kernel
theorem dX5_require_7 : decode cX5_require 7 = .ok (.dup, 1) := by decide +kernel
theorem dX5_require_8 : decode cX5_require 8 = .ok (.invokespecial 140, 3) := by decide +kernel
theorem dX5_require_11 : decode cX5_require 11 = .ok (.athrow, 1) := by decide +kernel
theorem dX5_require_12 : decode cX5_require 12 = .ok (.return_, 1) := by decide +kernel
theorem dL_reckon_0 : decode cL_reckon 0 = .ok (.aload 5, 2) := by decide +kernel
theorem dL_reckon_2 : decode cL_reckon 2 = .ok (.iconst 0, 1) := by decide +kernel
theorem dL_reckon_3 : decode cL_reckon 3 = .ok (.aload_n 0, 1) := by decide +kernel
theorem dL_reckon_4 : decode cL_reckon 4 = .ok (.iload_n 1, 1) := by decide +kernel
theorem dL_reckon_5 : decode cL_reckon 5 = .ok (.iload_n 2, 1) := by decide +kernel
theorem dL_reckon_6 : decode cL_reckon 6 = .ok (.iload_n 3, 1) := by decide +kernel
theorem dL_reckon_7 : decode cL_reckon 7 = .ok (.iload 4, 2) := by decide +kernel
theorem dL_reckon_9 : decode cL_reckon 9 = .ok (.invokevirtual 15, 3) := by decide +kernel
theorem dL_reckon_12 : decode cL_reckon 12 = .ok (.i2l, 1) := by decide +kernel
theorem dL_reckon_13 : decode cL_reckon 13 = .ok (.lastore, 1) := by decide +kernel
theorem dL_reckon_14 : decode cL_reckon 14 = .ok (.goto 7, 3) := by decide +kernel
theorem dL_reckon_17 : decode cL_reckon 17 = .ok (.astore 6, 2) := by decide +kernel
theorem dL_reckon_19 : decode cL_reckon 19 = .ok (.iconst 1, 1) := by decide +kernel
theorem dL_reckon_20 : decode cL_reckon 20 = .ok (.ireturn, 1) := by decide +kernel
theorem dL_reckon_21 : decode cL_reckon 21 = .ok (.iconst 0, 1) := by decide +kernel
theorem dL_reckon_22 : decode cL_reckon 22 = .ok (.ireturn, 1) := by decide +kernel
theorem dX5_reckon_0 : decode cX5_reckon 0 = .ok (.iload_n 1, 1) := by decide +kernel
theorem dX5_reckon_1 : decode cX5_reckon 1 = .ok (.iconst 0, 1) := by decide +kernel
theorem dX5_reckon_2 : decode cX5_reckon 2 = .ok (.iconst 3, 1) := by decide +kernel
theorem dX5_reckon_3 : decode cX5_reckon 3 = .ok (.invokestatic 30, 3) := by decide +kernel
theorem dX5_reckon_6 : decode cX5_reckon 6 = .ok (.ifCond .eq 37, 3) := by decide +kernel
theorem dX5_reckon_9 : decode cX5_reckon 9 = .ok (.iload_n 2, 1) := by decide +kernel
theorem dX5_reckon_10 : decode cX5_reckon 10 = .ok (.invokestatic 34, 3) := by decide +kernel
theorem dX5_reckon_13 : decode cX5_reckon 13 = .ok (.ifCond .eq 30, 3) := by decide +kernel
theorem dX5_reckon_16 : decode cX5_reckon 16 = .ok (.aload_n 0, 1) := by decide +kernel
theorem dX5_reckon_17 : decode cX5_reckon 17 = .ok (.getfield 12, 3) := by decide +kernel
theorem dX5_reckon_20 : decode cX5_reckon 20 = .ok (.iload_n 3, 1) := by decide +kernel
theorem dX5_reckon_21 : decode cX5_reckon 21 = .ok (.invokevirtual 38, 3) := by decide +kernel
theorem dX5_reckon_24 : decode cX5_reckon 24 = .ok (.ifCond .eq 19, 3) := by decide +kernel
theorem dX5_reckon_27 : decode cX5_reckon 27 = .ok (.aload_n 0, 1) := by decide +kernel
theorem dX5_reckon_28 : decode cX5_reckon 28 = .ok (.getfield 12, 3) := by decide +kernel
theorem dX5_reckon_31 : decode cX5_reckon 31 = .ok (.iload 4, 2) := by decide +kernel
theorem dX5_reckon_33 : decode cX5_reckon 33 = .ok (.invokevirtual 38, 3) := by decide +kernel
theorem dX5_reckon_36 : decode cX5_reckon 36 = .ok (.ifCond .eq 7, 3) := by decide +kernel
theorem dX5_reckon_39 : decode cX5_reckon 39 = .ok (.iconst 1, 1) := by decide +kernel
theorem dX5_reckon_40 : decode cX5_reckon 40 = .ok (.goto 4, 3) := by decide +kernel
theorem dX5_reckon_43 : decode cX5_reckon 43 = .ok (.iconst 0, 1) := by decide +kernel
theorem dX5_reckon_44 : decode cX5_reckon 44 = .ok (.invokestatic 22, 3) := by decide +kernel
theorem dX5_reckon_47 : decode cX5_reckon 47 = .ok (.aload_n 0, 1) := by decide +kernel
theorem dX5_reckon_48 : decode cX5_reckon 48 = .ok (.getfield 12, 3) := by decide +kernel
theorem dX5_reckon_51 : decode cX5_reckon 51 = .ok (.iload_n 3, 1) := by decide +kernel
theorem dX5_reckon_52 : decode cX5_reckon 52 = .ok (.invokevirtual 41, 3) := by decide +kernel
theorem dX5_reckon_55 : decode cX5_reckon 55 = .ok (.astore 5, 2) := by decide +kernel
theorem dX5_reckon_57 : decode cX5_reckon 57 = .ok (.aload_n 0, 1) := by decide +kernel
theorem dX5_reckon_58 : decode cX5_reckon 58 = .ok (.getfield 12, 3) := by decide +kernel
theorem dX5_reckon_61 : decode cX5_reckon 61 = .ok (.iload 4, 2) := by decide +kernel
theorem dX5_reckon_63 : decode cX5_reckon 63 = .ok (.invokevirtual 41, 3) := by decide +kernel
theorem dX5_reckon_66 : decode cX5_reckon 66 = .ok (.astore 6, 2) := by decide +kernel
theorem dX5_reckon_68 : decode cX5_reckon 68 = .ok (.iload_n 1, 1) := by decide +kernel
theorem dX5_reckon_69 : decode cX5_reckon 69 = .ok (.tableswitch 80 0 2 #[27, 44, 64], 27) := by decide +kernel
theorem dX5_reckon_96 : decode cX5_reckon 96 = .ok (.aload_n 0, 1) := by decide +kernel
theorem dX5_reckon_97 : decode cX5_reckon 97 = .ok (.getfield 12, 3) := by decide +kernel
theorem dX5_reckon_100 : decode cX5_reckon 100 = .ok (.iload_n 2, 1) := by decide +kernel
theorem dX5_reckon_101 : decode cX5_reckon 101 = .ok (.iload_n 2, 1) := by decide +kernel
theorem dX5_reckon_102 : decode cX5_reckon 102 = .ok (.aload 5, 2) := by decide +kernel
theorem dX5_reckon_104 : decode cX5_reckon 104 = .ok (.aload 6, 2) := by decide +kernel
theorem dX5_reckon_106 : decode cX5_reckon 106 = .ok (.invokestatic 45, 3) := by decide +kernel
theorem dX5_reckon_109 : decode cX5_reckon 109 = .ok (.invokevirtual 51, 3) := by decide +kernel
theorem dX5_reckon_112 : decode cX5_reckon 112 = .ok (.ireturn, 1) := by decide +kernel
theorem dX5_reckon_113 : decode cX5_reckon 113 = .ok (.aload_n 0, 1) := by decide +kernel
theorem dX5_reckon_114 : decode cX5_reckon 114 = .ok (.getfield 12, 3) := by decide +kernel
theorem dX5_reckon_117 : decode cX5_reckon 117 = .ok (.iload_n 2, 1) := by decide +kernel
theorem dX5_reckon_118 : decode cX5_reckon 118 = .ok (.iload_n 2, 1) := by decide +kernel
theorem dX5_reckon_119 : decode cX5_reckon 119 = .ok (.aload 5, 2) := by decide +kernel
theorem dX5_reckon_121 : decode cX5_reckon 121 = .ok (.aload 6, 2) := by decide +kernel
theorem dX5_reckon_123 : decode cX5_reckon 123 = .ok (.invokevirtual 55, 3) := by decide +kernel
theorem dX5_reckon_126 : decode cX5_reckon 126 = .ok (.invokestatic 45, 3) := by decide +kernel
theorem dX5_reckon_129 : decode cX5_reckon 129 = .ok (.invokevirtual 51, 3) := by decide +kernel
theorem dX5_reckon_132 : decode cX5_reckon 132 = .ok (.ireturn, 1) := by decide +kernel
theorem dX5_reckon_133 : decode cX5_reckon 133 = .ok (.aload_n 0, 1) := by decide +kernel
theorem dX5_reckon_134 : decode cX5_reckon 134 = .ok (.getfield 12, 3) := by decide +kernel
theorem dX5_reckon_137 : decode cX5_reckon 137 = .ok (.iload_n 2, 1) := by decide +kernel
theorem dX5_reckon_138 : decode cX5_reckon 138 = .ok (.aload 5, 2) := by decide +kernel
theorem dX5_reckon_140 : decode cX5_reckon 140 = .ok (.aload 6, 2) := by decide +kernel
theorem dX5_reckon_142 : decode cX5_reckon 142 = .ok (.invokestatic 61, 3) := by decide +kernel
theorem dX5_reckon_145 : decode cX5_reckon 145 = .ok (.invokevirtual 51, 3) := by decide +kernel
theorem dX5_reckon_148 : decode cX5_reckon 148 = .ok (.ireturn, 1) := by decide +kernel
theorem dX5_reckon_149 : decode cX5_reckon 149 = .ok (.aload_n 0, 1) := by decide +kernel
theorem dX5_reckon_150 : decode cX5_reckon 150 = .ok (.getfield 12, 3) := by decide +kernel
theorem dX5_reckon_153 : decode cX5_reckon 153 = .ok (.iload_n 2, 1) := by decide +kernel
theorem dX5_reckon_154 : decode cX5_reckon 154 = .ok (.aload 5, 2) := by decide +kernel
theorem dX5_reckon_156 : decode cX5_reckon 156 = .ok (.aload 6, 2) := by decide +kernel
theorem dX5_reckon_158 : decode cX5_reckon 158 = .ok (.invokestatic 65, 3) := by decide +kernel
theorem dX5_reckon_161 : decode cX5_reckon 161 = .ok (.invokevirtual 51, 3) := by decide +kernel
theorem dX5_reckon_164 : decode cX5_reckon 164 = .ok (.ireturn, 1) := by decide +kernel
theorem dX5_isMode_0 : decode cX5_isMode 0 = .ok (.iload_n 0, 1) := by decide +kernel
theorem dX5_isMode_1 : decode cX5_isMode 1 = .ok (.iconst 0, 1) := by decide +kernel
theorem dX5_isMode_2 : decode cX5_isMode 2 = .ok (.iconst 4, 1) := by decide +kernel
theorem dX5_isMode_3 : decode cX5_isMode 3 = .ok (.invokestatic 30, 3) := by decide +kernel
theorem dX5_isMode_6 : decode cX5_isMode 6 = .ok (.ireturn, 1) := by decide +kernel
theorem dX0_holds_0 : decode cX0_holds 0 = .ok (.iload_n 1, 1) := by decide +kernel
theorem dX0_holds_1 : decode cX0_holds 1 = .ok (.iconst 0, 1) := by decide +kernel
theorem dX0_holds_2 : decode cX0_holds 2 = .ok (.iconst 1, 1) := by decide +kernel
theorem dX0_holds_3 : decode cX0_holds 3 = .ok (.aload_n 0, 1) := by decide +kernel
theorem dX0_holds_4 : decode cX0_holds 4 = .ok (.getfield 7, 3) := by decide +kernel
theorem dX0_holds_7 : decode cX0_holds 7 = .ok (.ishl, 1) := by decide +kernel
theorem dX0_holds_8 : decode cX0_holds 8 = .ok (.iconst 1, 1) := by decide +kernel
theorem dX0_holds_9 : decode cX0_holds 9 = .ok (.isub, 1) := by decide +kernel
theorem dX0_holds_10 : decode cX0_holds 10 = .ok (.invokestatic 28, 3) := by decide +kernel
theorem dX0_holds_13 : decode cX0_holds 13 = .ok (.ireturn, 1) := by decide +kernel
theorem dX0_unpack_0 : decode cX0_unpack 0 = .ok (.aload_n 0, 1) := by decide +kernel
theorem dX0_unpack_1 : decode cX0_unpack 1 = .ok (.iload_n 1, 1) := by decide +kernel
theorem dX0_unpack_2 : decode cX0_unpack 2 = .ok (.invokevirtual 51, 3) := by decide +kernel
theorem dX0_unpack_5 : decode cX0_unpack 5 = .ok (.lstore_n 2, 1) := by decide +kernel
theorem dX0_unpack_6 : decode cX0_unpack 6 = .ok (.aload_n 0, 1) := by decide +kernel
theorem dX0_unpack_7 : decode cX0_unpack 7 = .ok (.iload_n 1, 1) := by decide +kernel
theorem dX0_unpack_8 : decode cX0_unpack 8 = .ok (.invokevirtual 54, 3) := by decide +kernel
theorem dX0_unpack_11 : decode cX0_unpack 11 = .ok (.ifCond .eq 7, 3) := by decide +kernel
theorem dX0_unpack_14 : decode cX0_unpack 14 = .ok (.invokestatic 58, 3) := by decide +kernel
theorem dX0_unpack_17 : decode cX0_unpack 17 = .ok (.areturn, 1) := by decide +kernel
theorem dX0_unpack_18 : decode cX0_unpack 18 = .ok (.aload_n 0, 1) := by decide +kernel
theorem dX0_unpack_19 : decode cX0_unpack 19 = .ok (.iload_n 1, 1) := by decide +kernel
theorem dX0_unpack_20 : decode cX0_unpack 20 = .ok (.invokevirtual 34, 3) := by decide +kernel
theorem dX0_unpack_23 : decode cX0_unpack 23 = .ok (.aload_n 0, 1) := by decide +kernel
theorem dX0_unpack_24 : decode cX0_unpack 24 = .ok (.getfield 19, 3) := by decide +kernel
theorem dX0_unpack_27 : decode cX0_unpack 27 = .ok (.i2l, 1) := by decide +kernel
theorem dX0_unpack_28 : decode cX0_unpack 28 = .ok (.lxor, 1) := by decide +kernel
theorem dX0_unpack_29 : decode cX0_unpack 29 = .ok (.invokestatic 44, 3) := by decide +kernel
theorem dX0_unpack_32 : decode cX0_unpack 32 = .ok (.lconst 0, 1) := by decide +kernel
theorem dX0_unpack_33 : decode cX0_unpack 33 = .ok (.lcmp, 1) := by decide +kernel
theorem dX0_unpack_34 : decode cX0_unpack 34 = .ok (.ifCond .ne 8, 3) := by decide +kernel
theorem dX0_unpack_37 : decode cX0_unpack 37 = .ok (.lload_n 2, 1) := by decide +kernel
theorem dX0_unpack_38 : decode cX0_unpack 38 = .ok (.invokestatic 64, 3) := by decide +kernel
theorem dX0_unpack_41 : decode cX0_unpack 41 = .ok (.areturn, 1) := by decide +kernel
theorem dX0_unpack_42 : decode cX0_unpack 42 = .ok (.aload_n 0, 1) := by decide +kernel
theorem dX0_unpack_43 : decode cX0_unpack 43 = .ok (.iload_n 1, 1) := by decide +kernel
theorem dX0_unpack_44 : decode cX0_unpack 44 = .ok (.invokevirtual 34, 3) := by decide +kernel
theorem dX0_unpack_47 : decode cX0_unpack 47 = .ok (.aload_n 0, 1) := by decide +kernel
theorem dX0_unpack_48 : decode cX0_unpack 48 = .ok (.getfield 13, 3) := by decide +kernel
theorem dX0_unpack_51 : decode cX0_unpack 51 = .ok (.lushr, 1) := by decide +kernel
theorem dX0_unpack_52 : decode cX0_unpack 52 = .ok (.lstore 4, 2) := by decide +kernel
theorem dX0_unpack_54 : decode cX0_unpack 54 = .ok (.lload 4, 2) := by decide +kernel
theorem dX0_unpack_56 : decode cX0_unpack 56 = .ok (.invokestatic 44, 3) := by decide +kernel
theorem dX0_unpack_59 : decode cX0_unpack 59 = .ok (.lstore 6, 2) := by decide +kernel
theorem dX0_unpack_61 : decode cX0_unpack 61 = .ok (.iload_n 1, 1) := by decide +kernel
theorem dX0_unpack_62 : decode cX0_unpack 62 = .ok (.i2l, 1) := by decide +kernel
theorem dX0_unpack_63 : decode cX0_unpack 63 = .ok (.aload_n 0, 1) := by decide +kernel
theorem dX0_unpack_64 : decode cX0_unpack 64 = .ok (.getfield 13, 3) := by decide +kernel
theorem dX0_unpack_67 : decode cX0_unpack 67 = .ok (.invokestatic 67, 3) := by decide +kernel
theorem dX0_unpack_70 : decode cX0_unpack 70 = .ok (.land, 1) := by decide +kernel
theorem dX0_unpack_71 : decode cX0_unpack 71 = .ok (.lstore 8, 2) := by decide +kernel
theorem dX0_unpack_73 : decode cX0_unpack 73 = .ok (.lload 4, 2) := by decide +kernel
theorem dX0_unpack_75 : decode cX0_unpack 75 = .ok (.lload 6, 2) := by decide +kernel
theorem dX0_unpack_77 : decode cX0_unpack 77 = .ok (.invokestatic 70, 3) := by decide +kernel
theorem dX0_unpack_80 : decode cX0_unpack 80 = .ok (.lstore 10, 2) := by decide +kernel
theorem dX0_unpack_82 : decode cX0_unpack 82 = .ok (.lload_n 2, 1) := by decide +kernel
theorem dX0_unpack_83 : decode cX0_unpack 83 = .ok (.aload_n 0, 1) := by decide +kernel
theorem dX0_unpack_84 : decode cX0_unpack 84 = .ok (.getfield 25, 3) := by decide +kernel
theorem dX0_unpack_87 : decode cX0_unpack 87 = .ok (.i2l, 1) := by decide +kernel
theorem dX0_unpack_88 : decode cX0_unpack 88 = .ok (.lload 10, 2) := by decide +kernel
theorem dX0_unpack_90 : decode cX0_unpack 90 = .ok (.invokestatic 73, 3) := by decide +kernel
theorem dX0_unpack_93 : decode cX0_unpack 93 = .ok (.lload 8, 2) := by decide +kernel
theorem dX0_unpack_95 : decode cX0_unpack 95 = .ok (.lload 6, 2) := by decide +kernel
theorem dX0_unpack_97 : decode cX0_unpack 97 = .ok (.aload_n 0, 1) := by decide +kernel
theorem dX0_unpack_98 : decode cX0_unpack 98 = .ok (.getfield 13, 3) := by decide +kernel
theorem dX0_unpack_101 : decode cX0_unpack 101 = .ok (.lshl, 1) := by decide +kernel
theorem dX0_unpack_102 : decode cX0_unpack 102 = .ok (.lor, 1) := by decide +kernel
theorem dX0_unpack_103 : decode cX0_unpack 103 = .ok (.invokestatic 76, 3) := by decide +kernel
theorem dX0_unpack_106 : decode cX0_unpack 106 = .ok (.areturn, 1) := by decide +kernel
theorem dX0_signOf_0 : decode cX0_signOf 0 = .ok (.iload_n 1, 1) := by decide +kernel
theorem dX0_signOf_1 : decode cX0_signOf 1 = .ok (.aload_n 0, 1) := by decide +kernel
theorem dX0_signOf_2 : decode cX0_signOf 2 = .ok (.getfield 7, 3) := by decide +kernel
theorem dX0_signOf_5 : decode cX0_signOf 5 = .ok (.iconst 1, 1) := by decide +kernel
theorem dX0_signOf_6 : decode cX0_signOf 6 = .ok (.isub, 1) := by decide +kernel
theorem dX0_signOf_7 : decode cX0_signOf 7 = .ok (.iushr, 1) := by decide +kernel
theorem dX0_signOf_8 : decode cX0_signOf 8 = .ok (.iconst 1, 1) := by decide +kernel
theorem dX0_signOf_9 : decode cX0_signOf 9 = .ok (.iand, 1) := by decide +kernel
theorem dX0_signOf_10 : decode cX0_signOf 10 = .ok (.i2l, 1) := by decide +kernel
theorem dX0_signOf_11 : decode cX0_signOf 11 = .ok (.lreturn, 1) := by decide +kernel
theorem dX0_isNan_0 : decode cX0_isNan 0 = .ok (.aload_n 0, 1) := by decide +kernel
theorem dX0_isNan_1 : decode cX0_isNan 1 = .ok (.getfield 19, 3) := by decide +kernel
theorem dX0_isNan_4 : decode cX0_isNan 4 = .ok (.i2l, 1) := by decide +kernel
theorem dX0_isNan_5 : decode cX0_isNan 5 = .ok (.aload_n 0, 1) := by decide +kernel
theorem dX0_isNan_6 : decode cX0_isNan 6 = .ok (.iload_n 1, 1) := by decide +kernel
theorem dX0_isNan_7 : decode cX0_isNan 7 = .ok (.invokevirtual 34, 3) := by decide +kernel
theorem dX0_isNan_10 : decode cX0_isNan 10 = .ok (.invokestatic 38, 3) := by decide +kernel
theorem dX0_isNan_13 : decode cX0_isNan 13 = .ok (.lconst 1, 1) := by decide +kernel
theorem dX0_isNan_14 : decode cX0_isNan 14 = .ok (.lcmp, 1) := by decide +kernel
theorem dX0_isNan_15 : decode cX0_isNan 15 = .ok (.ifCond .ne 7, 3) := by decide +kernel
theorem dX0_isNan_18 : decode cX0_isNan 18 = .ok (.iconst 1, 1) := by decide +kernel
theorem dX0_isNan_19 : decode cX0_isNan 19 = .ok (.goto 4, 3) := by decide +kernel
theorem dX0_isNan_22 : decode cX0_isNan 22 = .ok (.iconst 0, 1) := by decide +kernel
theorem dX0_isNan_23 : decode cX0_isNan 23 = .ok (.ireturn, 1) := by decide +kernel
theorem dX0_unsigned_0 : decode cX0_unsigned 0 = .ok (.iload_n 1, 1) := by decide +kernel
theorem dX0_unsigned_1 : decode cX0_unsigned 1 = .ok (.aload_n 0, 1) := by decide +kernel
theorem dX0_unsigned_2 : decode cX0_unsigned 2 = .ok (.getfield 16, 3) := by decide +kernel
theorem dX0_unsigned_5 : decode cX0_unsigned 5 = .ok (.iconst 1, 1) := by decide +kernel
theorem dX0_unsigned_6 : decode cX0_unsigned 6 = .ok (.isub, 1) := by decide +kernel
theorem dX0_unsigned_7 : decode cX0_unsigned 7 = .ok (.iand, 1) := by decide +kernel
theorem dX0_unsigned_8 : decode cX0_unsigned 8 = .ok (.i2l, 1) := by decide +kernel
theorem dX0_unsigned_9 : decode cX0_unsigned 9 = .ok (.lreturn, 1) := by decide +kernel
theorem dX1_below_0 : decode cX1_below 0 = .ok (.lload_n 0, 1) := by decide +kernel
theorem dX1_below_1 : decode cX1_below 1 = .ok (.lload_n 2, 1) := by decide +kernel
theorem dX1_below_2 : decode cX1_below 2 = .ok (.invokestatic 19, 3) := by decide +kernel
theorem dX1_below_5 : decode cX1_below 5 = .ok (.invokestatic 23, 3) := by decide +kernel
theorem dX1_below_8 : decode cX1_below 8 = .ok (.lreturn, 1) := by decide +kernel
theorem dX1_difference_0 : decode cX1_difference 0 = .ok (.lload_n 0, 1) := by decide +kernel
theorem dX1_difference_1 : decode cX1_difference 1 = .ok (.lload_n 2, 1) := by decide +kernel
theorem dX1_difference_2 : decode cX1_difference 2 = .ok (.ldc2_w 7, 3) := by decide +kernel
theorem dX1_difference_5 : decode cX1_difference 5 = .ok (.lxor, 1) := by decide +kernel
theorem dX1_difference_6 : decode cX1_difference 6 = .ok (.lconst 1, 1) := by decide +kernel
theorem dX1_difference_7 : decode cX1_difference 7 = .ok (.invokestatic 15, 3) := by decide +kernel
theorem dX1_difference_10 : decode cX1_difference 10 = .ok (.lreturn, 1) := by decide +kernel
theorem dX1_add_0 : decode cX1_add 0 = .ok (.lload_n 0, 1) := by decide +kernel
theorem dX1_add_1 : decode cX1_add 1 = .ok (.lload_n 2, 1) := by decide +kernel
theorem dX1_add_2 : decode cX1_add 2 = .ok (.lxor, 1) := by decide +kernel
theorem dX1_add_3 : decode cX1_add 3 = .ok (.lstore 6, 2) := by decide +kernel
theorem dX1_add_5 : decode cX1_add 5 = .ok (.lload_n 0, 1) := by decide +kernel
theorem dX1_add_6 : decode cX1_add 6 = .ok (.lload_n 2, 1) := by decide +kernel
theorem dX1_add_7 : decode cX1_add 7 = .ok (.land, 1) := by decide +kernel
theorem dX1_add_8 : decode cX1_add 8 = .ok (.lload 6, 2) := by decide +kernel
theorem dX1_add_10 : decode cX1_add 10 = .ok (.lload 4, 2) := by decide +kernel
theorem dX1_add_12 : decode cX1_add 12 = .ok (.land, 1) := by decide +kernel
theorem dX1_add_13 : decode cX1_add 13 = .ok (.lor, 1) := by decide +kernel
theorem dX1_add_14 : decode cX1_add 14 = .ok (.lstore 8, 2) := by decide +kernel
theorem dX1_add_16 : decode cX1_add 16 = .ok (.lload 6, 2) := by decide +kernel
theorem dX1_add_18 : decode cX1_add 18 = .ok (.lstore 10, 2) := by decide +kernel
theorem dX1_add_20 : decode cX1_add 20 = .ok (.iconst 0, 1) := by decide +kernel
theorem dX1_add_21 : decode cX1_add 21 = .ok (.istore 12, 2) := by decide +kernel
theorem dX1_add_23 : decode cX1_add 23 = .ok (.iload 12, 2) := by decide +kernel
theorem dX1_add_25 : decode cX1_add 25 = .ok (.bipush 6, 2) := by decide +kernel
theorem dX1_add_27 : decode cX1_add 27 = .ok (.if_icmp .ge 36, 3) := by decide +kernel
theorem dX1_add_30 : decode cX1_add 30 = .ok (.lload 8, 2) := by decide +kernel
theorem dX1_add_32 : decode cX1_add 32 = .ok (.lload 10, 2) := by decide +kernel
theorem dX1_add_34 : decode cX1_add 34 = .ok (.lload 8, 2) := by decide +kernel
theorem dX1_add_36 : decode cX1_add 36 = .ok (.iconst 1, 1) := by decide +kernel
theorem dX1_add_37 : decode cX1_add 37 = .ok (.iload 12, 2) := by decide +kernel
theorem dX1_add_39 : decode cX1_add 39 = .ok (.ishl, 1) := by decide +kernel
theorem dX1_add_40 : decode cX1_add 40 = .ok (.lshl, 1) := by decide +kernel
theorem dX1_add_41 : decode cX1_add 41 = .ok (.land, 1) := by decide +kernel
theorem dX1_add_42 : decode cX1_add 42 = .ok (.lor, 1) := by decide +kernel
theorem dX1_add_43 : decode cX1_add 43 = .ok (.lstore 8, 2) := by decide +kernel
theorem dX1_add_45 : decode cX1_add 45 = .ok (.lload 10, 2) := by decide +kernel
theorem dX1_add_47 : decode cX1_add 47 = .ok (.lload 10, 2) := by decide +kernel
theorem dX1_add_49 : decode cX1_add 49 = .ok (.iconst 1, 1) := by decide +kernel
theorem dX1_add_50 : decode cX1_add 50 = .ok (.iload 12, 2) := by decide +kernel
theorem dX1_add_52 : decode cX1_add 52 = .ok (.ishl, 1) := by decide +kernel
theorem dX1_add_53 : decode cX1_add 53 = .ok (.lshl, 1) := by decide +kernel
theorem dX1_add_54 : decode cX1_add 54 = .ok (.land, 1) := by decide +kernel
theorem dX1_add_55 : decode cX1_add 55 = .ok (.lstore 10, 2) := by decide +kernel
theorem dX1_add_57 : decode cX1_add 57 = .ok (.iinc 12 1, 3) := by decide +kernel
theorem dX1_add_60 : decode cX1_add 60 = .ok (.goto (-37), 3) := by decide +kernel
theorem dX1_add_63 : decode cX1_add 63 = .ok (.lload 6, 2) := by decide +kernel
theorem dX1_add_65 : decode cX1_add 65 = .ok (.lload 8, 2) := by decide +kernel
theorem dX1_add_67 : decode cX1_add 67 = .ok (.iconst 1, 1) := by decide +kernel
theorem dX1_add_68 : decode cX1_add 68 = .ok (.lshl, 1) := by decide +kernel
theorem dX1_add_69 : decode cX1_add 69 = .ok (.lxor, 1) := by decide +kernel
theorem dX1_add_70 : decode cX1_add 70 = .ok (.lload 4, 2) := by decide +kernel
theorem dX1_add_72 : decode cX1_add 72 = .ok (.lxor, 1) := by decide +kernel
theorem dX1_add_73 : decode cX1_add 73 = .ok (.lreturn, 1) := by decide +kernel
theorem dX1_isNegative_0 : decode cX1_isNegative 0 = .ok (.lload_n 0, 1) := by decide +kernel
theorem dX1_isNegative_1 : decode cX1_isNegative 1 = .ok (.bipush 63, 2) := by decide +kernel
theorem dX1_isNegative_3 : decode cX1_isNegative 3 = .ok (.lushr, 1) := by decide +kernel
theorem dX1_isNegative_4 : decode cX1_isNegative 4 = .ok (.lreturn, 1) := by decide +kernel
theorem dX4_notANumber_0 : decode cX4_notANumber 0 = .ok (.new 8, 3) := by decide +kernel
theorem dX4_notANumber_3 : decode cX4_notANumber 3 = .ok (.dup, 1) := by decide +kernel
theorem dX4_notANumber_4 : decode cX4_notANumber 4 = .ok (.iconst 1, 1) := by decide +kernel
theorem dX4_notANumber_5 : decode cX4_notANumber 5 = .ok (.iconst 0, 1) := by decide +kernel
theorem dX4_notANumber_6 : decode cX4_notANumber 6 = .ok (.lconst 0, 1) := by decide +kernel
theorem dX4_notANumber_7 : decode cX4_notANumber 7 = .ok (.lconst 0, 1) := by decide +kernel
theorem dX4_notANumber_8 : decode cX4_notANumber 8 = .ok (.lconst 0, 1) := by decide +kernel
theorem dX4_notANumber_9 : decode cX4_notANumber 9 = .ok (.invokespecial 26, 3) := by decide +kernel
theorem dX4_notANumber_12 : decode cX4_notANumber 12 = .ok (.areturn, 1) := by decide +kernel
theorem dX4_init_0 : decode cX4_init 0 = .ok (.aload_n 0, 1) := by decide +kernel
theorem dX4_init_1 : decode cX4_init 1 = .ok (.invokespecial 1, 3) := by decide +kernel
theorem dX4_init_4 : decode cX4_init 4 = .ok (.aload_n 0, 1) := by decide +kernel
theorem dX4_init_5 : decode cX4_init 5 = .ok (.iload_n 1, 1) := by decide +kernel
theorem dX4_init_6 : decode cX4_init 6 = .ok (.putfield 7, 3) := by decide +kernel
theorem dX4_init_9 : decode cX4_init 9 = .ok (.aload_n 0, 1) := by decide +kernel
theorem dX4_init_10 : decode cX4_init 10 = .ok (.iload_n 2, 1) := by decide +kernel
theorem dX4_init_11 : decode cX4_init 11 = .ok (.putfield 13, 3) := by decide +kernel
theorem dX4_init_14 : decode cX4_init 14 = .ok (.aload_n 0, 1) := by decide +kernel
theorem dX4_init_15 : decode cX4_init 15 = .ok (.lload_n 3, 1) := by decide +kernel
theorem dX4_init_16 : decode cX4_init 16 = .ok (.putfield 16, 3) := by decide +kernel
theorem dX4_init_19 : decode cX4_init 19 = .ok (.aload_n 0, 1) := by decide +kernel
theorem dX4_init_20 : decode cX4_init 20 = .ok (.lload 5, 2) := by decide +kernel
theorem dX4_init_22 : decode cX4_init 22 = .ok (.putfield 20, 3) := by decide +kernel
theorem dX4_init_25 : decode cX4_init 25 = .ok (.aload_n 0, 1) := by decide +kernel
theorem dX4_init_26 : decode cX4_init 26 = .ok (.lload 7, 2) := by decide +kernel
theorem dX4_init_28 : decode cX4_init 28 = .ok (.putfield 23, 3) := by decide +kernel
theorem dX4_init_31 : decode cX4_init 31 = .ok (.return_, 1) := by decide +kernel
theorem dX1_any_0 : decode cX1_any 0 = .ok (.lload_n 0, 1) := by decide +kernel
theorem dX1_any_1 : decode cX1_any 1 = .ok (.lstore_n 2, 1) := by decide +kernel
theorem dX1_any_2 : decode cX1_any 2 = .ok (.iconst 0, 1) := by decide +kernel
theorem dX1_any_3 : decode cX1_any 3 = .ok (.istore 4, 2) := by decide +kernel
theorem dX1_any_5 : decode cX1_any 5 = .ok (.iload 4, 2) := by decide +kernel
theorem dX1_any_7 : decode cX1_any 7 = .ok (.bipush 6, 2) := by decide +kernel
theorem dX1_any_9 : decode cX1_any 9 = .ok (.if_icmp .ge 18, 3) := by decide +kernel
theorem dX1_any_12 : decode cX1_any 12 = .ok (.lload_n 2, 1) := by decide +kernel
theorem dX1_any_13 : decode cX1_any 13 = .ok (.lload_n 2, 1) := by decide +kernel
theorem dX1_any_14 : decode cX1_any 14 = .ok (.iconst 1, 1) := by decide +kernel
theorem dX1_any_15 : decode cX1_any 15 = .ok (.iload 4, 2) := by decide +kernel
theorem dX1_any_17 : decode cX1_any 17 = .ok (.ishl, 1) := by decide +kernel
theorem dX1_any_18 : decode cX1_any 18 = .ok (.lushr, 1) := by decide +kernel
theorem dX1_any_19 : decode cX1_any 19 = .ok (.lor, 1) := by decide +kernel
theorem dX1_any_20 : decode cX1_any 20 = .ok (.lstore_n 2, 1) := by decide +kernel
theorem dX1_any_21 : decode cX1_any 21 = .ok (.iinc 4 1, 3) := by decide +kernel
theorem dX1_any_24 : decode cX1_any 24 = .ok (.goto (-19), 3) := by decide +kernel
theorem dX1_any_27 : decode cX1_any 27 = .ok (.lload_n 2, 1) := by decide +kernel
theorem dX1_any_28 : decode cX1_any 28 = .ok (.lconst 1, 1) := by decide +kernel
theorem dX1_any_29 : decode cX1_any 29 = .ok (.land, 1) := by decide +kernel
theorem dX1_any_30 : decode cX1_any 30 = .ok (.lreturn, 1) := by decide +kernel
theorem dX4_infinity_0 : decode cX4_infinity 0 = .ok (.new 8, 3) := by decide +kernel
theorem dX4_infinity_3 : decode cX4_infinity 3 = .ok (.dup, 1) := by decide +kernel
theorem dX4_infinity_4 : decode cX4_infinity 4 = .ok (.iconst 0, 1) := by decide +kernel
theorem dX4_infinity_5 : decode cX4_infinity 5 = .ok (.iconst 1, 1) := by decide +kernel
theorem dX4_infinity_6 : decode cX4_infinity 6 = .ok (.lload_n 0, 1) := by decide +kernel
theorem dX4_infinity_7 : decode cX4_infinity 7 = .ok (.lconst 0, 1) := by decide +kernel
theorem dX4_infinity_8 : decode cX4_infinity 8 = .ok (.lconst 0, 1) := by decide +kernel
theorem dX4_infinity_9 : decode cX4_infinity 9 = .ok (.invokespecial 26, 3) := by decide +kernel
theorem dX4_infinity_12 : decode cX4_infinity 12 = .ok (.areturn, 1) := by decide +kernel
theorem dX1_ones_0 : decode cX1_ones 0 = .ok (.ldc2_w 7, 3) := by decide +kernel
theorem dX1_ones_3 : decode cX1_ones 3 = .ok (.iload_n 0, 1) := by decide +kernel
theorem dX1_ones_4 : decode cX1_ones 4 = .ok (.lshl, 1) := by decide +kernel
theorem dX1_ones_5 : decode cX1_ones 5 = .ok (.ldc2_w 7, 3) := by decide +kernel
theorem dX1_ones_8 : decode cX1_ones 8 = .ok (.lxor, 1) := by decide +kernel
theorem dX1_ones_9 : decode cX1_ones 9 = .ok (.lreturn, 1) := by decide +kernel
theorem dX1_sum_0 : decode cX1_sum 0 = .ok (.lload_n 0, 1) := by decide +kernel
theorem dX1_sum_1 : decode cX1_sum 1 = .ok (.lload_n 2, 1) := by decide +kernel
theorem dX1_sum_2 : decode cX1_sum 2 = .ok (.lconst 0, 1) := by decide +kernel
theorem dX1_sum_3 : decode cX1_sum 3 = .ok (.invokestatic 15, 3) := by decide +kernel
theorem dX1_sum_6 : decode cX1_sum 6 = .ok (.lreturn, 1) := by decide +kernel
end
section
theorem dX4_finite_0 : decode cX4_finite 0 = .ok (.new 8, 3) := by decide +kernel
theorem dX4_finite_3 : decode cX4_finite 3 = .ok (.dup, 1) := by decide +kernel
theorem dX4_finite_4 : decode cX4_finite 4 = .ok (.iconst 0, 1) := by decide +kernel
theorem dX4_finite_5 : decode cX4_finite 5 = .ok (.iconst 0, 1) := by decide +kernel
theorem dX4_finite_6 : decode cX4_finite 6 = .ok (.lload_n 0, 1) := by decide +kernel
theorem dX4_finite_7 : decode cX4_finite 7 = .ok (.lload_n 2, 1) := by decide +kernel
theorem dX4_finite_8 : decode cX4_finite 8 = .ok (.lload 4, 2) := by decide +kernel
theorem dX4_finite_10 : decode cX4_finite 10 = .ok (.invokespecial 26, 3) := by decide +kernel
theorem dX4_finite_13 : decode cX4_finite 13 = .ok (.areturn, 1) := by decide +kernel
theorem dX2_sum_0 : decode cX2_sum 0 = .ok (.aload_n 1, 1) := by decide +kernel
theorem dX2_sum_1 : decode cX2_sum 1 = .ok (.getfield 9, 3) := by decide +kernel
theorem dX2_sum_4 : decode cX2_sum 4 = .ok (.ifCond .ne 10, 3) := by decide +kernel
theorem dX2_sum_7 : decode cX2_sum 7 = .ok (.aload_n 2, 1) := by decide +kernel
theorem dX2_sum_8 : decode cX2_sum 8 = .ok (.getfield 9, 3) := by decide +kernel
theorem dX2_sum_11 : decode cX2_sum 11 = .ok (.ifCond .eq 7, 3) := by decide +kernel
theorem dX2_sum_14 : decode cX2_sum 14 = .ok (.invokestatic 15, 3) := by decide +kernel
theorem dX2_sum_17 : decode cX2_sum 17 = .ok (.areturn, 1) := by decide +kernel
theorem dX2_sum_18 : decode cX2_sum 18 = .ok (.aload_n 1, 1) := by decide +kernel
theorem dX2_sum_19 : decode cX2_sum 19 = .ok (.getfield 19, 3) := by decide +kernel
theorem dX2_sum_22 : decode cX2_sum 22 = .ok (.ifCond .eq 26, 3) := by decide +kernel
theorem dX2_sum_25 : decode cX2_sum 25 = .ok (.aload_n 2, 1) := by decide +kernel
theorem dX2_sum_26 : decode cX2_sum 26 = .ok (.getfield 19, 3) := by decide +kernel
theorem dX2_sum_29 : decode cX2_sum 29 = .ok (.ifCond .eq 19, 3) := by decide +kernel
theorem dX2_sum_32 : decode cX2_sum 32 = .ok (.aload_n 1, 1) := by decide +kernel
theorem dX2_sum_33 : decode cX2_sum 33 = .ok (.getfield 22, 3) := by decide +kernel
theorem dX2_sum_36 : decode cX2_sum 36 = .ok (.aload_n 2, 1) := by decide +kernel
theorem dX2_sum_37 : decode cX2_sum 37 = .ok (.getfield 22, 3) := by decide +kernel
theorem dX2_sum_40 : decode cX2_sum 40 = .ok (.lcmp, 1) := by decide +kernel
theorem dX2_sum_41 : decode cX2_sum 41 = .ok (.ifCond .eq 7, 3) := by decide +kernel
theorem dX2_sum_44 : decode cX2_sum 44 = .ok (.invokestatic 15, 3) := by decide +kernel
theorem dX2_sum_47 : decode cX2_sum 47 = .ok (.areturn, 1) := by decide +kernel
theorem dX2_sum_48 : decode cX2_sum 48 = .ok (.aload_n 1, 1) := by decide +kernel
theorem dX2_sum_49 : decode cX2_sum 49 = .ok (.getfield 19, 3) := by decide +kernel
theorem dX2_sum_52 : decode cX2_sum 52 = .ok (.ifCond .ne 10, 3) := by decide +kernel
theorem dX2_sum_55 : decode cX2_sum 55 = .ok (.aload_n 2, 1) := by decide +kernel
theorem dX2_sum_56 : decode cX2_sum 56 = .ok (.getfield 19, 3) := by decide +kernel
theorem dX2_sum_59 : decode cX2_sum 59 = .ok (.ifCond .eq 16, 3) := by decide +kernel
theorem dX2_sum_62 : decode cX2_sum 62 = .ok (.aload_n 1, 1) := by decide +kernel
theorem dX2_sum_63 : decode cX2_sum 63 = .ok (.getfield 19, 3) := by decide +kernel
theorem dX2_sum_66 : decode cX2_sum 66 = .ok (.ifCond .eq 7, 3) := by decide +kernel
theorem dX2_sum_69 : decode cX2_sum 69 = .ok (.aload_n 1, 1) := by decide +kernel
theorem dX2_sum_70 : decode cX2_sum 70 = .ok (.goto 4, 3) := by decide +kernel
theorem dX2_sum_73 : decode cX2_sum 73 = .ok (.aload_n 2, 1) := by decide +kernel
theorem dX2_sum_74 : decode cX2_sum 74 = .ok (.areturn, 1) := by decide +kernel
theorem dX2_sum_75 : decode cX2_sum 75 = .ok (.aload_n 1, 1) := by decide +kernel
theorem dX2_sum_76 : decode cX2_sum 76 = .ok (.getfield 26, 3) := by decide +kernel
theorem dX2_sum_79 : decode cX2_sum 79 = .ok (.aload_n 2, 1) := by decide +kernel
theorem dX2_sum_80 : decode cX2_sum 80 = .ok (.getfield 26, 3) := by decide +kernel
theorem dX2_sum_83 : decode cX2_sum 83 = .ok (.invokestatic 29, 3) := by decide +kernel
theorem dX2_sum_86 : decode cX2_sum 86 = .ok (.aload_n 1, 1) := by decide +kernel
theorem dX2_sum_87 : decode cX2_sum 87 = .ok (.getfield 26, 3) := by decide +kernel
theorem dX2_sum_90 : decode cX2_sum 90 = .ok (.aload_n 2, 1) := by decide +kernel
theorem dX2_sum_91 : decode cX2_sum 91 = .ok (.getfield 26, 3) := by decide +kernel
theorem dX2_sum_94 : decode cX2_sum 94 = .ok (.invokestatic 35, 3) := by decide +kernel
theorem dX2_sum_97 : decode cX2_sum 97 = .ok (.lstore_n 3, 1) := by decide +kernel
theorem dX2_sum_98 : decode cX2_sum 98 = .ok (.lload_n 3, 1) := by decide +kernel
theorem dX2_sum_99 : decode cX2_sum 99 = .ok (.aload_n 1, 1) := by decide +kernel
theorem dX2_sum_100 : decode cX2_sum 100 = .ok (.invokestatic 39, 3) := by decide +kernel
theorem dX2_sum_103 : decode cX2_sum 103 = .ok (.lload_n 3, 1) := by decide +kernel
theorem dX2_sum_104 : decode cX2_sum 104 = .ok (.aload_n 2, 1) := by decide +kernel
theorem dX2_sum_105 : decode cX2_sum 105 = .ok (.invokestatic 39, 3) := by decide +kernel
theorem dX2_sum_108 : decode cX2_sum 108 = .ok (.invokestatic 45, 3) := by decide +kernel
theorem dX2_sum_111 : decode cX2_sum 111 = .ok (.lstore 5, 2) := by decide +kernel
theorem dX2_sum_113 : decode cX2_sum 113 = .ok (.lload 5, 2) := by decide +kernel
theorem dX2_sum_115 : decode cX2_sum 115 = .ok (.invokestatic 48, 3) := by decide +kernel
theorem dX2_sum_118 : decode cX2_sum 118 = .ok (.lconst 0, 1) := by decide +kernel
theorem dX2_sum_119 : decode cX2_sum 119 = .ok (.lcmp, 1) := by decide +kernel
theorem dX2_sum_120 : decode cX2_sum 120 = .ok (.ifCond .ne 21, 3) := by decide +kernel
theorem dX2_sum_123 : decode cX2_sum 123 = .ok (.iload_n 0, 1) := by decide +kernel
theorem dX2_sum_124 : decode cX2_sum 124 = .ok (.aload_n 1, 1) := by decide +kernel
theorem dX2_sum_125 : decode cX2_sum 125 = .ok (.getfield 22, 3) := by decide +kernel
theorem dX2_sum_128 : decode cX2_sum 128 = .ok (.aload_n 2, 1) := by decide +kernel
theorem dX2_sum_129 : decode cX2_sum 129 = .ok (.getfield 22, 3) := by decide +kernel
theorem dX2_sum_132 : decode cX2_sum 132 = .ok (.invokestatic 52, 3) := by decide +kernel
theorem dX2_sum_135 : decode cX2_sum 135 = .ok (.lconst 0, 1) := by decide +kernel
theorem dX2_sum_136 : decode cX2_sum 136 = .ok (.lconst 0, 1) := by decide +kernel
theorem dX2_sum_137 : decode cX2_sum 137 = .ok (.invokestatic 56, 3) := by decide +kernel
theorem dX2_sum_140 : decode cX2_sum 140 = .ok (.areturn, 1) := by decide +kernel
theorem dX2_sum_141 : decode cX2_sum 141 = .ok (.lload 5, 2) := by decide +kernel
theorem dX2_sum_143 : decode cX2_sum 143 = .ok (.invokestatic 60, 3) := by decide +kernel
theorem dX2_sum_146 : decode cX2_sum 146 = .ok (.lstore 7, 2) := by decide +kernel
theorem dX2_sum_148 : decode cX2_sum 148 = .ok (.lload 7, 2) := by decide +kernel
theorem dX2_sum_150 : decode cX2_sum 150 = .ok (.lload_n 3, 1) := by decide +kernel
theorem dX2_sum_151 : decode cX2_sum 151 = .ok (.lload 7, 2) := by decide +kernel
theorem dX2_sum_153 : decode cX2_sum 153 = .ok (.lload 5, 2) := by decide +kernel
theorem dX2_sum_155 : decode cX2_sum 155 = .ok (.invokestatic 63, 3) := by decide +kernel
theorem dX2_sum_158 : decode cX2_sum 158 = .ok (.invokestatic 56, 3) := by decide +kernel
theorem dX2_sum_161 : decode cX2_sum 161 = .ok (.areturn, 1) := by decide +kernel
theorem dX1_choose_0 : decode cX1_choose 0 = .ok (.lload_n 0, 1) := by decide +kernel
theorem dX1_choose_1 : decode cX1_choose 1 = .ok (.invokestatic 11, 3) := by decide +kernel
theorem dX1_choose_4 : decode cX1_choose 4 = .ok (.lstore 6, 2) := by decide +kernel
theorem dX1_choose_6 : decode cX1_choose 6 = .ok (.lload_n 2, 1) := by decide +kernel
theorem dX1_choose_7 : decode cX1_choose 7 = .ok (.lload 6, 2) := by decide +kernel
theorem dX1_choose_9 : decode cX1_choose 9 = .ok (.land, 1) := by decide +kernel
theorem dX1_choose_10 : decode cX1_choose 10 = .ok (.lload 4, 2) := by decide +kernel
theorem dX1_choose_12 : decode cX1_choose 12 = .ok (.lload 6, 2) := by decide +kernel
theorem dX1_choose_14 : decode cX1_choose 14 = .ok (.ldc2_w 7, 3) := by decide +kernel
theorem dX1_choose_17 : decode cX1_choose 17 = .ok (.lxor, 1) := by decide +kernel
theorem dX1_choose_18 : decode cX1_choose 18 = .ok (.land, 1) := by decide +kernel
theorem dX1_choose_19 : decode cX1_choose 19 = .ok (.lor, 1) := by decide +kernel
theorem dX1_choose_20 : decode cX1_choose 20 = .ok (.lreturn, 1) := by decide +kernel
theorem dX1_fan_0 : decode cX1_fan 0 = .ok (.lload_n 0, 1) := by decide +kernel
theorem dX1_fan_1 : decode cX1_fan 1 = .ok (.bipush 63, 2) := by decide +kernel
theorem dX1_fan_3 : decode cX1_fan 3 = .ok (.lshl, 1) := by decide +kernel
theorem dX1_fan_4 : decode cX1_fan 4 = .ok (.bipush 63, 2) := by decide +kernel
theorem dX1_fan_6 : decode cX1_fan 6 = .ok (.lshr, 1) := by decide +kernel
theorem dX1_fan_7 : decode cX1_fan 7 = .ok (.lreturn, 1) := by decide +kernel
theorem dX2_signedAt_0 : decode cX2_signedAt 0 = .ok (.aload_n 2, 1) := by decide +kernel
theorem dX2_signedAt_1 : decode cX2_signedAt 1 = .ok (.getfield 26, 3) := by decide +kernel
theorem dX2_signedAt_4 : decode cX2_signedAt 4 = .ok (.lload_n 0, 1) := by decide +kernel
theorem dX2_signedAt_5 : decode cX2_signedAt 5 = .ok (.invokestatic 66, 3) := by decide +kernel
theorem dX2_signedAt_8 : decode cX2_signedAt 8 = .ok (.lstore_n 3, 1) := by decide +kernel
theorem dX2_signedAt_9 : decode cX2_signedAt 9 = .ok (.aload_n 2, 1) := by decide +kernel
theorem dX2_signedAt_10 : decode cX2_signedAt 10 = .ok (.getfield 22, 3) := by decide +kernel
theorem dX2_signedAt_13 : decode cX2_signedAt 13 = .ok (.aload_n 2, 1) := by decide +kernel
theorem dX2_signedAt_14 : decode cX2_signedAt 14 = .ok (.getfield 69, 3) := by decide +kernel
theorem dX2_signedAt_17 : decode cX2_signedAt 17 = .ok (.lload_n 3, 1) := by decide +kernel
theorem dX2_signedAt_18 : decode cX2_signedAt 18 = .ok (.invokestatic 72, 3) := by decide +kernel
theorem dX2_signedAt_21 : decode cX2_signedAt 21 = .ok (.invokestatic 63, 3) := by decide +kernel
theorem dX2_signedAt_24 : decode cX2_signedAt 24 = .ok (.lreturn, 1) := by decide +kernel
theorem dX1_shiftLeft_0 : decode cX1_shiftLeft 0 = .ok (.lload_n 0, 1) := by decide +kernel
theorem dX1_shiftLeft_1 : decode cX1_shiftLeft 1 = .ok (.lstore 4, 2) := by decide +kernel
theorem dX1_shiftLeft_3 : decode cX1_shiftLeft 3 = .ok (.iconst 0, 1) := by decide +kernel
theorem dX1_shiftLeft_4 : decode cX1_shiftLeft 4 = .ok (.istore 6, 2) := by decide +kernel
theorem dX1_shiftLeft_6 : decode cX1_shiftLeft 6 = .ok (.iload 6, 2) := by decide +kernel
theorem dX1_shiftLeft_8 : decode cX1_shiftLeft 8 = .ok (.bipush 6, 2) := by decide +kernel
theorem dX1_shiftLeft_10 : decode cX1_shiftLeft 10 = .ok (.if_icmp .ge 27, 3) := by decide +kernel
theorem dX1_shiftLeft_13 : decode cX1_shiftLeft 13 = .ok (.lload_n 2, 1) := by decide +kernel
theorem dX1_shiftLeft_14 : decode cX1_shiftLeft 14 = .ok (.iload 6, 2) := by decide +kernel
theorem dX1_shiftLeft_16 : decode cX1_shiftLeft 16 = .ok (.lushr, 1) := by decide +kernel
theorem dX1_shiftLeft_17 : decode cX1_shiftLeft 17 = .ok (.lload 4, 2) := by decide +kernel
theorem dX1_shiftLeft_19 : decode cX1_shiftLeft 19 = .ok (.iconst 1, 1) := by decide +kernel
theorem dX1_shiftLeft_20 : decode cX1_shiftLeft 20 = .ok (.iload 6, 2) := by decide +kernel
theorem dX1_shiftLeft_22 : decode cX1_shiftLeft 22 = .ok (.ishl, 1) := by decide +kernel
theorem dX1_shiftLeft_23 : decode cX1_shiftLeft 23 = .ok (.lshl, 1) := by decide +kernel
theorem dX1_shiftLeft_24 : decode cX1_shiftLeft 24 = .ok (.lload 4, 2) := by decide +kernel
theorem dX1_shiftLeft_26 : decode cX1_shiftLeft 26 = .ok (.invokestatic 26, 3) := by decide +kernel
theorem dX1_shiftLeft_29 : decode cX1_shiftLeft 29 = .ok (.lstore 4, 2) := by decide +kernel
theorem dX1_shiftLeft_31 : decode cX1_shiftLeft 31 = .ok (.iinc 6 1, 3) := by decide +kernel
theorem dX1_shiftLeft_34 : decode cX1_shiftLeft 34 = .ok (.goto (-28), 3) := by decide +kernel
theorem dX1_shiftLeft_37 : decode cX1_shiftLeft 37 = .ok (.lload 4, 2) := by decide +kernel
theorem dX1_shiftLeft_39 : decode cX1_shiftLeft 39 = .ok (.lreturn, 1) := by decide +kernel
theorem dX1_negateIf_0 : decode cX1_negateIf 0 = .ok (.lload_n 2, 1) := by decide +kernel
theorem dX1_negateIf_1 : decode cX1_negateIf 1 = .ok (.lload_n 0, 1) := by decide +kernel
theorem dX1_negateIf_2 : decode cX1_negateIf 2 = .ok (.invokestatic 11, 3) := by decide +kernel
theorem dX1_negateIf_5 : decode cX1_negateIf 5 = .ok (.lxor, 1) := by decide +kernel
theorem dX1_negateIf_6 : decode cX1_negateIf 6 = .ok (.lconst 0, 1) := by decide +kernel
theorem dX1_negateIf_7 : decode cX1_negateIf 7 = .ok (.lload_n 0, 1) := by decide +kernel
theorem dX1_negateIf_8 : decode cX1_negateIf 8 = .ok (.invokestatic 15, 3) := by decide +kernel
theorem dX1_negateIf_11 : decode cX1_negateIf 11 = .ok (.lreturn, 1) := by decide +kernel
theorem dX2_signOfZeroSum_0 : decode cX2_signOfZeroSum 0 = .ok (.iload_n 0, 1) := by decide +kernel
theorem dX2_signOfZeroSum_1 : decode cX2_signOfZeroSum 1 = .ok (.iconst 3, 1) := by decide +kernel
theorem dX2_signOfZeroSum_2 : decode cX2_signOfZeroSum 2 = .ok (.if_icmp .ne 9, 3) := by decide +kernel
theorem dX2_signOfZeroSum_5 : decode cX2_signOfZeroSum 5 = .ok (.lload_n 1, 1) := by decide +kernel
theorem dX2_signOfZeroSum_6 : decode cX2_signOfZeroSum 6 = .ok (.lload_n 3, 1) := by decide +kernel
theorem dX2_signOfZeroSum_7 : decode cX2_signOfZeroSum 7 = .ok (.lor, 1) := by decide +kernel
theorem dX2_signOfZeroSum_8 : decode cX2_signOfZeroSum 8 = .ok (.goto 6, 3) := by decide +kernel
theorem dX2_signOfZeroSum_11 : decode cX2_signOfZeroSum 11 = .ok (.lload_n 1, 1) := by decide +kernel
theorem dX2_signOfZeroSum_12 : decode cX2_signOfZeroSum 12 = .ok (.lload_n 3, 1) := by decide +kernel
theorem dX2_signOfZeroSum_13 : decode cX2_signOfZeroSum 13 = .ok (.land, 1) := by decide +kernel
theorem dX2_signOfZeroSum_14 : decode cX2_signOfZeroSum 14 = .ok (.lreturn, 1) := by decide +kernel
theorem dX0_pack_0 : decode cX0_pack 0 = .ok (.aload_n 2, 1) := by decide +kernel
theorem dX0_pack_1 : decode cX0_pack 1 = .ok (.getfield 80, 3) := by decide +kernel
theorem dX0_pack_4 : decode cX0_pack 4 = .ok (.ifCond .eq 8, 3) := by decide +kernel
theorem dX0_pack_7 : decode cX0_pack 7 = .ok (.aload_n 0, 1) := by decide +kernel
theorem dX0_pack_8 : decode cX0_pack 8 = .ok (.getfield 22, 3) := by decide +kernel
theorem dX0_pack_11 : decode cX0_pack 11 = .ok (.ireturn, 1) := by decide +kernel
theorem dX0_pack_12 : decode cX0_pack 12 = .ok (.aload_n 2, 1) := by decide +kernel
theorem dX0_pack_13 : decode cX0_pack 13 = .ok (.getfield 83, 3) := by decide +kernel
theorem dX0_pack_16 : decode cX0_pack 16 = .ok (.ifCond .eq 17, 3) := by decide +kernel
theorem dX0_pack_19 : decode cX0_pack 19 = .ok (.aload_n 0, 1) := by decide +kernel
theorem dX0_pack_20 : decode cX0_pack 20 = .ok (.aload_n 2, 1) := by decide +kernel
theorem dX0_pack_21 : decode cX0_pack 21 = .ok (.getfield 86, 3) := by decide +kernel
theorem dX0_pack_24 : decode cX0_pack 24 = .ok (.aload_n 0, 1) := by decide +kernel
theorem dX0_pack_25 : decode cX0_pack 25 = .ok (.getfield 19, 3) := by decide +kernel
theorem dX0_pack_28 : decode cX0_pack 28 = .ok (.i2l, 1) := by decide +kernel
theorem dX0_pack_29 : decode cX0_pack 29 = .ok (.invokevirtual 90, 3) := by decide +kernel
theorem dX0_pack_32 : decode cX0_pack 32 = .ok (.ireturn, 1) := by decide +kernel
theorem dX0_pack_33 : decode cX0_pack 33 = .ok (.aload_n 2, 1) := by decide +kernel
theorem dX0_pack_34 : decode cX0_pack 34 = .ok (.invokevirtual 94, 3) := by decide +kernel
theorem dX0_pack_37 : decode cX0_pack 37 = .ok (.ifCond .eq 13, 3) := by decide +kernel
theorem dX0_pack_40 : decode cX0_pack 40 = .ok (.aload_n 0, 1) := by decide +kernel
theorem dX0_pack_41 : decode cX0_pack 41 = .ok (.aload_n 2, 1) := by decide +kernel
theorem dX0_pack_42 : decode cX0_pack 42 = .ok (.getfield 86, 3) := by decide +kernel
theorem dX0_pack_45 : decode cX0_pack 45 = .ok (.lconst 0, 1) := by decide +kernel
theorem dX0_pack_46 : decode cX0_pack 46 = .ok (.invokevirtual 90, 3) := by decide +kernel
theorem dX0_pack_49 : decode cX0_pack 49 = .ok (.ireturn, 1) := by decide +kernel
theorem dX0_pack_50 : decode cX0_pack 50 = .ok (.aload_n 0, 1) := by decide +kernel
theorem dX0_pack_51 : decode cX0_pack 51 = .ok (.iload_n 1, 1) := by decide +kernel
theorem dX0_pack_52 : decode cX0_pack 52 = .ok (.aload_n 2, 1) := by decide +kernel
theorem dX0_pack_53 : decode cX0_pack 53 = .ok (.invokevirtual 98, 3) := by decide +kernel
theorem dX0_pack_56 : decode cX0_pack 56 = .ok (.lstore_n 3, 1) := by decide +kernel
theorem dX0_pack_57 : decode cX0_pack 57 = .ok (.lload_n 3, 1) := by decide +kernel
theorem dX0_pack_58 : decode cX0_pack 58 = .ok (.aload_n 0, 1) := by decide +kernel
theorem dX0_pack_59 : decode cX0_pack 59 = .ok (.getfield 19, 3) := by decide +kernel
theorem dX0_pack_62 : decode cX0_pack 62 = .ok (.i2l, 1) := by decide +kernel
theorem dX0_pack_63 : decode cX0_pack 63 = .ok (.invokestatic 38, 3) := by decide +kernel
theorem dX0_pack_66 : decode cX0_pack 66 = .ok (.lconst 1, 1) := by decide +kernel
theorem dX0_pack_67 : decode cX0_pack 67 = .ok (.lcmp, 1) := by decide +kernel
theorem dX0_pack_68 : decode cX0_pack 68 = .ok (.ifCond .ne 13, 3) := by decide +kernel
theorem dX0_pack_71 : decode cX0_pack 71 = .ok (.aload_n 0, 1) := by decide +kernel
theorem dX0_pack_72 : decode cX0_pack 72 = .ok (.aload_n 2, 1) := by decide +kernel
theorem dX0_pack_73 : decode cX0_pack 73 = .ok (.getfield 86, 3) := by decide +kernel
theorem dX0_pack_76 : decode cX0_pack 76 = .ok (.lload_n 3, 1) := by decide +kernel
theorem dX0_pack_77 : decode cX0_pack 77 = .ok (.invokevirtual 90, 3) := by decide +kernel
theorem dX0_pack_80 : decode cX0_pack 80 = .ok (.ireturn, 1) := by decide +kernel
theorem dX0_pack_81 : decode cX0_pack 81 = .ok (.iload_n 1, 1) := by decide +kernel
theorem dX0_pack_82 : decode cX0_pack 82 = .ok (.aload_n 2, 1) := by decide +kernel
theorem dX0_pack_83 : decode cX0_pack 83 = .ok (.getfield 86, 3) := by decide +kernel
theorem dX0_pack_86 : decode cX0_pack 86 = .ok (.invokestatic 102, 3) := by decide +kernel
theorem dX0_pack_89 : decode cX0_pack 89 = .ok (.istore 5, 2) := by decide +kernel
theorem dX0_pack_91 : decode cX0_pack 91 = .ok (.aload_n 0, 1) := by decide +kernel
theorem dX0_pack_92 : decode cX0_pack 92 = .ok (.aload_n 2, 1) := by decide +kernel
theorem dX0_pack_93 : decode cX0_pack 93 = .ok (.getfield 86, 3) := by decide +kernel
theorem dX0_pack_96 : decode cX0_pack 96 = .ok (.iload 5, 2) := by decide +kernel
theorem dX0_pack_98 : decode cX0_pack 98 = .ok (.ifCond .eq 11, 3) := by decide +kernel
theorem dX0_pack_101 : decode cX0_pack 101 = .ok (.aload_n 0, 1) := by decide +kernel
theorem dX0_pack_102 : decode cX0_pack 102 = .ok (.getfield 19, 3) := by decide +kernel
theorem dX0_pack_105 : decode cX0_pack 105 = .ok (.i2l, 1) := by decide +kernel
theorem dX0_pack_106 : decode cX0_pack 106 = .ok (.goto 10, 3) := by decide +kernel
theorem dX0_pack_109 : decode cX0_pack 109 = .ok (.aload_n 0, 1) := by decide +kernel
theorem dX0_pack_110 : decode cX0_pack 110 = .ok (.getfield 19, 3) := by decide +kernel
theorem dX0_pack_113 : decode cX0_pack 113 = .ok (.iconst 1, 1) := by decide +kernel
theorem dX0_pack_114 : decode cX0_pack 114 = .ok (.isub, 1) := by decide +kernel
theorem dX0_pack_115 : decode cX0_pack 115 = .ok (.i2l, 1) := by decide +kernel
theorem dX0_pack_116 : decode cX0_pack 116 = .ok (.invokevirtual 90, 3) := by decide +kernel
theorem dX0_pack_119 : decode cX0_pack 119 = .ok (.ireturn, 1) := by decide +kernel
theorem dX0_signed_0 : decode cX0_signed 0 = .ok (.lload_n 3, 1) := by decide +kernel
theorem dX0_signed_1 : decode cX0_signed 1 = .ok (.lload_n 1, 1) := by decide +kernel
theorem dX0_signed_2 : decode cX0_signed 2 = .ok (.aload_n 0, 1) := by decide +kernel
theorem dX0_signed_3 : decode cX0_signed 3 = .ok (.getfield 7, 3) := by decide +kernel
theorem dX0_signed_6 : decode cX0_signed 6 = .ok (.iconst 1, 1) := by decide +kernel
theorem dX0_signed_7 : decode cX0_signed 7 = .ok (.isub, 1) := by decide +kernel
theorem dX0_signed_8 : decode cX0_signed 8 = .ok (.lshl, 1) := by decide +kernel
theorem dX0_signed_9 : decode cX0_signed 9 = .ok (.lor, 1) := by decide +kernel
theorem dX0_signed_10 : decode cX0_signed 10 = .ok (.l2i, 1) := by decide +kernel
theorem dX0_signed_11 : decode cX0_signed 11 = .ok (.ireturn, 1) := by decide +kernel
theorem dX4_isZero_0 : decode cX4_isZero 0 = .ok (.aload_n 0, 1) := by decide +kernel
theorem dX4_isZero_1 : decode cX4_isZero 1 = .ok (.getfield 7, 3) := by decide +kernel
theorem dX4_isZero_4 : decode cX4_isZero 4 = .ok (.ifCond .ne 26, 3) := by decide +kernel
theorem dX4_isZero_7 : decode cX4_isZero 7 = .ok (.aload_n 0, 1) := by decide +kernel
theorem dX4_isZero_8 : decode cX4_isZero 8 = .ok (.getfield 13, 3) := by decide +kernel
theorem dX4_isZero_11 : decode cX4_isZero 11 = .ok (.ifCond .ne 19, 3) := by decide +kernel
theorem dX4_isZero_14 : decode cX4_isZero 14 = .ok (.aload_n 0, 1) := by decide +kernel
theorem dX4_isZero_15 : decode cX4_isZero 15 = .ok (.getfield 23, 3) := by decide +kernel
theorem dX4_isZero_18 : decode cX4_isZero 18 = .ok (.invokestatic 29, 3) := by decide +kernel
theorem dX4_isZero_21 : decode cX4_isZero 21 = .ok (.lconst 0, 1) := by decide +kernel
theorem dX4_isZero_22 : decode cX4_isZero 22 = .ok (.lcmp, 1) := by decide +kernel
theorem dX4_isZero_23 : decode cX4_isZero 23 = .ok (.ifCond .ne 7, 3) := by decide +kernel
theorem dX4_isZero_26 : decode cX4_isZero 26 = .ok (.iconst 1, 1) := by decide +kernel
theorem dX4_isZero_27 : decode cX4_isZero 27 = .ok (.goto 4, 3) := by decide +kernel
theorem dX4_isZero_30 : decode cX4_isZero 30 = .ok (.iconst 0, 1) := by decide +kernel
theorem dX4_isZero_31 : decode cX4_isZero 31 = .ok (.ireturn, 1) := by decide +kernel
theorem dX0_packMagnitude_0 : decode cX0_packMagnitude 0 = .ok (.aload_n 2, 1) := by decide +kernel
theorem dX0_packMagnitude_1 : decode cX0_packMagnitude 1 = .ok (.getfield 108, 3) := by decide +kernel
theorem dX0_packMagnitude_4 : decode cX0_packMagnitude 4 = .ok (.aload_n 2, 1) := by decide +kernel
theorem dX0_packMagnitude_5 : decode cX0_packMagnitude 5 = .ok (.getfield 111, 3) := by decide +kernel
theorem dX0_packMagnitude_8 : decode cX0_packMagnitude 8 = .ok (.invokestatic 114, 3) := by decide +kernel
theorem dX0_packMagnitude_11 : decode cX0_packMagnitude 11 = .ok (.invokestatic 73, 3) := by decide +kernel
theorem dX0_packMagnitude_14 : decode cX0_packMagnitude 14 = .ok (.lstore_n 3, 1) := by decide +kernel
theorem dX0_packMagnitude_15 : decode cX0_packMagnitude 15 = .ok (.lload_n 3, 1) := by decide +kernel
theorem dX0_packMagnitude_16 : decode cX0_packMagnitude 16 = .ok (.aload_n 0, 1) := by decide +kernel
theorem dX0_packMagnitude_17 : decode cX0_packMagnitude 17 = .ok (.getfield 13, 3) := by decide +kernel
theorem dX0_packMagnitude_20 : decode cX0_packMagnitude 20 = .ok (.i2l, 1) := by decide +kernel
theorem dX0_packMagnitude_21 : decode cX0_packMagnitude 21 = .ok (.invokestatic 70, 3) := by decide +kernel
theorem dX0_packMagnitude_24 : decode cX0_packMagnitude 24 = .ok (.lstore 5, 2) := by decide +kernel
theorem dX0_packMagnitude_26 : decode cX0_packMagnitude 26 = .ok (.lload 5, 2) := by decide +kernel
theorem dX0_packMagnitude_28 : decode cX0_packMagnitude 28 = .ok (.aload_n 0, 1) := by decide +kernel
theorem dX0_packMagnitude_29 : decode cX0_packMagnitude 29 = .ok (.getfield 25, 3) := by decide +kernel
theorem dX0_packMagnitude_32 : decode cX0_packMagnitude 32 = .ok (.i2l, 1) := by decide +kernel
theorem dX0_packMagnitude_33 : decode cX0_packMagnitude 33 = .ok (.invokestatic 38, 3) := by decide +kernel
theorem dX0_packMagnitude_36 : decode cX0_packMagnitude 36 = .ok (.aload_n 0, 1) := by decide +kernel
theorem dX0_packMagnitude_37 : decode cX0_packMagnitude 37 = .ok (.getfield 25, 3) := by decide +kernel
theorem dX0_packMagnitude_40 : decode cX0_packMagnitude 40 = .ok (.i2l, 1) := by decide +kernel
theorem dX0_packMagnitude_41 : decode cX0_packMagnitude 41 = .ok (.lload 5, 2) := by decide +kernel
theorem dX0_packMagnitude_43 : decode cX0_packMagnitude 43 = .ok (.invokestatic 117, 3) := by decide +kernel
theorem dX0_packMagnitude_46 : decode cX0_packMagnitude 46 = .ok (.lstore 7, 2) := by decide +kernel
theorem dX0_packMagnitude_48 : decode cX0_packMagnitude 48 = .ok (.iload_n 1, 1) := by decide +kernel
theorem dX0_packMagnitude_49 : decode cX0_packMagnitude 49 = .ok (.aload_n 2, 1) := by decide +kernel
theorem dX0_packMagnitude_50 : decode cX0_packMagnitude 50 = .ok (.lload 7, 2) := by decide +kernel
theorem dX0_packMagnitude_52 : decode cX0_packMagnitude 52 = .ok (.invokestatic 121, 3) := by decide +kernel
theorem dX0_packMagnitude_55 : decode cX0_packMagnitude 55 = .ok (.lstore 9, 2) := by decide +kernel
theorem dX0_packMagnitude_57 : decode cX0_packMagnitude 57 = .ok (.lload 7, 2) := by decide +kernel
theorem dX0_packMagnitude_59 : decode cX0_packMagnitude 59 = .ok (.aload_n 0, 1) := by decide +kernel
theorem dX0_packMagnitude_60 : decode cX0_packMagnitude 60 = .ok (.getfield 25, 3) := by decide +kernel
theorem dX0_packMagnitude_63 : decode cX0_packMagnitude 63 = .ok (.i2l, 1) := by decide +kernel
theorem dX0_packMagnitude_64 : decode cX0_packMagnitude 64 = .ok (.invokestatic 70, 3) := by decide +kernel
theorem dX0_packMagnitude_67 : decode cX0_packMagnitude 67 = .ok (.aload_n 0, 1) := by decide +kernel
theorem dX0_packMagnitude_68 : decode cX0_packMagnitude 68 = .ok (.getfield 13, 3) := by decide +kernel
theorem dX0_packMagnitude_71 : decode cX0_packMagnitude 71 = .ok (.lshl, 1) := by decide +kernel
theorem dX0_packMagnitude_72 : decode cX0_packMagnitude 72 = .ok (.lload 9, 2) := by decide +kernel
theorem dX0_packMagnitude_74 : decode cX0_packMagnitude 74 = .ok (.invokestatic 73, 3) := by decide +kernel
theorem dX0_packMagnitude_77 : decode cX0_packMagnitude 77 = .ok (.lreturn, 1) := by decide +kernel
theorem dX1_top_0 : decode cX1_top 0 = .ok (.lconst 0, 1) := by decide +kernel
theorem dX1_top_1 : decode cX1_top 1 = .ok (.lstore_n 2, 1) := by decide +kernel
theorem dX1_top_2 : decode cX1_top 2 = .ok (.lload_n 0, 1) := by decide +kernel
theorem dX1_top_3 : decode cX1_top 3 = .ok (.lstore 4, 2) := by decide +kernel
theorem dX1_top_5 : decode cX1_top 5 = .ok (.iconst 5, 1) := by decide +kernel
theorem dX1_top_6 : decode cX1_top 6 = .ok (.istore 6, 2) := by decide +kernel
theorem dX1_top_8 : decode cX1_top 8 = .ok (.iload 6, 2) := by decide +kernel
theorem dX1_top_10 : decode cX1_top 10 = .ok (.ifCond .lt 44, 3) := by decide +kernel
theorem dX1_top_13 : decode cX1_top 13 = .ok (.lload 4, 2) := by decide +kernel
theorem dX1_top_15 : decode cX1_top 15 = .ok (.iconst 1, 1) := by decide +kernel
theorem dX1_top_16 : decode cX1_top 16 = .ok (.iload 6, 2) := by decide +kernel
theorem dX1_top_18 : decode cX1_top 18 = .ok (.ishl, 1) := by decide +kernel
theorem dX1_top_19 : decode cX1_top 19 = .ok (.lushr, 1) := by decide +kernel
theorem dX1_top_20 : decode cX1_top 20 = .ok (.lstore 7, 2) := by decide +kernel
theorem dX1_top_22 : decode cX1_top 22 = .ok (.lload 7, 2) := by decide +kernel
theorem dX1_top_24 : decode cX1_top 24 = .ok (.invokestatic 33, 3) := by decide +kernel
theorem dX1_top_27 : decode cX1_top 27 = .ok (.lstore 9, 2) := by decide +kernel
theorem dX1_top_29 : decode cX1_top 29 = .ok (.lload_n 2, 1) := by decide +kernel
theorem dX1_top_30 : decode cX1_top 30 = .ok (.lload 9, 2) := by decide +kernel
theorem dX1_top_32 : decode cX1_top 32 = .ok (.iload 6, 2) := by decide +kernel
theorem dX1_top_34 : decode cX1_top 34 = .ok (.lshl, 1) := by decide +kernel
theorem dX1_top_35 : decode cX1_top 35 = .ok (.lor, 1) := by decide +kernel
theorem dX1_top_36 : decode cX1_top 36 = .ok (.lstore_n 2, 1) := by decide +kernel
theorem dX1_top_37 : decode cX1_top 37 = .ok (.lload 9, 2) := by decide +kernel
theorem dX1_top_39 : decode cX1_top 39 = .ok (.lload 7, 2) := by decide +kernel
theorem dX1_top_41 : decode cX1_top 41 = .ok (.lload 4, 2) := by decide +kernel
theorem dX1_top_43 : decode cX1_top 43 = .ok (.invokestatic 26, 3) := by decide +kernel
theorem dX1_top_46 : decode cX1_top 46 = .ok (.lstore 4, 2) := by decide +kernel
theorem dX1_top_48 : decode cX1_top 48 = .ok (.iinc 6 (-1), 3) := by decide +kernel
theorem dX1_top_51 : decode cX1_top 51 = .ok (.goto (-43), 3) := by decide +kernel
theorem dX1_top_54 : decode cX1_top 54 = .ok (.lload_n 2, 1) := by decide +kernel
theorem dX1_top_55 : decode cX1_top 55 = .ok (.lreturn, 1) := by decide +kernel
theorem dX3_round_0 : decode cX3_round 0 = .ok (.lload_n 2, 1) := by decide +kernel
theorem dX3_round_1 : decode cX3_round 1 = .ok (.aload_n 1, 1) := by decide +kernel
theorem dX3_round_2 : decode cX3_round 2 = .ok (.getfield 9, 3) := by decide +kernel
theorem dX3_round_5 : decode cX3_round 5 = .ok (.invokestatic 15, 3) := by decide +kernel
theorem dX3_round_8 : decode cX3_round 8 = .ok (.lstore 4, 2) := by decide +kernel
theorem dX3_round_10 : decode cX3_round 10 = .ok (.aload_n 1, 1) := by decide +kernel
theorem dX3_round_11 : decode cX3_round 11 = .ok (.getfield 21, 3) := by decide +kernel
theorem dX3_round_14 : decode cX3_round 14 = .ok (.iconst 2, 1) := by decide +kernel
theorem dX3_round_15 : decode cX3_round 15 = .ok (.lshl, 1) := by decide +kernel
theorem dX3_round_16 : decode cX3_round 16 = .ok (.lstore 6, 2) := by decide +kernel
theorem dX3_round_18 : decode cX3_round 18 = .ok (.lload 6, 2) := by decide +kernel
theorem dX3_round_20 : decode cX3_round 20 = .ok (.lconst 1, 1) := by decide +kernel
theorem dX3_round_21 : decode cX3_round 21 = .ok (.lload 4, 2) := by decide +kernel
theorem dX3_round_23 : decode cX3_round 23 = .ok (.invokestatic 24, 3) := by decide +kernel
theorem dX3_round_26 : decode cX3_round 26 = .ok (.invokestatic 27, 3) := by decide +kernel
theorem dX3_round_29 : decode cX3_round 29 = .ok (.lstore 8, 2) := by decide +kernel
theorem dX3_round_31 : decode cX3_round 31 = .ok (.lload 6, 2) := by decide +kernel
theorem dX3_round_33 : decode cX3_round 33 = .ok (.lload 4, 2) := by decide +kernel
theorem dX3_round_35 : decode cX3_round 35 = .ok (.invokestatic 30, 3) := by decide +kernel
theorem dX3_round_38 : decode cX3_round 38 = .ok (.lstore 10, 2) := by decide +kernel
theorem dX3_round_40 : decode cX3_round 40 = .ok (.lload 4, 2) := by decide +kernel
theorem dX3_round_42 : decode cX3_round 42 = .ok (.invokestatic 33, 3) := by decide +kernel
theorem dX3_round_45 : decode cX3_round 45 = .ok (.lload 8, 2) := by decide +kernel
theorem dX3_round_47 : decode cX3_round 47 = .ok (.lload 10, 2) := by decide +kernel
theorem dX3_round_49 : decode cX3_round 49 = .ok (.invokestatic 37, 3) := by decide +kernel
theorem dX3_round_52 : decode cX3_round 52 = .ok (.lstore 12, 2) := by decide +kernel
theorem dX3_round_54 : decode cX3_round 54 = .ok (.lload 12, 2) := by decide +kernel
theorem dX3_round_56 : decode cX3_round 56 = .ok (.iconst 2, 1) := by decide +kernel
theorem dX3_round_57 : decode cX3_round 57 = .ok (.lushr, 1) := by decide +kernel
theorem dX3_round_58 : decode cX3_round 58 = .ok (.lstore 14, 2) := by decide +kernel
theorem dX3_round_60 : decode cX3_round 60 = .ok (.lload 14, 2) := by decide +kernel
theorem dX3_round_62 : decode cX3_round 62 = .ok (.iload_n 0, 1) := by decide +kernel
theorem dX3_round_63 : decode cX3_round 63 = .ok (.aload_n 1, 1) := by decide +kernel
theorem dX3_round_64 : decode cX3_round 64 = .ok (.getfield 41, 3) := by decide +kernel
theorem dX3_round_67 : decode cX3_round 67 = .ok (.lload 14, 2) := by decide +kernel
theorem dX3_round_69 : decode cX3_round 69 = .ok (.lconst 1, 1) := by decide +kernel
theorem dX3_round_70 : decode cX3_round 70 = .ok (.land, 1) := by decide +kernel
theorem dX3_round_71 : decode cX3_round 71 = .ok (.lload 12, 2) := by decide +kernel
theorem dX3_round_73 : decode cX3_round 73 = .ok (.iconst 1, 1) := by decide +kernel
theorem dX3_round_74 : decode cX3_round 74 = .ok (.lushr, 1) := by decide +kernel
theorem dX3_round_75 : decode cX3_round 75 = .ok (.lconst 1, 1) := by decide +kernel
theorem dX3_round_76 : decode cX3_round 76 = .ok (.land, 1) := by decide +kernel
theorem dX3_round_77 : decode cX3_round 77 = .ok (.lload 12, 2) := by decide +kernel
theorem dX3_round_79 : decode cX3_round 79 = .ok (.lconst 1, 1) := by decide +kernel
theorem dX3_round_80 : decode cX3_round 80 = .ok (.land, 1) := by decide +kernel
theorem dX3_round_81 : decode cX3_round 81 = .ok (.invokestatic 44, 3) := by decide +kernel
theorem dX3_round_84 : decode cX3_round 84 = .ok (.invokestatic 50, 3) := by decide +kernel
theorem dX3_round_87 : decode cX3_round 87 = .ok (.lreturn, 1) := by decide +kernel
theorem dX1_shiftRightMarking_0 : decode cX1_shiftRightMarking 0 = .ok (.lload_n 0, 1) := by decide +kernel
theorem dX1_shiftRightMarking_1 : decode cX1_shiftRightMarking 1 = .ok (.lstore 4, 2) := by decide +kernel
theorem dX1_shiftRightMarking_3 : decode cX1_shiftRightMarking 3 = .ok (.iconst 0, 1) := by decide +kernel
theorem dX1_shiftRightMarking_4 : decode cX1_shiftRightMarking 4 = .ok (.istore 6, 2) := by decide +kernel
theorem dX1_shiftRightMarking_6 : decode cX1_shiftRightMarking 6 = .ok (.iload 6, 2) := by decide +kernel
theorem dX1_shiftRightMarking_8 : decode cX1_shiftRightMarking 8 = .ok (.bipush 6, 2) := by decide +kernel
theorem dX1_shiftRightMarking_10 : decode cX1_shiftRightMarking 10 = .ok (.if_icmp .ge 47, 3) := by decide +kernel
theorem dX1_shiftRightMarking_13 : decode cX1_shiftRightMarking 13 = .ok (.iconst 1, 1) := by decide +kernel
theorem dX1_shiftRightMarking_14 : decode cX1_shiftRightMarking 14 = .ok (.iload 6, 2) := by decide +kernel
theorem dX1_shiftRightMarking_16 : decode cX1_shiftRightMarking 16 = .ok (.ishl, 1) := by decide +kernel
theorem dX1_shiftRightMarking_17 : decode cX1_shiftRightMarking 17 = .ok (.istore 7, 2) := by decide +kernel
theorem dX1_shiftRightMarking_19 : decode cX1_shiftRightMarking 19 = .ok (.lload 4, 2) := by decide +kernel
theorem dX1_shiftRightMarking_21 : decode cX1_shiftRightMarking 21 = .ok (.iload 7, 2) := by decide +kernel
theorem dX1_shiftRightMarking_23 : decode cX1_shiftRightMarking 23 = .ok (.lushr, 1) := by decide +kernel
theorem dX1_shiftRightMarking_24 : decode cX1_shiftRightMarking 24 = .ok (.lload 4, 2) := by decide +kernel
theorem dX1_shiftRightMarking_26 : decode cX1_shiftRightMarking 26 = .ok (.iload 7, 2) := by decide +kernel
theorem dX1_shiftRightMarking_28 : decode cX1_shiftRightMarking 28 = .ok (.invokestatic 29, 3) := by decide +kernel
theorem dX1_shiftRightMarking_31 : decode cX1_shiftRightMarking 31 = .ok (.land, 1) := by decide +kernel
theorem dX1_shiftRightMarking_32 : decode cX1_shiftRightMarking 32 = .ok (.invokestatic 33, 3) := by decide +kernel
theorem dX1_shiftRightMarking_35 : decode cX1_shiftRightMarking 35 = .ok (.lor, 1) := by decide +kernel
theorem dX1_shiftRightMarking_36 : decode cX1_shiftRightMarking 36 = .ok (.lstore 8, 2) := by decide +kernel
theorem dX1_shiftRightMarking_38 : decode cX1_shiftRightMarking 38 = .ok (.lload_n 2, 1) := by decide +kernel
theorem dX1_shiftRightMarking_39 : decode cX1_shiftRightMarking 39 = .ok (.iload 6, 2) := by decide +kernel
theorem dX1_shiftRightMarking_41 : decode cX1_shiftRightMarking 41 = .ok (.lushr, 1) := by decide +kernel
theorem dX1_shiftRightMarking_42 : decode cX1_shiftRightMarking 42 = .ok (.lload 8, 2) := by decide +kernel
theorem dX1_shiftRightMarking_44 : decode cX1_shiftRightMarking 44 = .ok (.lload 4, 2) := by decide +kernel
theorem dX1_shiftRightMarking_46 : decode cX1_shiftRightMarking 46 = .ok (.invokestatic 26, 3) := by decide +kernel
theorem dX1_shiftRightMarking_49 : decode cX1_shiftRightMarking 49 = .ok (.lstore 4, 2) := by decide +kernel
theorem dX1_shiftRightMarking_51 : decode cX1_shiftRightMarking 51 = .ok (.iinc 6 1, 3) := by decide +kernel
theorem dX1_shiftRightMarking_54 : decode cX1_shiftRightMarking 54 = .ok (.goto (-48), 3) := by decide +kernel
theorem dX1_shiftRightMarking_57 : decode cX1_shiftRightMarking 57 = .ok (.lload 4, 2) := by decide +kernel
theorem dX1_shiftRightMarking_59 : decode cX1_shiftRightMarking 59 = .ok (.lreturn, 1) := by decide +kernel
theorem dX3_oneMore_0 : decode cX3_oneMore 0 = .ok (.iload_n 0, 1) := by decide +kernel
theorem dX3_oneMore_1 : decode cX3_oneMore 1 = .ok (.tableswitch 60 0 3 #[31, 39, 42, 52], 31) := by decide +kernel
theorem dX3_oneMore_32 : decode cX3_oneMore 32 = .ok (.lload 5, 2) := by decide +kernel
theorem dX3_oneMore_34 : decode cX3_oneMore 34 = .ok (.lload 7, 2) := by decide +kernel
theorem dX3_oneMore_36 : decode cX3_oneMore 36 = .ok (.lload_n 3, 1) := by decide +kernel
theorem dX3_oneMore_37 : decode cX3_oneMore 37 = .ok (.lor, 1) := by decide +kernel
theorem dX3_oneMore_38 : decode cX3_oneMore 38 = .ok (.land, 1) := by decide +kernel
theorem dX3_oneMore_39 : decode cX3_oneMore 39 = .ok (.lreturn, 1) := by decide +kernel
theorem dX3_oneMore_40 : decode cX3_oneMore 40 = .ok (.lload 5, 2) := by decide +kernel
theorem dX3_oneMore_42 : decode cX3_oneMore 42 = .ok (.lreturn, 1) := by decide +kernel
theorem dX3_oneMore_43 : decode cX3_oneMore 43 = .ok (.lload 5, 2) := by decide +kernel
theorem dX3_oneMore_45 : decode cX3_oneMore 45 = .ok (.lload 7, 2) := by decide +kernel
theorem dX3_oneMore_47 : decode cX3_oneMore 47 = .ok (.lor, 1) := by decide +kernel
theorem dX3_oneMore_48 : decode cX3_oneMore 48 = .ok (.lload_n 1, 1) := by decide +kernel
theorem dX3_oneMore_49 : decode cX3_oneMore 49 = .ok (.lconst 1, 1) := by decide +kernel
theorem dX3_oneMore_50 : decode cX3_oneMore 50 = .ok (.lxor, 1) := by decide +kernel
theorem dX3_oneMore_51 : decode cX3_oneMore 51 = .ok (.land, 1) := by decide +kernel
theorem dX3_oneMore_52 : decode cX3_oneMore 52 = .ok (.lreturn, 1) := by decide +kernel
theorem dX3_oneMore_53 : decode cX3_oneMore 53 = .ok (.lload 5, 2) := by decide +kernel
theorem dX3_oneMore_55 : decode cX3_oneMore 55 = .ok (.lload 7, 2) := by decide +kernel
theorem dX3_oneMore_57 : decode cX3_oneMore 57 = .ok (.lor, 1) := by decide +kernel
theorem dX3_oneMore_58 : decode cX3_oneMore 58 = .ok (.lload_n 1, 1) := by decide +kernel
theorem dX3_oneMore_59 : decode cX3_oneMore 59 = .ok (.land, 1) := by decide +kernel
theorem dX3_oneMore_60 : decode cX3_oneMore 60 = .ok (.lreturn, 1) := by decide +kernel
theorem dX3_oneMore_61 : decode cX3_oneMore 61 = .ok (.lconst 0, 1) := by decide +kernel
theorem dX3_oneMore_62 : decode cX3_oneMore 62 = .ok (.lreturn, 1) := by decide +kernel
theorem dX3_isEndless_0 : decode cX3_isEndless 0 = .ok (.iload_n 0, 1) := by decide +kernel
theorem dX3_isEndless_1 : decode cX3_isEndless 1 = .ok (.tableswitch 57 0 3 #[31, 31, 33, 45], 31) := by decide +kernel
theorem dX3_isEndless_32 : decode cX3_isEndless 32 = .ok (.iconst 1, 1) := by decide +kernel
theorem dX3_isEndless_33 : decode cX3_isEndless 33 = .ok (.ireturn, 1) := by decide +kernel
theorem dX3_isEndless_34 : decode cX3_isEndless 34 = .ok (.lload_n 1, 1) := by decide +kernel
theorem dX3_isEndless_35 : decode cX3_isEndless 35 = .ok (.lconst 0, 1) := by decide +kernel
theorem dX3_isEndless_36 : decode cX3_isEndless 36 = .ok (.lcmp, 1) := by decide +kernel
theorem dX3_isEndless_37 : decode cX3_isEndless 37 = .ok (.ifCond .ne 7, 3) := by decide +kernel
theorem dX3_isEndless_40 : decode cX3_isEndless 40 = .ok (.iconst 1, 1) := by decide +kernel
theorem dX3_isEndless_41 : decode cX3_isEndless 41 = .ok (.goto 4, 3) := by decide +kernel
theorem dX3_isEndless_44 : decode cX3_isEndless 44 = .ok (.iconst 0, 1) := by decide +kernel
theorem dX3_isEndless_45 : decode cX3_isEndless 45 = .ok (.ireturn, 1) := by decide +kernel
theorem dX3_isEndless_46 : decode cX3_isEndless 46 = .ok (.lload_n 1, 1) := by decide +kernel
theorem dX3_isEndless_47 : decode cX3_isEndless 47 = .ok (.lconst 1, 1) := by decide +kernel
theorem dX3_isEndless_48 : decode cX3_isEndless 48 = .ok (.lcmp, 1) := by decide +kernel
theorem dX3_isEndless_49 : decode cX3_isEndless 49 = .ok (.ifCond .ne 7, 3) := by decide +kernel
theorem dX3_isEndless_52 : decode cX3_isEndless 52 = .ok (.iconst 1, 1) := by decide +kernel
theorem dX3_isEndless_53 : decode cX3_isEndless 53 = .ok (.goto 4, 3) := by decide +kernel
theorem dX3_isEndless_56 : decode cX3_isEndless 56 = .ok (.iconst 0, 1) := by decide +kernel
end
section
theorem dX3_isEndless_57 : decode cX3_isEndless 57 = .ok (.ireturn, 1) := by decide +kernel
theorem dX3_isEndless_58 : decode cX3_isEndless 58 = .ok (.iconst 0, 1) := by decide +kernel
theorem dX3_isEndless_59 : decode cX3_isEndless 59 = .ok (.ireturn, 1) := by decide +kernel
theorem dX4_opposite_0 : decode cX4_opposite 0 = .ok (.new 8, 3) := by decide +kernel
theorem dX4_opposite_3 : decode cX4_opposite 3 = .ok (.dup, 1) := by decide +kernel
theorem dX4_opposite_4 : decode cX4_opposite 4 = .ok (.aload_n 0, 1) := by decide +kernel
theorem dX4_opposite_5 : decode cX4_opposite 5 = .ok (.getfield 7, 3) := by decide +kernel
theorem dX4_opposite_8 : decode cX4_opposite 8 = .ok (.aload_n 0, 1) := by decide +kernel
theorem dX4_opposite_9 : decode cX4_opposite 9 = .ok (.getfield 13, 3) := by decide +kernel
theorem dX4_opposite_12 : decode cX4_opposite 12 = .ok (.aload_n 0, 1) := by decide +kernel
theorem dX4_opposite_13 : decode cX4_opposite 13 = .ok (.getfield 16, 3) := by decide +kernel
theorem dX4_opposite_16 : decode cX4_opposite 16 = .ok (.lconst 1, 1) := by decide +kernel
theorem dX4_opposite_17 : decode cX4_opposite 17 = .ok (.lxor, 1) := by decide +kernel
theorem dX4_opposite_18 : decode cX4_opposite 18 = .ok (.aload_n 0, 1) := by decide +kernel
theorem dX4_opposite_19 : decode cX4_opposite 19 = .ok (.getfield 20, 3) := by decide +kernel
theorem dX4_opposite_22 : decode cX4_opposite 22 = .ok (.aload_n 0, 1) := by decide +kernel
theorem dX4_opposite_23 : decode cX4_opposite 23 = .ok (.getfield 23, 3) := by decide +kernel
theorem dX4_opposite_26 : decode cX4_opposite 26 = .ok (.invokespecial 26, 3) := by decide +kernel
theorem dX4_opposite_29 : decode cX4_opposite 29 = .ok (.areturn, 1) := by decide +kernel
theorem dX2_product_0 : decode cX2_product 0 = .ok (.aload_n 0, 1) := by decide +kernel
theorem dX2_product_1 : decode cX2_product 1 = .ok (.getfield 9, 3) := by decide +kernel
theorem dX2_product_4 : decode cX2_product 4 = .ok (.ifCond .ne 10, 3) := by decide +kernel
theorem dX2_product_7 : decode cX2_product 7 = .ok (.aload_n 1, 1) := by decide +kernel
theorem dX2_product_8 : decode cX2_product 8 = .ok (.getfield 9, 3) := by decide +kernel
theorem dX2_product_11 : decode cX2_product 11 = .ok (.ifCond .eq 7, 3) := by decide +kernel
theorem dX2_product_14 : decode cX2_product 14 = .ok (.invokestatic 15, 3) := by decide +kernel
theorem dX2_product_17 : decode cX2_product 17 = .ok (.areturn, 1) := by decide +kernel
theorem dX2_product_18 : decode cX2_product 18 = .ok (.aload_n 0, 1) := by decide +kernel
theorem dX2_product_19 : decode cX2_product 19 = .ok (.getfield 22, 3) := by decide +kernel
theorem dX2_product_22 : decode cX2_product 22 = .ok (.aload_n 1, 1) := by decide +kernel
theorem dX2_product_23 : decode cX2_product 23 = .ok (.getfield 22, 3) := by decide +kernel
theorem dX2_product_26 : decode cX2_product 26 = .ok (.lxor, 1) := by decide +kernel
theorem dX2_product_27 : decode cX2_product 27 = .ok (.lstore_n 2, 1) := by decide +kernel
theorem dX2_product_28 : decode cX2_product 28 = .ok (.aload_n 0, 1) := by decide +kernel
theorem dX2_product_29 : decode cX2_product 29 = .ok (.getfield 19, 3) := by decide +kernel
theorem dX2_product_32 : decode cX2_product 32 = .ok (.ifCond .ne 10, 3) := by decide +kernel
theorem dX2_product_35 : decode cX2_product 35 = .ok (.aload_n 1, 1) := by decide +kernel
theorem dX2_product_36 : decode cX2_product 36 = .ok (.getfield 19, 3) := by decide +kernel
theorem dX2_product_39 : decode cX2_product 39 = .ok (.ifCond .eq 28, 3) := by decide +kernel
theorem dX2_product_42 : decode cX2_product 42 = .ok (.aload_n 0, 1) := by decide +kernel
theorem dX2_product_43 : decode cX2_product 43 = .ok (.invokevirtual 75, 3) := by decide +kernel
theorem dX2_product_46 : decode cX2_product 46 = .ok (.ifCond .ne 10, 3) := by decide +kernel
theorem dX2_product_49 : decode cX2_product 49 = .ok (.aload_n 1, 1) := by decide +kernel
theorem dX2_product_50 : decode cX2_product 50 = .ok (.invokevirtual 75, 3) := by decide +kernel
theorem dX2_product_53 : decode cX2_product 53 = .ok (.ifCond .eq 9, 3) := by decide +kernel
theorem dX2_product_56 : decode cX2_product 56 = .ok (.invokestatic 15, 3) := by decide +kernel
theorem dX2_product_59 : decode cX2_product 59 = .ok (.goto 7, 3) := by decide +kernel
theorem dX2_product_62 : decode cX2_product 62 = .ok (.lload_n 2, 1) := by decide +kernel
theorem dX2_product_63 : decode cX2_product 63 = .ok (.invokestatic 79, 3) := by decide +kernel
theorem dX2_product_66 : decode cX2_product 66 = .ok (.areturn, 1) := by decide +kernel
theorem dX2_product_67 : decode cX2_product 67 = .ok (.aload_n 0, 1) := by decide +kernel
theorem dX2_product_68 : decode cX2_product 68 = .ok (.getfield 69, 3) := by decide +kernel
theorem dX2_product_71 : decode cX2_product 71 = .ok (.aload_n 1, 1) := by decide +kernel
theorem dX2_product_72 : decode cX2_product 72 = .ok (.getfield 69, 3) := by decide +kernel
theorem dX2_product_75 : decode cX2_product 75 = .ok (.bipush 11, 2) := by decide +kernel
theorem dX2_product_77 : decode cX2_product 77 = .ok (.invokestatic 85, 3) := by decide +kernel
theorem dX2_product_80 : decode cX2_product 80 = .ok (.lstore 4, 2) := by decide +kernel
theorem dX2_product_82 : decode cX2_product 82 = .ok (.lload_n 2, 1) := by decide +kernel
theorem dX2_product_83 : decode cX2_product 83 = .ok (.aload_n 0, 1) := by decide +kernel
theorem dX2_product_84 : decode cX2_product 84 = .ok (.getfield 26, 3) := by decide +kernel
theorem dX2_product_87 : decode cX2_product 87 = .ok (.aload_n 1, 1) := by decide +kernel
theorem dX2_product_88 : decode cX2_product 88 = .ok (.getfield 26, 3) := by decide +kernel
theorem dX2_product_91 : decode cX2_product 91 = .ok (.invokestatic 45, 3) := by decide +kernel
theorem dX2_product_94 : decode cX2_product 94 = .ok (.lload 4, 2) := by decide +kernel
theorem dX2_product_96 : decode cX2_product 96 = .ok (.invokestatic 56, 3) := by decide +kernel
theorem dX2_product_99 : decode cX2_product 99 = .ok (.areturn, 1) := by decide +kernel
theorem dX1_product_0 : decode cX1_product 0 = .ok (.lconst 0, 1) := by decide +kernel
theorem dX1_product_1 : decode cX1_product 1 = .ok (.lstore 5, 2) := by decide +kernel
theorem dX1_product_3 : decode cX1_product 3 = .ok (.iconst 0, 1) := by decide +kernel
theorem dX1_product_4 : decode cX1_product 4 = .ok (.istore 7, 2) := by decide +kernel
theorem dX1_product_6 : decode cX1_product 6 = .ok (.iload 7, 2) := by decide +kernel
theorem dX1_product_8 : decode cX1_product 8 = .ok (.iload 4, 2) := by decide +kernel
theorem dX1_product_10 : decode cX1_product 10 = .ok (.if_icmp .ge 28, 3) := by decide +kernel
theorem dX1_product_13 : decode cX1_product 13 = .ok (.lload 5, 2) := by decide +kernel
theorem dX1_product_15 : decode cX1_product 15 = .ok (.lload_n 0, 1) := by decide +kernel
theorem dX1_product_16 : decode cX1_product 16 = .ok (.iload 7, 2) := by decide +kernel
theorem dX1_product_18 : decode cX1_product 18 = .ok (.lshl, 1) := by decide +kernel
theorem dX1_product_19 : decode cX1_product 19 = .ok (.lload_n 2, 1) := by decide +kernel
theorem dX1_product_20 : decode cX1_product 20 = .ok (.iload 7, 2) := by decide +kernel
theorem dX1_product_22 : decode cX1_product 22 = .ok (.lushr, 1) := by decide +kernel
theorem dX1_product_23 : decode cX1_product 23 = .ok (.invokestatic 11, 3) := by decide +kernel
theorem dX1_product_26 : decode cX1_product 26 = .ok (.land, 1) := by decide +kernel
theorem dX1_product_27 : decode cX1_product 27 = .ok (.invokestatic 36, 3) := by decide +kernel
theorem dX1_product_30 : decode cX1_product 30 = .ok (.lstore 5, 2) := by decide +kernel
theorem dX1_product_32 : decode cX1_product 32 = .ok (.iinc 7 1, 3) := by decide +kernel
theorem dX1_product_35 : decode cX1_product 35 = .ok (.goto (-29), 3) := by decide +kernel
theorem dX1_product_38 : decode cX1_product 38 = .ok (.lload 5, 2) := by decide +kernel
theorem dX1_product_40 : decode cX1_product 40 = .ok (.lreturn, 1) := by decide +kernel
theorem dX2_quotient_0 : decode cX2_quotient 0 = .ok (.aload_n 0, 1) := by decide +kernel
theorem dX2_quotient_1 : decode cX2_quotient 1 = .ok (.getfield 9, 3) := by decide +kernel
theorem dX2_quotient_4 : decode cX2_quotient 4 = .ok (.ifCond .ne 38, 3) := by decide +kernel
theorem dX2_quotient_7 : decode cX2_quotient 7 = .ok (.aload_n 1, 1) := by decide +kernel
theorem dX2_quotient_8 : decode cX2_quotient 8 = .ok (.getfield 9, 3) := by decide +kernel
theorem dX2_quotient_11 : decode cX2_quotient 11 = .ok (.ifCond .ne 31, 3) := by decide +kernel
theorem dX2_quotient_14 : decode cX2_quotient 14 = .ok (.aload_n 0, 1) := by decide +kernel
theorem dX2_quotient_15 : decode cX2_quotient 15 = .ok (.getfield 19, 3) := by decide +kernel
theorem dX2_quotient_18 : decode cX2_quotient 18 = .ok (.ifCond .eq 10, 3) := by decide +kernel
theorem dX2_quotient_21 : decode cX2_quotient 21 = .ok (.aload_n 1, 1) := by decide +kernel
theorem dX2_quotient_22 : decode cX2_quotient 22 = .ok (.getfield 19, 3) := by decide +kernel
theorem dX2_quotient_25 : decode cX2_quotient 25 = .ok (.ifCond .ne 17, 3) := by decide +kernel
theorem dX2_quotient_28 : decode cX2_quotient 28 = .ok (.aload_n 0, 1) := by decide +kernel
theorem dX2_quotient_29 : decode cX2_quotient 29 = .ok (.invokevirtual 75, 3) := by decide +kernel
theorem dX2_quotient_32 : decode cX2_quotient 32 = .ok (.ifCond .eq 14, 3) := by decide +kernel
theorem dX2_quotient_35 : decode cX2_quotient 35 = .ok (.aload_n 1, 1) := by decide +kernel
theorem dX2_quotient_36 : decode cX2_quotient 36 = .ok (.invokevirtual 75, 3) := by decide +kernel
theorem dX2_quotient_39 : decode cX2_quotient 39 = .ok (.ifCond .eq 7, 3) := by decide +kernel
theorem dX2_quotient_42 : decode cX2_quotient 42 = .ok (.invokestatic 15, 3) := by decide +kernel
theorem dX2_quotient_45 : decode cX2_quotient 45 = .ok (.areturn, 1) := by decide +kernel
theorem dX2_quotient_46 : decode cX2_quotient 46 = .ok (.aload_n 0, 1) := by decide +kernel
theorem dX2_quotient_47 : decode cX2_quotient 47 = .ok (.getfield 22, 3) := by decide +kernel
theorem dX2_quotient_50 : decode cX2_quotient 50 = .ok (.aload_n 1, 1) := by decide +kernel
theorem dX2_quotient_51 : decode cX2_quotient 51 = .ok (.getfield 22, 3) := by decide +kernel
theorem dX2_quotient_54 : decode cX2_quotient 54 = .ok (.lxor, 1) := by decide +kernel
theorem dX2_quotient_55 : decode cX2_quotient 55 = .ok (.lstore_n 2, 1) := by decide +kernel
theorem dX2_quotient_56 : decode cX2_quotient 56 = .ok (.aload_n 0, 1) := by decide +kernel
theorem dX2_quotient_57 : decode cX2_quotient 57 = .ok (.getfield 19, 3) := by decide +kernel
theorem dX2_quotient_60 : decode cX2_quotient 60 = .ok (.ifCond .ne 10, 3) := by decide +kernel
theorem dX2_quotient_63 : decode cX2_quotient 63 = .ok (.aload_n 1, 1) := by decide +kernel
theorem dX2_quotient_64 : decode cX2_quotient 64 = .ok (.invokevirtual 75, 3) := by decide +kernel
theorem dX2_quotient_67 : decode cX2_quotient 67 = .ok (.ifCond .eq 8, 3) := by decide +kernel
theorem dX2_quotient_70 : decode cX2_quotient 70 = .ok (.lload_n 2, 1) := by decide +kernel
theorem dX2_quotient_71 : decode cX2_quotient 71 = .ok (.invokestatic 79, 3) := by decide +kernel
theorem dX2_quotient_74 : decode cX2_quotient 74 = .ok (.areturn, 1) := by decide +kernel
theorem dX2_quotient_75 : decode cX2_quotient 75 = .ok (.aload_n 1, 1) := by decide +kernel
theorem dX2_quotient_76 : decode cX2_quotient 76 = .ok (.getfield 19, 3) := by decide +kernel
theorem dX2_quotient_79 : decode cX2_quotient 79 = .ok (.ifCond .eq 10, 3) := by decide +kernel
theorem dX2_quotient_82 : decode cX2_quotient 82 = .ok (.lload_n 2, 1) := by decide +kernel
theorem dX2_quotient_83 : decode cX2_quotient 83 = .ok (.lconst 0, 1) := by decide +kernel
theorem dX2_quotient_84 : decode cX2_quotient 84 = .ok (.lconst 0, 1) := by decide +kernel
theorem dX2_quotient_85 : decode cX2_quotient 85 = .ok (.invokestatic 56, 3) := by decide +kernel
theorem dX2_quotient_88 : decode cX2_quotient 88 = .ok (.areturn, 1) := by decide +kernel
theorem dX2_quotient_89 : decode cX2_quotient 89 = .ok (.bipush 35, 2) := by decide +kernel
theorem dX2_quotient_91 : decode cX2_quotient 91 = .ok (.istore 4, 2) := by decide +kernel
theorem dX2_quotient_93 : decode cX2_quotient 93 = .ok (.aload_n 0, 1) := by decide +kernel
theorem dX2_quotient_94 : decode cX2_quotient 94 = .ok (.getfield 69, 3) := by decide +kernel
theorem dX2_quotient_97 : decode cX2_quotient 97 = .ok (.bipush 24, 2) := by decide +kernel
theorem dX2_quotient_99 : decode cX2_quotient 99 = .ok (.lshl, 1) := by decide +kernel
theorem dX2_quotient_100 : decode cX2_quotient 100 = .ok (.aload_n 1, 1) := by decide +kernel
theorem dX2_quotient_101 : decode cX2_quotient 101 = .ok (.getfield 69, 3) := by decide +kernel
theorem dX2_quotient_104 : decode cX2_quotient 104 = .ok (.iload 4, 2) := by decide +kernel
theorem dX2_quotient_106 : decode cX2_quotient 106 = .ok (.invokestatic 89, 3) := by decide +kernel
theorem dX2_quotient_109 : decode cX2_quotient 109 = .ok (.lstore 5, 2) := by decide +kernel
theorem dX2_quotient_111 : decode cX2_quotient 111 = .ok (.aload_n 0, 1) := by decide +kernel
theorem dX2_quotient_112 : decode cX2_quotient 112 = .ok (.getfield 26, 3) := by decide +kernel
theorem dX2_quotient_115 : decode cX2_quotient 115 = .ok (.aload_n 1, 1) := by decide +kernel
theorem dX2_quotient_116 : decode cX2_quotient 116 = .ok (.getfield 26, 3) := by decide +kernel
theorem dX2_quotient_119 : decode cX2_quotient 119 = .ok (.invokestatic 66, 3) := by decide +kernel
theorem dX2_quotient_122 : decode cX2_quotient 122 = .ok (.lstore 7, 2) := by decide +kernel
theorem dX2_quotient_124 : decode cX2_quotient 124 = .ok (.lload_n 2, 1) := by decide +kernel
theorem dX2_quotient_125 : decode cX2_quotient 125 = .ok (.lload 7, 2) := by decide +kernel
theorem dX2_quotient_127 : decode cX2_quotient 127 = .ok (.ldc2_w 92, 3) := by decide +kernel
theorem dX2_quotient_130 : decode cX2_quotient 130 = .ok (.invokestatic 66, 3) := by decide +kernel
theorem dX2_quotient_133 : decode cX2_quotient 133 = .ok (.lload 5, 2) := by decide +kernel
theorem dX2_quotient_135 : decode cX2_quotient 135 = .ok (.invokestatic 56, 3) := by decide +kernel
theorem dX2_quotient_138 : decode cX2_quotient 138 = .ok (.areturn, 1) := by decide +kernel
theorem dX1_quotient_0 : decode cX1_quotient 0 = .ok (.lconst 0, 1) := by decide +kernel
theorem dX1_quotient_1 : decode cX1_quotient 1 = .ok (.lstore 5, 2) := by decide +kernel
theorem dX1_quotient_3 : decode cX1_quotient 3 = .ok (.lconst 0, 1) := by decide +kernel
theorem dX1_quotient_4 : decode cX1_quotient 4 = .ok (.lstore 7, 2) := by decide +kernel
theorem dX1_quotient_6 : decode cX1_quotient 6 = .ok (.iload 4, 2) := by decide +kernel
theorem dX1_quotient_8 : decode cX1_quotient 8 = .ok (.iconst 1, 1) := by decide +kernel
theorem dX1_quotient_9 : decode cX1_quotient 9 = .ok (.isub, 1) := by decide +kernel
theorem dX1_quotient_10 : decode cX1_quotient 10 = .ok (.istore 9, 2) := by decide +kernel
theorem dX1_quotient_12 : decode cX1_quotient 12 = .ok (.iload 9, 2) := by decide +kernel
theorem dX1_quotient_14 : decode cX1_quotient 14 = .ok (.ifCond .lt 59, 3) := by decide +kernel
theorem dX1_quotient_17 : decode cX1_quotient 17 = .ok (.lload 7, 2) := by decide +kernel
theorem dX1_quotient_19 : decode cX1_quotient 19 = .ok (.iconst 1, 1) := by decide +kernel
theorem dX1_quotient_20 : decode cX1_quotient 20 = .ok (.lshl, 1) := by decide +kernel
theorem dX1_quotient_21 : decode cX1_quotient 21 = .ok (.lload_n 0, 1) := by decide +kernel
theorem dX1_quotient_22 : decode cX1_quotient 22 = .ok (.iload 9, 2) := by decide +kernel
theorem dX1_quotient_24 : decode cX1_quotient 24 = .ok (.lushr, 1) := by decide +kernel
theorem dX1_quotient_25 : decode cX1_quotient 25 = .ok (.lconst 1, 1) := by decide +kernel
theorem dX1_quotient_26 : decode cX1_quotient 26 = .ok (.land, 1) := by decide +kernel
theorem dX1_quotient_27 : decode cX1_quotient 27 = .ok (.lor, 1) := by decide +kernel
theorem dX1_quotient_28 : decode cX1_quotient 28 = .ok (.lstore 7, 2) := by decide +kernel
theorem dX1_quotient_30 : decode cX1_quotient 30 = .ok (.lload 7, 2) := by decide +kernel
theorem dX1_quotient_32 : decode cX1_quotient 32 = .ok (.lload_n 2, 1) := by decide +kernel
theorem dX1_quotient_33 : decode cX1_quotient 33 = .ok (.invokestatic 19, 3) := by decide +kernel
theorem dX1_quotient_36 : decode cX1_quotient 36 = .ok (.lstore 10, 2) := by decide +kernel
theorem dX1_quotient_38 : decode cX1_quotient 38 = .ok (.lload 10, 2) := by decide +kernel
theorem dX1_quotient_40 : decode cX1_quotient 40 = .ok (.invokestatic 23, 3) := by decide +kernel
theorem dX1_quotient_43 : decode cX1_quotient 43 = .ok (.lconst 1, 1) := by decide +kernel
theorem dX1_quotient_44 : decode cX1_quotient 44 = .ok (.lxor, 1) := by decide +kernel
theorem dX1_quotient_45 : decode cX1_quotient 45 = .ok (.lstore 12, 2) := by decide +kernel
theorem dX1_quotient_47 : decode cX1_quotient 47 = .ok (.lload 12, 2) := by decide +kernel
theorem dX1_quotient_49 : decode cX1_quotient 49 = .ok (.lload 10, 2) := by decide +kernel
theorem dX1_quotient_51 : decode cX1_quotient 51 = .ok (.lload 7, 2) := by decide +kernel
theorem dX1_quotient_53 : decode cX1_quotient 53 = .ok (.invokestatic 26, 3) := by decide +kernel
theorem dX1_quotient_56 : decode cX1_quotient 56 = .ok (.lstore 7, 2) := by decide +kernel
theorem dX1_quotient_58 : decode cX1_quotient 58 = .ok (.lload 5, 2) := by decide +kernel
theorem dX1_quotient_60 : decode cX1_quotient 60 = .ok (.iconst 1, 1) := by decide +kernel
theorem dX1_quotient_61 : decode cX1_quotient 61 = .ok (.lshl, 1) := by decide +kernel
theorem dX1_quotient_62 : decode cX1_quotient 62 = .ok (.lload 12, 2) := by decide +kernel
theorem dX1_quotient_64 : decode cX1_quotient 64 = .ok (.lor, 1) := by decide +kernel
theorem dX1_quotient_65 : decode cX1_quotient 65 = .ok (.lstore 5, 2) := by decide +kernel
theorem dX1_quotient_67 : decode cX1_quotient 67 = .ok (.iinc 9 (-1), 3) := by decide +kernel
theorem dX1_quotient_70 : decode cX1_quotient 70 = .ok (.goto (-58), 3) := by decide +kernel
theorem dX1_quotient_73 : decode cX1_quotient 73 = .ok (.lload 5, 2) := by decide +kernel
theorem dX1_quotient_75 : decode cX1_quotient 75 = .ok (.iconst 1, 1) := by decide +kernel
theorem dX1_quotient_76 : decode cX1_quotient 76 = .ok (.lshl, 1) := by decide +kernel
theorem dX1_quotient_77 : decode cX1_quotient 77 = .ok (.lload 7, 2) := by decide +kernel
theorem dX1_quotient_79 : decode cX1_quotient 79 = .ok (.invokestatic 33, 3) := by decide +kernel
theorem dX1_quotient_82 : decode cX1_quotient 82 = .ok (.lor, 1) := by decide +kernel
theorem dX1_quotient_83 : decode cX1_quotient 83 = .ok (.lreturn, 1) := by decide +kernel
theorem dL_change_0 : decode cL_change 0 = .ok (.aload 4, 2) := by decide +kernel
theorem dL_change_2 : decode cL_change 2 = .ok (.iconst 0, 1) := by decide +kernel
theorem dL_change_3 : decode cL_change 3 = .ok (.aload_n 0, 1) := by decide +kernel
theorem dL_change_4 : decode cL_change 4 = .ok (.iload_n 1, 1) := by decide +kernel
theorem dL_change_5 : decode cL_change 5 = .ok (.iload_n 2, 1) := by decide +kernel
theorem dL_change_6 : decode cL_change 6 = .ok (.iload_n 3, 1) := by decide +kernel
theorem dL_change_7 : decode cL_change 7 = .ok (.invokevirtual 19, 3) := by decide +kernel
theorem dL_change_10 : decode cL_change 10 = .ok (.i2l, 1) := by decide +kernel
theorem dL_change_11 : decode cL_change 11 = .ok (.lastore, 1) := by decide +kernel
theorem dL_change_12 : decode cL_change 12 = .ok (.goto 7, 3) := by decide +kernel
theorem dL_change_15 : decode cL_change 15 = .ok (.astore 5, 2) := by decide +kernel
theorem dL_change_17 : decode cL_change 17 = .ok (.iconst 1, 1) := by decide +kernel
theorem dL_change_18 : decode cL_change 18 = .ok (.ireturn, 1) := by decide +kernel
theorem dL_change_19 : decode cL_change 19 = .ok (.iconst 0, 1) := by decide +kernel
theorem dL_change_20 : decode cL_change 20 = .ok (.ireturn, 1) := by decide +kernel
theorem dX5_change_0 : decode cX5_change 0 = .ok (.iload_n 1, 1) := by decide +kernel
theorem dX5_change_1 : decode cX5_change 1 = .ok (.iconst 0, 1) := by decide +kernel
theorem dX5_change_2 : decode cX5_change 2 = .ok (.iconst 3, 1) := by decide +kernel
theorem dX5_change_3 : decode cX5_change 3 = .ok (.invokestatic 30, 3) := by decide +kernel
theorem dX5_change_6 : decode cX5_change 6 = .ok (.ifCond .eq 25, 3) := by decide +kernel
theorem dX5_change_9 : decode cX5_change 9 = .ok (.iload_n 2, 1) := by decide +kernel
theorem dX5_change_10 : decode cX5_change 10 = .ok (.invokestatic 34, 3) := by decide +kernel
theorem dX5_change_13 : decode cX5_change 13 = .ok (.ifCond .eq 18, 3) := by decide +kernel
theorem dX5_change_16 : decode cX5_change 16 = .ok (.aload_n 0, 1) := by decide +kernel
theorem dX5_change_17 : decode cX5_change 17 = .ok (.getfield 12, 3) := by decide +kernel
theorem dX5_change_20 : decode cX5_change 20 = .ok (.iload_n 3, 1) := by decide +kernel
theorem dX5_change_21 : decode cX5_change 21 = .ok (.invokevirtual 38, 3) := by decide +kernel
theorem dX5_change_24 : decode cX5_change 24 = .ok (.ifCond .eq 7, 3) := by decide +kernel
theorem dX5_change_27 : decode cX5_change 27 = .ok (.iconst 1, 1) := by decide +kernel
theorem dX5_change_28 : decode cX5_change 28 = .ok (.goto 4, 3) := by decide +kernel
theorem dX5_change_31 : decode cX5_change 31 = .ok (.iconst 0, 1) := by decide +kernel
theorem dX5_change_32 : decode cX5_change 32 = .ok (.invokestatic 22, 3) := by decide +kernel
theorem dX5_change_35 : decode cX5_change 35 = .ok (.aload_n 0, 1) := by decide +kernel
theorem dX5_change_36 : decode cX5_change 36 = .ok (.getfield 12, 3) := by decide +kernel
theorem dX5_change_39 : decode cX5_change 39 = .ok (.iload_n 3, 1) := by decide +kernel
theorem dX5_change_40 : decode cX5_change 40 = .ok (.invokevirtual 41, 3) := by decide +kernel
theorem dX5_change_43 : decode cX5_change 43 = .ok (.astore 4, 2) := by decide +kernel
theorem dX5_change_45 : decode cX5_change 45 = .ok (.iload_n 1, 1) := by decide +kernel
theorem dX5_change_46 : decode cX5_change 46 = .ok (.tableswitch 85 0 2 #[26, 40, 55], 26) := by decide +kernel
theorem dX5_change_72 : decode cX5_change 72 = .ok (.aload_n 0, 1) := by decide +kernel
theorem dX5_change_73 : decode cX5_change 73 = .ok (.getfield 12, 3) := by decide +kernel
theorem dX5_change_76 : decode cX5_change 76 = .ok (.iload_n 2, 1) := by decide +kernel
theorem dX5_change_77 : decode cX5_change 77 = .ok (.aload 4, 2) := by decide +kernel
theorem dX5_change_79 : decode cX5_change 79 = .ok (.invokestatic 68, 3) := by decide +kernel
theorem dX5_change_82 : decode cX5_change 82 = .ok (.invokevirtual 51, 3) := by decide +kernel
theorem dX5_change_85 : decode cX5_change 85 = .ok (.ireturn, 1) := by decide +kernel
theorem dX5_change_86 : decode cX5_change 86 = .ok (.aload_n 0, 1) := by decide +kernel
theorem dX5_change_87 : decode cX5_change 87 = .ok (.getfield 12, 3) := by decide +kernel
theorem dX5_change_90 : decode cX5_change 90 = .ok (.iload_n 2, 1) := by decide +kernel
theorem dX5_change_91 : decode cX5_change 91 = .ok (.iload_n 2, 1) := by decide +kernel
theorem dX5_change_92 : decode cX5_change 92 = .ok (.aload 4, 2) := by decide +kernel
theorem dX5_change_94 : decode cX5_change 94 = .ok (.invokestatic 72, 3) := by decide +kernel
theorem dX5_change_97 : decode cX5_change 97 = .ok (.invokevirtual 51, 3) := by decide +kernel
theorem dX5_change_100 : decode cX5_change 100 = .ok (.ireturn, 1) := by decide +kernel
theorem dX5_change_101 : decode cX5_change 101 = .ok (.aload 4, 2) := by decide +kernel
theorem dX5_change_103 : decode cX5_change 103 = .ok (.getfield 76, 3) := by decide +kernel
theorem dX5_change_106 : decode cX5_change 106 = .ok (.ifCond .eq 13, 3) := by decide +kernel
theorem dX5_change_109 : decode cX5_change 109 = .ok (.aload_n 0, 1) := by decide +kernel
theorem dX5_change_110 : decode cX5_change 110 = .ok (.getfield 12, 3) := by decide +kernel
theorem dX5_change_113 : decode cX5_change 113 = .ok (.getfield 80, 3) := by decide +kernel
theorem dX5_change_116 : decode cX5_change 116 = .ok (.goto 14, 3) := by decide +kernel
theorem dX5_change_119 : decode cX5_change 119 = .ok (.iload_n 3, 1) := by decide +kernel
theorem dX5_change_120 : decode cX5_change 120 = .ok (.aload_n 0, 1) := by decide +kernel
theorem dX5_change_121 : decode cX5_change 121 = .ok (.getfield 12, 3) := by decide +kernel
theorem dX5_change_124 : decode cX5_change 124 = .ok (.getfield 82, 3) := by decide +kernel
theorem dX5_change_127 : decode cX5_change 127 = .ok (.iconst (-1), 1) := by decide +kernel
theorem dX5_change_128 : decode cX5_change 128 = .ok (.ixor, 1) := by decide +kernel
theorem dX5_change_129 : decode cX5_change 129 = .ok (.iand, 1) := by decide +kernel
theorem dX5_change_130 : decode cX5_change 130 = .ok (.ireturn, 1) := by decide +kernel
theorem dX5_change_131 : decode cX5_change 131 = .ok (.aload 4, 2) := by decide +kernel
theorem dX5_change_133 : decode cX5_change 133 = .ok (.getfield 76, 3) := by decide +kernel
theorem dX5_change_136 : decode cX5_change 136 = .ok (.ifCond .eq 13, 3) := by decide +kernel
theorem dX5_change_139 : decode cX5_change 139 = .ok (.aload_n 0, 1) := by decide +kernel
theorem dX5_change_140 : decode cX5_change 140 = .ok (.getfield 12, 3) := by decide +kernel
theorem dX5_change_143 : decode cX5_change 143 = .ok (.getfield 80, 3) := by decide +kernel
theorem dX5_change_146 : decode cX5_change 146 = .ok (.goto 12, 3) := by decide +kernel
theorem dX5_change_149 : decode cX5_change 149 = .ok (.iload_n 3, 1) := by decide +kernel
theorem dX5_change_150 : decode cX5_change 150 = .ok (.aload_n 0, 1) := by decide +kernel
theorem dX5_change_151 : decode cX5_change 151 = .ok (.getfield 12, 3) := by decide +kernel
theorem dX5_change_154 : decode cX5_change 154 = .ok (.getfield 82, 3) := by decide +kernel
theorem dX5_change_157 : decode cX5_change 157 = .ok (.ixor, 1) := by decide +kernel
theorem dX5_change_158 : decode cX5_change 158 = .ok (.ireturn, 1) := by decide +kernel
theorem dX2_root_0 : decode cX2_root 0 = .ok (.aload_n 0, 1) := by decide +kernel
theorem dX2_root_1 : decode cX2_root 1 = .ok (.getfield 9, 3) := by decide +kernel
theorem dX2_root_4 : decode cX2_root 4 = .ok (.ifCond .ne 10, 3) := by decide +kernel
theorem dX2_root_7 : decode cX2_root 7 = .ok (.aload_n 0, 1) := by decide +kernel
theorem dX2_root_8 : decode cX2_root 8 = .ok (.invokevirtual 75, 3) := by decide +kernel
theorem dX2_root_11 : decode cX2_root 11 = .ok (.ifCond .eq 5, 3) := by decide +kernel
theorem dX2_root_14 : decode cX2_root 14 = .ok (.aload_n 0, 1) := by decide +kernel
theorem dX2_root_15 : decode cX2_root 15 = .ok (.areturn, 1) := by decide +kernel
theorem dX2_root_16 : decode cX2_root 16 = .ok (.aload_n 0, 1) := by decide +kernel
theorem dX2_root_17 : decode cX2_root 17 = .ok (.getfield 22, 3) := by decide +kernel
theorem dX2_root_20 : decode cX2_root 20 = .ok (.lconst 1, 1) := by decide +kernel
theorem dX2_root_21 : decode cX2_root 21 = .ok (.lcmp, 1) := by decide +kernel
theorem dX2_root_22 : decode cX2_root 22 = .ok (.ifCond .ne 7, 3) := by decide +kernel
theorem dX2_root_25 : decode cX2_root 25 = .ok (.invokestatic 15, 3) := by decide +kernel
theorem dX2_root_28 : decode cX2_root 28 = .ok (.areturn, 1) := by decide +kernel
theorem dX2_root_29 : decode cX2_root 29 = .ok (.aload_n 0, 1) := by decide +kernel
theorem dX2_root_30 : decode cX2_root 30 = .ok (.getfield 19, 3) := by decide +kernel
theorem dX2_root_33 : decode cX2_root 33 = .ok (.ifCond .eq 5, 3) := by decide +kernel
theorem dX2_root_36 : decode cX2_root 36 = .ok (.aload_n 0, 1) := by decide +kernel
theorem dX2_root_37 : decode cX2_root 37 = .ok (.areturn, 1) := by decide +kernel
theorem dX2_root_38 : decode cX2_root 38 = .ok (.aload_n 0, 1) := by decide +kernel
theorem dX2_root_39 : decode cX2_root 39 = .ok (.getfield 26, 3) := by decide +kernel
theorem dX2_root_42 : decode cX2_root 42 = .ok (.lconst 1, 1) := by decide +kernel
theorem dX2_root_43 : decode cX2_root 43 = .ok (.land, 1) := by decide +kernel
theorem dX2_root_44 : decode cX2_root 44 = .ok (.lstore_n 1, 1) := by decide +kernel
theorem dX2_root_45 : decode cX2_root 45 = .ok (.lload_n 1, 1) := by decide +kernel
theorem dX2_root_46 : decode cX2_root 46 = .ok (.aload_n 0, 1) := by decide +kernel
theorem dX2_root_47 : decode cX2_root 47 = .ok (.getfield 69, 3) := by decide +kernel
theorem dX2_root_50 : decode cX2_root 50 = .ok (.iconst 1, 1) := by decide +kernel
theorem dX2_root_51 : decode cX2_root 51 = .ok (.lshl, 1) := by decide +kernel
theorem dX2_root_52 : decode cX2_root 52 = .ok (.aload_n 0, 1) := by decide +kernel
theorem dX2_root_53 : decode cX2_root 53 = .ok (.getfield 69, 3) := by decide +kernel
theorem dX2_root_56 : decode cX2_root 56 = .ok (.invokestatic 35, 3) := by decide +kernel
theorem dX2_root_59 : decode cX2_root 59 = .ok (.bipush 24, 2) := by decide +kernel
theorem dX2_root_61 : decode cX2_root 61 = .ok (.lshl, 1) := by decide +kernel
theorem dX2_root_62 : decode cX2_root 62 = .ok (.lstore_n 3, 1) := by decide +kernel
theorem dX2_root_63 : decode cX2_root 63 = .ok (.aload_n 0, 1) := by decide +kernel
theorem dX2_root_64 : decode cX2_root 64 = .ok (.getfield 26, 3) := by decide +kernel
theorem dX2_root_67 : decode cX2_root 67 = .ok (.lload_n 1, 1) := by decide +kernel
theorem dX2_root_68 : decode cX2_root 68 = .ok (.invokestatic 66, 3) := by decide +kernel
theorem dX2_root_71 : decode cX2_root 71 = .ok (.iconst 1, 1) := by decide +kernel
theorem dX2_root_72 : decode cX2_root 72 = .ok (.lshr, 1) := by decide +kernel
theorem dX2_root_73 : decode cX2_root 73 = .ok (.lstore 5, 2) := by decide +kernel
theorem dX2_root_75 : decode cX2_root 75 = .ok (.bipush 18, 2) := by decide +kernel
theorem dX2_root_77 : decode cX2_root 77 = .ok (.istore 7, 2) := by decide +kernel
theorem dX2_root_79 : decode cX2_root 79 = .ok (.lload 5, 2) := by decide +kernel
theorem dX2_root_81 : decode cX2_root 81 = .ok (.ldc2_w 94, 3) := by decide +kernel
theorem dX2_root_84 : decode cX2_root 84 = .ok (.invokestatic 66, 3) := by decide +kernel
theorem dX2_root_87 : decode cX2_root 87 = .ok (.lstore 8, 2) := by decide +kernel
theorem dX2_root_89 : decode cX2_root 89 = .ok (.lconst 0, 1) := by decide +kernel
theorem dX2_root_90 : decode cX2_root 90 = .ok (.lload 8, 2) := by decide +kernel
theorem dX2_root_92 : decode cX2_root 92 = .ok (.lload_n 3, 1) := by decide +kernel
theorem dX2_root_93 : decode cX2_root 93 = .ok (.iload 7, 2) := by decide +kernel
theorem dX2_root_95 : decode cX2_root 95 = .ok (.invokestatic 96, 3) := by decide +kernel
theorem dX2_root_98 : decode cX2_root 98 = .ok (.invokestatic 56, 3) := by decide +kernel
theorem dX2_root_101 : decode cX2_root 101 = .ok (.areturn, 1) := by decide +kernel
theorem dX1_root_0 : decode cX1_root 0 = .ok (.lconst 0, 1) := by decide +kernel
theorem dX1_root_1 : decode cX1_root 1 = .ok (.lstore_n 3, 1) := by decide +kernel
theorem dX1_root_2 : decode cX1_root 2 = .ok (.lconst 0, 1) := by decide +kernel
theorem dX1_root_3 : decode cX1_root 3 = .ok (.lstore 5, 2) := by decide +kernel
theorem dX1_root_5 : decode cX1_root 5 = .ok (.iload_n 2, 1) := by decide +kernel
theorem dX1_root_6 : decode cX1_root 6 = .ok (.iconst 1, 1) := by decide +kernel
theorem dX1_root_7 : decode cX1_root 7 = .ok (.isub, 1) := by decide +kernel
theorem dX1_root_8 : decode cX1_root 8 = .ok (.istore 7, 2) := by decide +kernel
theorem dX1_root_10 : decode cX1_root 10 = .ok (.iload 7, 2) := by decide +kernel
theorem dX1_root_12 : decode cX1_root 12 = .ok (.ifCond .lt 65, 3) := by decide +kernel
theorem dX1_root_15 : decode cX1_root 15 = .ok (.lload 5, 2) := by decide +kernel
theorem dX1_root_17 : decode cX1_root 17 = .ok (.iconst 2, 1) := by decide +kernel
theorem dX1_root_18 : decode cX1_root 18 = .ok (.lshl, 1) := by decide +kernel
theorem dX1_root_19 : decode cX1_root 19 = .ok (.lload_n 0, 1) := by decide +kernel
theorem dX1_root_20 : decode cX1_root 20 = .ok (.iconst 2, 1) := by decide +kernel
theorem dX1_root_21 : decode cX1_root 21 = .ok (.iload 7, 2) := by decide +kernel
theorem dX1_root_23 : decode cX1_root 23 = .ok (.imul, 1) := by decide +kernel
theorem dX1_root_24 : decode cX1_root 24 = .ok (.lushr, 1) := by decide +kernel
theorem dX1_root_25 : decode cX1_root 25 = .ok (.ldc2_w 39, 3) := by decide +kernel
theorem dX1_root_28 : decode cX1_root 28 = .ok (.land, 1) := by decide +kernel
theorem dX1_root_29 : decode cX1_root 29 = .ok (.lor, 1) := by decide +kernel
theorem dX1_root_30 : decode cX1_root 30 = .ok (.lstore 5, 2) := by decide +kernel
theorem dX1_root_32 : decode cX1_root 32 = .ok (.lload 5, 2) := by decide +kernel
theorem dX1_root_34 : decode cX1_root 34 = .ok (.lload_n 3, 1) := by decide +kernel
theorem dX1_root_35 : decode cX1_root 35 = .ok (.iconst 2, 1) := by decide +kernel
theorem dX1_root_36 : decode cX1_root 36 = .ok (.lshl, 1) := by decide +kernel
theorem dX1_root_37 : decode cX1_root 37 = .ok (.lconst 1, 1) := by decide +kernel
theorem dX1_root_38 : decode cX1_root 38 = .ok (.lor, 1) := by decide +kernel
theorem dX1_root_39 : decode cX1_root 39 = .ok (.invokestatic 19, 3) := by decide +kernel
theorem dX1_root_42 : decode cX1_root 42 = .ok (.lstore 8, 2) := by decide +kernel
theorem dX1_root_44 : decode cX1_root 44 = .ok (.lload 8, 2) := by decide +kernel
theorem dX1_root_46 : decode cX1_root 46 = .ok (.invokestatic 23, 3) := by decide +kernel
theorem dX1_root_49 : decode cX1_root 49 = .ok (.lconst 1, 1) := by decide +kernel
theorem dX1_root_50 : decode cX1_root 50 = .ok (.lxor, 1) := by decide +kernel
theorem dX1_root_51 : decode cX1_root 51 = .ok (.lstore 10, 2) := by decide +kernel
theorem dX1_root_53 : decode cX1_root 53 = .ok (.lload 10, 2) := by decide +kernel
theorem dX1_root_55 : decode cX1_root 55 = .ok (.lload 8, 2) := by decide +kernel
theorem dX1_root_57 : decode cX1_root 57 = .ok (.lload 5, 2) := by decide +kernel
theorem dX1_root_59 : decode cX1_root 59 = .ok (.invokestatic 26, 3) := by decide +kernel
theorem dX1_root_62 : decode cX1_root 62 = .ok (.lstore 5, 2) := by decide +kernel
theorem dX1_root_64 : decode cX1_root 64 = .ok (.lload_n 3, 1) := by decide +kernel
theorem dX1_root_65 : decode cX1_root 65 = .ok (.iconst 1, 1) := by decide +kernel
theorem dX1_root_66 : decode cX1_root 66 = .ok (.lshl, 1) := by decide +kernel
theorem dX1_root_67 : decode cX1_root 67 = .ok (.lload 10, 2) := by decide +kernel
theorem dX1_root_69 : decode cX1_root 69 = .ok (.lor, 1) := by decide +kernel
theorem dX1_root_70 : decode cX1_root 70 = .ok (.lstore_n 3, 1) := by decide +kernel
theorem dX1_root_71 : decode cX1_root 71 = .ok (.iinc 7 (-1), 3) := by decide +kernel
theorem dX1_root_74 : decode cX1_root 74 = .ok (.goto (-64), 3) := by decide +kernel
theorem dX1_root_77 : decode cX1_root 77 = .ok (.lload_n 3, 1) := by decide +kernel
theorem dX1_root_78 : decode cX1_root 78 = .ok (.iconst 1, 1) := by decide +kernel
theorem dX1_root_79 : decode cX1_root 79 = .ok (.lshl, 1) := by decide +kernel
theorem dX1_root_80 : decode cX1_root 80 = .ok (.lload 5, 2) := by decide +kernel
theorem dX1_root_82 : decode cX1_root 82 = .ok (.invokestatic 33, 3) := by decide +kernel
theorem dX1_root_85 : decode cX1_root 85 = .ok (.lor, 1) := by decide +kernel
theorem dX1_root_86 : decode cX1_root 86 = .ok (.lreturn, 1) := by decide +kernel
theorem dX2_whole_0 : decode cX2_whole 0 = .ok (.aload_n 1, 1) := by decide +kernel
theorem dX2_whole_1 : decode cX2_whole 1 = .ok (.getfield 9, 3) := by decide +kernel
theorem dX2_whole_4 : decode cX2_whole 4 = .ok (.ifCond .ne 10, 3) := by decide +kernel
theorem dX2_whole_7 : decode cX2_whole 7 = .ok (.aload_n 1, 1) := by decide +kernel
theorem dX2_whole_8 : decode cX2_whole 8 = .ok (.getfield 19, 3) := by decide +kernel
theorem dX2_whole_11 : decode cX2_whole 11 = .ok (.ifCond .eq 5, 3) := by decide +kernel
theorem dX2_whole_14 : decode cX2_whole 14 = .ok (.aload_n 1, 1) := by decide +kernel
theorem dX2_whole_15 : decode cX2_whole 15 = .ok (.areturn, 1) := by decide +kernel
theorem dX2_whole_16 : decode cX2_whole 16 = .ok (.aload_n 1, 1) := by decide +kernel
theorem dX2_whole_17 : decode cX2_whole 17 = .ok (.getfield 22, 3) := by decide +kernel
theorem dX2_whole_20 : decode cX2_whole 20 = .ok (.lconst 0, 1) := by decide +kernel
theorem dX2_whole_21 : decode cX2_whole 21 = .ok (.iload_n 0, 1) := by decide +kernel
theorem dX2_whole_22 : decode cX2_whole 22 = .ok (.aload_n 1, 1) := by decide +kernel
theorem dX2_whole_23 : decode cX2_whole 23 = .ok (.lconst 0, 1) := by decide +kernel
theorem dX2_whole_24 : decode cX2_whole 24 = .ok (.invokestatic 100, 3) := by decide +kernel
theorem dX2_whole_27 : decode cX2_whole 27 = .ok (.invokestatic 56, 3) := by decide +kernel
theorem dX2_whole_30 : decode cX2_whole 30 = .ok (.areturn, 1) := by decide +kernel
theorem dL_least_0 : decode cL_least 0 = .ok (.aload 4, 2) := by decide +kernel
theorem dL_least_2 : decode cL_least 2 = .ok (.iconst 0, 1) := by decide +kernel
theorem dL_least_3 : decode cL_least 3 = .ok (.aload_n 0, 1) := by decide +kernel
theorem dL_least_4 : decode cL_least 4 = .ok (.iload_n 1, 1) := by decide +kernel
theorem dL_least_5 : decode cL_least 5 = .ok (.iload_n 2, 1) := by decide +kernel
theorem dL_least_6 : decode cL_least 6 = .ok (.iload_n 3, 1) := by decide +kernel
theorem dL_least_7 : decode cL_least 7 = .ok (.invokevirtual 23, 3) := by decide +kernel
theorem dL_least_10 : decode cL_least 10 = .ok (.i2l, 1) := by decide +kernel
theorem dL_least_11 : decode cL_least 11 = .ok (.lastore, 1) := by decide +kernel
theorem dL_least_12 : decode cL_least 12 = .ok (.goto 7, 3) := by decide +kernel
theorem dL_least_15 : decode cL_least 15 = .ok (.astore 5, 2) := by decide +kernel
theorem dL_least_17 : decode cL_least 17 = .ok (.iconst 1, 1) := by decide +kernel
theorem dL_least_18 : decode cL_least 18 = .ok (.ireturn, 1) := by decide +kernel
theorem dL_least_19 : decode cL_least 19 = .ok (.iconst 0, 1) := by decide +kernel
theorem dL_least_20 : decode cL_least 20 = .ok (.ireturn, 1) := by decide +kernel
theorem dX5_least_0 : decode cX5_least 0 = .ok (.aload_n 0, 1) := by decide +kernel
theorem dX5_least_1 : decode cX5_least 1 = .ok (.getfield 12, 3) := by decide +kernel
theorem dX5_least_4 : decode cX5_least 4 = .ok (.iload_n 1, 1) := by decide +kernel
theorem dX5_least_5 : decode cX5_least 5 = .ok (.invokevirtual 38, 3) := by decide +kernel
theorem dX5_least_8 : decode cX5_least 8 = .ok (.ifCond .eq 18, 3) := by decide +kernel
theorem dX5_least_11 : decode cX5_least 11 = .ok (.aload_n 0, 1) := by decide +kernel
theorem dX5_least_12 : decode cX5_least 12 = .ok (.getfield 12, 3) := by decide +kernel
theorem dX5_least_15 : decode cX5_least 15 = .ok (.iload_n 2, 1) := by decide +kernel
theorem dX5_least_16 : decode cX5_least 16 = .ok (.invokevirtual 38, 3) := by decide +kernel
theorem dX5_least_19 : decode cX5_least 19 = .ok (.ifCond .eq 7, 3) := by decide +kernel
theorem dX5_least_22 : decode cX5_least 22 = .ok (.iconst 1, 1) := by decide +kernel
theorem dX5_least_23 : decode cX5_least 23 = .ok (.goto 4, 3) := by decide +kernel
theorem dX5_least_26 : decode cX5_least 26 = .ok (.iconst 0, 1) := by decide +kernel
theorem dX5_least_27 : decode cX5_least 27 = .ok (.invokestatic 22, 3) := by decide +kernel
theorem dX5_least_30 : decode cX5_least 30 = .ok (.aload_n 0, 1) := by decide +kernel
theorem dX5_least_31 : decode cX5_least 31 = .ok (.getfield 12, 3) := by decide +kernel
theorem dX5_least_34 : decode cX5_least 34 = .ok (.iload_n 1, 1) := by decide +kernel
theorem dX5_least_35 : decode cX5_least 35 = .ok (.invokevirtual 85, 3) := by decide +kernel
theorem dX5_least_38 : decode cX5_least 38 = .ok (.ifCond .eq 26, 3) := by decide +kernel
theorem dX5_least_41 : decode cX5_least 41 = .ok (.aload_n 0, 1) := by decide +kernel
theorem dX5_least_42 : decode cX5_least 42 = .ok (.getfield 12, 3) := by decide +kernel
end
section
theorem dX5_least_45 : decode cX5_least 45 = .ok (.iload_n 2, 1) := by decide +kernel
theorem dX5_least_46 : decode cX5_least 46 = .ok (.invokevirtual 85, 3) := by decide +kernel
theorem dX5_least_49 : decode cX5_least 49 = .ok (.ifCond .eq 13, 3) := by decide +kernel
theorem dX5_least_52 : decode cX5_least 52 = .ok (.aload_n 0, 1) := by decide +kernel
theorem dX5_least_53 : decode cX5_least 53 = .ok (.getfield 12, 3) := by decide +kernel
theorem dX5_least_56 : decode cX5_least 56 = .ok (.getfield 80, 3) := by decide +kernel
theorem dX5_least_59 : decode cX5_least 59 = .ok (.goto 4, 3) := by decide +kernel
theorem dX5_least_62 : decode cX5_least 62 = .ok (.iload_n 2, 1) := by decide +kernel
theorem dX5_least_63 : decode cX5_least 63 = .ok (.ireturn, 1) := by decide +kernel
theorem dX5_least_64 : decode cX5_least 64 = .ok (.aload_n 0, 1) := by decide +kernel
theorem dX5_least_65 : decode cX5_least 65 = .ok (.getfield 12, 3) := by decide +kernel
theorem dX5_least_68 : decode cX5_least 68 = .ok (.iload_n 2, 1) := by decide +kernel
theorem dX5_least_69 : decode cX5_least 69 = .ok (.invokevirtual 85, 3) := by decide +kernel
theorem dX5_least_72 : decode cX5_least 72 = .ok (.ifCond .eq 5, 3) := by decide +kernel
theorem dX5_least_75 : decode cX5_least 75 = .ok (.iload_n 1, 1) := by decide +kernel
theorem dX5_least_76 : decode cX5_least 76 = .ok (.ireturn, 1) := by decide +kernel
theorem dX5_least_77 : decode cX5_least 77 = .ok (.iload_n 3, 1) := by decide +kernel
theorem dX5_least_78 : decode cX5_least 78 = .ok (.ifCond .eq 15, 3) := by decide +kernel
theorem dX5_least_81 : decode cX5_least 81 = .ok (.aload_n 0, 1) := by decide +kernel
theorem dX5_least_82 : decode cX5_least 82 = .ok (.getfield 12, 3) := by decide +kernel
theorem dX5_least_85 : decode cX5_least 85 = .ok (.iload_n 2, 1) := by decide +kernel
theorem dX5_least_86 : decode cX5_least 86 = .ok (.iload_n 1, 1) := by decide +kernel
theorem dX5_least_87 : decode cX5_least 87 = .ok (.invokevirtual 88, 3) := by decide +kernel
theorem dX5_least_90 : decode cX5_least 90 = .ok (.goto 12, 3) := by decide +kernel
theorem dX5_least_93 : decode cX5_least 93 = .ok (.aload_n 0, 1) := by decide +kernel
theorem dX5_least_94 : decode cX5_least 94 = .ok (.getfield 12, 3) := by decide +kernel
theorem dX5_least_97 : decode cX5_least 97 = .ok (.iload_n 1, 1) := by decide +kernel
theorem dX5_least_98 : decode cX5_least 98 = .ok (.iload_n 2, 1) := by decide +kernel
theorem dX5_least_99 : decode cX5_least 99 = .ok (.invokevirtual 88, 3) := by decide +kernel
theorem dX5_least_102 : decode cX5_least 102 = .ok (.istore 4, 2) := by decide +kernel
theorem dX5_least_104 : decode cX5_least 104 = .ok (.iload 4, 2) := by decide +kernel
theorem dX5_least_106 : decode cX5_least 106 = .ok (.ifCond .eq 7, 3) := by decide +kernel
theorem dX5_least_109 : decode cX5_least 109 = .ok (.iload_n 1, 1) := by decide +kernel
theorem dX5_least_110 : decode cX5_least 110 = .ok (.goto 4, 3) := by decide +kernel
theorem dX5_least_113 : decode cX5_least 113 = .ok (.iload_n 2, 1) := by decide +kernel
theorem dX5_least_114 : decode cX5_least 114 = .ok (.ireturn, 1) := by decide +kernel
theorem dX0_isBelow_0 : decode cX0_isBelow 0 = .ok (.aload_n 0, 1) := by decide +kernel
theorem dX0_isBelow_1 : decode cX0_isBelow 1 = .ok (.iload_n 1, 1) := by decide +kernel
theorem dX0_isBelow_2 : decode cX0_isBelow 2 = .ok (.invokevirtual 48, 3) := by decide +kernel
theorem dX0_isBelow_5 : decode cX0_isBelow 5 = .ok (.aload_n 0, 1) := by decide +kernel
theorem dX0_isBelow_6 : decode cX0_isBelow 6 = .ok (.iload_n 2, 1) := by decide +kernel
theorem dX0_isBelow_7 : decode cX0_isBelow 7 = .ok (.invokevirtual 48, 3) := by decide +kernel
theorem dX0_isBelow_10 : decode cX0_isBelow 10 = .ok (.invokestatic 38, 3) := by decide +kernel
theorem dX0_isBelow_13 : decode cX0_isBelow 13 = .ok (.lconst 1, 1) := by decide +kernel
theorem dX0_isBelow_14 : decode cX0_isBelow 14 = .ok (.lcmp, 1) := by decide +kernel
theorem dX0_isBelow_15 : decode cX0_isBelow 15 = .ok (.ifCond .ne 7, 3) := by decide +kernel
theorem dX0_isBelow_18 : decode cX0_isBelow 18 = .ok (.iconst 1, 1) := by decide +kernel
theorem dX0_isBelow_19 : decode cX0_isBelow 19 = .ok (.goto 4, 3) := by decide +kernel
theorem dX0_isBelow_22 : decode cX0_isBelow 22 = .ok (.iconst 0, 1) := by decide +kernel
theorem dX0_isBelow_23 : decode cX0_isBelow 23 = .ok (.ireturn, 1) := by decide +kernel
theorem dX0_rank_0 : decode cX0_rank 0 = .ok (.aload_n 0, 1) := by decide +kernel
theorem dX0_rank_1 : decode cX0_rank 1 = .ok (.iload_n 1, 1) := by decide +kernel
theorem dX0_rank_2 : decode cX0_rank 2 = .ok (.invokevirtual 51, 3) := by decide +kernel
theorem dX0_rank_5 : decode cX0_rank 5 = .ok (.aload_n 0, 1) := by decide +kernel
theorem dX0_rank_6 : decode cX0_rank 6 = .ok (.iload_n 1, 1) := by decide +kernel
theorem dX0_rank_7 : decode cX0_rank 7 = .ok (.invokevirtual 34, 3) := by decide +kernel
theorem dX0_rank_10 : decode cX0_rank 10 = .ok (.invokestatic 125, 3) := by decide +kernel
theorem dX0_rank_13 : decode cX0_rank 13 = .ok (.lreturn, 1) := by decide +kernel
theorem dL_compare_0 : decode cL_compare 0 = .ok (.aload 4, 2) := by decide +kernel
theorem dL_compare_2 : decode cL_compare 2 = .ok (.iconst 0, 1) := by decide +kernel
theorem dL_compare_3 : decode cL_compare 3 = .ok (.aload_n 0, 1) := by decide +kernel
theorem dL_compare_4 : decode cL_compare 4 = .ok (.iload_n 1, 1) := by decide +kernel
theorem dL_compare_5 : decode cL_compare 5 = .ok (.iload_n 2, 1) := by decide +kernel
theorem dL_compare_6 : decode cL_compare 6 = .ok (.iload_n 3, 1) := by decide +kernel
theorem dL_compare_7 : decode cL_compare 7 = .ok (.invokevirtual 27, 3) := by decide +kernel
theorem dL_compare_10 : decode cL_compare 10 = .ok (.ifCond .eq 7, 3) := by decide +kernel
theorem dL_compare_13 : decode cL_compare 13 = .ok (.lconst 1, 1) := by decide +kernel
theorem dL_compare_14 : decode cL_compare 14 = .ok (.goto 4, 3) := by decide +kernel
theorem dL_compare_17 : decode cL_compare 17 = .ok (.lconst 0, 1) := by decide +kernel
theorem dL_compare_18 : decode cL_compare 18 = .ok (.lastore, 1) := by decide +kernel
theorem dL_compare_19 : decode cL_compare 19 = .ok (.goto 7, 3) := by decide +kernel
theorem dL_compare_22 : decode cL_compare 22 = .ok (.astore 5, 2) := by decide +kernel
theorem dL_compare_24 : decode cL_compare 24 = .ok (.iconst 1, 1) := by decide +kernel
theorem dL_compare_25 : decode cL_compare 25 = .ok (.ireturn, 1) := by decide +kernel
theorem dL_compare_26 : decode cL_compare 26 = .ok (.iconst 0, 1) := by decide +kernel
theorem dL_compare_27 : decode cL_compare 27 = .ok (.ireturn, 1) := by decide +kernel
theorem dX5_compare_0 : decode cX5_compare 0 = .ok (.iload_n 1, 1) := by decide +kernel
theorem dX5_compare_1 : decode cX5_compare 1 = .ok (.iconst 0, 1) := by decide +kernel
theorem dX5_compare_2 : decode cX5_compare 2 = .ok (.iconst 3, 1) := by decide +kernel
theorem dX5_compare_3 : decode cX5_compare 3 = .ok (.invokestatic 30, 3) := by decide +kernel
theorem dX5_compare_6 : decode cX5_compare 6 = .ok (.ifCond .eq 29, 3) := by decide +kernel
theorem dX5_compare_9 : decode cX5_compare 9 = .ok (.aload_n 0, 1) := by decide +kernel
theorem dX5_compare_10 : decode cX5_compare 10 = .ok (.getfield 12, 3) := by decide +kernel
theorem dX5_compare_13 : decode cX5_compare 13 = .ok (.iload_n 2, 1) := by decide +kernel
theorem dX5_compare_14 : decode cX5_compare 14 = .ok (.invokevirtual 38, 3) := by decide +kernel
theorem dX5_compare_17 : decode cX5_compare 17 = .ok (.ifCond .eq 18, 3) := by decide +kernel
theorem dX5_compare_20 : decode cX5_compare 20 = .ok (.aload_n 0, 1) := by decide +kernel
theorem dX5_compare_21 : decode cX5_compare 21 = .ok (.getfield 12, 3) := by decide +kernel
theorem dX5_compare_24 : decode cX5_compare 24 = .ok (.iload_n 3, 1) := by decide +kernel
theorem dX5_compare_25 : decode cX5_compare 25 = .ok (.invokevirtual 38, 3) := by decide +kernel
theorem dX5_compare_28 : decode cX5_compare 28 = .ok (.ifCond .eq 7, 3) := by decide +kernel
theorem dX5_compare_31 : decode cX5_compare 31 = .ok (.iconst 1, 1) := by decide +kernel
theorem dX5_compare_32 : decode cX5_compare 32 = .ok (.goto 4, 3) := by decide +kernel
theorem dX5_compare_35 : decode cX5_compare 35 = .ok (.iconst 0, 1) := by decide +kernel
theorem dX5_compare_36 : decode cX5_compare 36 = .ok (.invokestatic 22, 3) := by decide +kernel
theorem dX5_compare_39 : decode cX5_compare 39 = .ok (.aload_n 0, 1) := by decide +kernel
theorem dX5_compare_40 : decode cX5_compare 40 = .ok (.getfield 12, 3) := by decide +kernel
theorem dX5_compare_43 : decode cX5_compare 43 = .ok (.iload_n 2, 1) := by decide +kernel
theorem dX5_compare_44 : decode cX5_compare 44 = .ok (.invokevirtual 85, 3) := by decide +kernel
theorem dX5_compare_47 : decode cX5_compare 47 = .ok (.ifCond .ne 14, 3) := by decide +kernel
theorem dX5_compare_50 : decode cX5_compare 50 = .ok (.aload_n 0, 1) := by decide +kernel
theorem dX5_compare_51 : decode cX5_compare 51 = .ok (.getfield 12, 3) := by decide +kernel
theorem dX5_compare_54 : decode cX5_compare 54 = .ok (.iload_n 3, 1) := by decide +kernel
theorem dX5_compare_55 : decode cX5_compare 55 = .ok (.invokevirtual 85, 3) := by decide +kernel
theorem dX5_compare_58 : decode cX5_compare 58 = .ok (.ifCond .eq 36, 3) := by decide +kernel
theorem dX5_compare_61 : decode cX5_compare 61 = .ok (.iload_n 1, 1) := by decide +kernel
theorem dX5_compare_62 : decode cX5_compare 62 = .ok (.iconst 3, 1) := by decide +kernel
theorem dX5_compare_63 : decode cX5_compare 63 = .ok (.if_icmp .ne 29, 3) := by decide +kernel
theorem dX5_compare_66 : decode cX5_compare 66 = .ok (.aload_n 0, 1) := by decide +kernel
theorem dX5_compare_67 : decode cX5_compare 67 = .ok (.getfield 12, 3) := by decide +kernel
theorem dX5_compare_70 : decode cX5_compare 70 = .ok (.iload_n 2, 1) := by decide +kernel
theorem dX5_compare_71 : decode cX5_compare 71 = .ok (.invokevirtual 85, 3) := by decide +kernel
theorem dX5_compare_74 : decode cX5_compare 74 = .ok (.ifCond .eq 18, 3) := by decide +kernel
theorem dX5_compare_77 : decode cX5_compare 77 = .ok (.aload_n 0, 1) := by decide +kernel
theorem dX5_compare_78 : decode cX5_compare 78 = .ok (.getfield 12, 3) := by decide +kernel
theorem dX5_compare_81 : decode cX5_compare 81 = .ok (.iload_n 3, 1) := by decide +kernel
theorem dX5_compare_82 : decode cX5_compare 82 = .ok (.invokevirtual 85, 3) := by decide +kernel
theorem dX5_compare_85 : decode cX5_compare 85 = .ok (.ifCond .eq 7, 3) := by decide +kernel
theorem dX5_compare_88 : decode cX5_compare 88 = .ok (.iconst 1, 1) := by decide +kernel
theorem dX5_compare_89 : decode cX5_compare 89 = .ok (.goto 4, 3) := by decide +kernel
theorem dX5_compare_92 : decode cX5_compare 92 = .ok (.iconst 0, 1) := by decide +kernel
theorem dX5_compare_93 : decode cX5_compare 93 = .ok (.ireturn, 1) := by decide +kernel
theorem dX5_compare_94 : decode cX5_compare 94 = .ok (.iload_n 1, 1) := by decide +kernel
theorem dX5_compare_95 : decode cX5_compare 95 = .ok (.tableswitch 83 0 2 #[25, 35, 53], 25) := by decide +kernel
theorem dX5_compare_120 : decode cX5_compare 120 = .ok (.aload_n 0, 1) := by decide +kernel
theorem dX5_compare_121 : decode cX5_compare 121 = .ok (.getfield 12, 3) := by decide +kernel
theorem dX5_compare_124 : decode cX5_compare 124 = .ok (.iload_n 2, 1) := by decide +kernel
theorem dX5_compare_125 : decode cX5_compare 125 = .ok (.iload_n 3, 1) := by decide +kernel
theorem dX5_compare_126 : decode cX5_compare 126 = .ok (.invokevirtual 88, 3) := by decide +kernel
theorem dX5_compare_129 : decode cX5_compare 129 = .ok (.ireturn, 1) := by decide +kernel
theorem dX5_compare_130 : decode cX5_compare 130 = .ok (.aload_n 0, 1) := by decide +kernel
theorem dX5_compare_131 : decode cX5_compare 131 = .ok (.getfield 12, 3) := by decide +kernel
theorem dX5_compare_134 : decode cX5_compare 134 = .ok (.iload_n 3, 1) := by decide +kernel
theorem dX5_compare_135 : decode cX5_compare 135 = .ok (.iload_n 2, 1) := by decide +kernel
theorem dX5_compare_136 : decode cX5_compare 136 = .ok (.invokevirtual 88, 3) := by decide +kernel
theorem dX5_compare_139 : decode cX5_compare 139 = .ok (.ifCond .ne 7, 3) := by decide +kernel
theorem dX5_compare_142 : decode cX5_compare 142 = .ok (.iconst 1, 1) := by decide +kernel
theorem dX5_compare_143 : decode cX5_compare 143 = .ok (.goto 4, 3) := by decide +kernel
theorem dX5_compare_146 : decode cX5_compare 146 = .ok (.iconst 0, 1) := by decide +kernel
theorem dX5_compare_147 : decode cX5_compare 147 = .ok (.ireturn, 1) := by decide +kernel
theorem dX5_compare_148 : decode cX5_compare 148 = .ok (.aload_n 0, 1) := by decide +kernel
theorem dX5_compare_149 : decode cX5_compare 149 = .ok (.getfield 12, 3) := by decide +kernel
theorem dX5_compare_152 : decode cX5_compare 152 = .ok (.iload_n 2, 1) := by decide +kernel
theorem dX5_compare_153 : decode cX5_compare 153 = .ok (.iload_n 3, 1) := by decide +kernel
theorem dX5_compare_154 : decode cX5_compare 154 = .ok (.invokevirtual 88, 3) := by decide +kernel
theorem dX5_compare_157 : decode cX5_compare 157 = .ok (.ifCond .ne 19, 3) := by decide +kernel
theorem dX5_compare_160 : decode cX5_compare 160 = .ok (.aload_n 0, 1) := by decide +kernel
theorem dX5_compare_161 : decode cX5_compare 161 = .ok (.getfield 12, 3) := by decide +kernel
theorem dX5_compare_164 : decode cX5_compare 164 = .ok (.iload_n 3, 1) := by decide +kernel
theorem dX5_compare_165 : decode cX5_compare 165 = .ok (.iload_n 2, 1) := by decide +kernel
theorem dX5_compare_166 : decode cX5_compare 166 = .ok (.invokevirtual 88, 3) := by decide +kernel
theorem dX5_compare_169 : decode cX5_compare 169 = .ok (.ifCond .ne 7, 3) := by decide +kernel
theorem dX5_compare_172 : decode cX5_compare 172 = .ok (.iconst 1, 1) := by decide +kernel
theorem dX5_compare_173 : decode cX5_compare 173 = .ok (.goto 4, 3) := by decide +kernel
theorem dX5_compare_176 : decode cX5_compare 176 = .ok (.iconst 0, 1) := by decide +kernel
theorem dX5_compare_177 : decode cX5_compare 177 = .ok (.ireturn, 1) := by decide +kernel
theorem dX5_compare_178 : decode cX5_compare 178 = .ok (.iload_n 2, 1) := by decide +kernel
theorem dX5_compare_179 : decode cX5_compare 179 = .ok (.iload_n 3, 1) := by decide +kernel
theorem dX5_compare_180 : decode cX5_compare 180 = .ok (.ixor, 1) := by decide +kernel
theorem dX5_compare_181 : decode cX5_compare 181 = .ok (.i2l, 1) := by decide +kernel
theorem dX5_compare_182 : decode cX5_compare 182 = .ok (.invokestatic 91, 3) := by decide +kernel
theorem dX5_compare_185 : decode cX5_compare 185 = .ok (.lconst 0, 1) := by decide +kernel
theorem dX5_compare_186 : decode cX5_compare 186 = .ok (.lcmp, 1) := by decide +kernel
theorem dX5_compare_187 : decode cX5_compare 187 = .ok (.ifCond .ne 7, 3) := by decide +kernel
theorem dX5_compare_190 : decode cX5_compare 190 = .ok (.iconst 1, 1) := by decide +kernel
theorem dX5_compare_191 : decode cX5_compare 191 = .ok (.goto 4, 3) := by decide +kernel
theorem dX5_compare_194 : decode cX5_compare 194 = .ok (.iconst 0, 1) := by decide +kernel
theorem dX5_compare_195 : decode cX5_compare 195 = .ok (.ireturn, 1) := by decide +kernel
theorem dL_is_0 : decode cL_is 0 = .ok (.aload_n 3, 1) := by decide +kernel
theorem dL_is_1 : decode cL_is 1 = .ok (.iconst 0, 1) := by decide +kernel
theorem dL_is_2 : decode cL_is 2 = .ok (.aload_n 0, 1) := by decide +kernel
theorem dL_is_3 : decode cL_is 3 = .ok (.iload_n 1, 1) := by decide +kernel
theorem dL_is_4 : decode cL_is 4 = .ok (.iload_n 2, 1) := by decide +kernel
theorem dL_is_5 : decode cL_is 5 = .ok (.invokevirtual 31, 3) := by decide +kernel
theorem dL_is_8 : decode cL_is 8 = .ok (.ifCond .eq 7, 3) := by decide +kernel
theorem dL_is_11 : decode cL_is 11 = .ok (.lconst 1, 1) := by decide +kernel
theorem dL_is_12 : decode cL_is 12 = .ok (.goto 4, 3) := by decide +kernel
theorem dL_is_15 : decode cL_is 15 = .ok (.lconst 0, 1) := by decide +kernel
theorem dL_is_16 : decode cL_is 16 = .ok (.lastore, 1) := by decide +kernel
theorem dL_is_17 : decode cL_is 17 = .ok (.goto 7, 3) := by decide +kernel
theorem dL_is_20 : decode cL_is 20 = .ok (.astore 4, 2) := by decide +kernel
theorem dL_is_22 : decode cL_is 22 = .ok (.iconst 1, 1) := by decide +kernel
theorem dL_is_23 : decode cL_is 23 = .ok (.ireturn, 1) := by decide +kernel
theorem dL_is_24 : decode cL_is 24 = .ok (.iconst 0, 1) := by decide +kernel
theorem dL_is_25 : decode cL_is 25 = .ok (.ireturn, 1) := by decide +kernel
theorem dX5_is_0 : decode cX5_is 0 = .ok (.iload_n 1, 1) := by decide +kernel
theorem dX5_is_1 : decode cX5_is 1 = .ok (.iconst 0, 1) := by decide +kernel
theorem dX5_is_2 : decode cX5_is 2 = .ok (.bipush 6, 2) := by decide +kernel
theorem dX5_is_4 : decode cX5_is 4 = .ok (.invokestatic 30, 3) := by decide +kernel
theorem dX5_is_7 : decode cX5_is 7 = .ok (.ifCond .eq 18, 3) := by decide +kernel
theorem dX5_is_10 : decode cX5_is 10 = .ok (.aload_n 0, 1) := by decide +kernel
theorem dX5_is_11 : decode cX5_is 11 = .ok (.getfield 12, 3) := by decide +kernel
theorem dX5_is_14 : decode cX5_is 14 = .ok (.iload_n 2, 1) := by decide +kernel
theorem dX5_is_15 : decode cX5_is 15 = .ok (.invokevirtual 38, 3) := by decide +kernel
theorem dX5_is_18 : decode cX5_is 18 = .ok (.ifCond .eq 7, 3) := by decide +kernel
theorem dX5_is_21 : decode cX5_is 21 = .ok (.iconst 1, 1) := by decide +kernel
theorem dX5_is_22 : decode cX5_is 22 = .ok (.goto 4, 3) := by decide +kernel
theorem dX5_is_25 : decode cX5_is 25 = .ok (.iconst 0, 1) := by decide +kernel
theorem dX5_is_26 : decode cX5_is 26 = .ok (.invokestatic 22, 3) := by decide +kernel
theorem dX5_is_29 : decode cX5_is 29 = .ok (.aload_n 0, 1) := by decide +kernel
theorem dX5_is_30 : decode cX5_is 30 = .ok (.getfield 12, 3) := by decide +kernel
theorem dX5_is_33 : decode cX5_is 33 = .ok (.iload_n 2, 1) := by decide +kernel
theorem dX5_is_34 : decode cX5_is 34 = .ok (.invokevirtual 41, 3) := by decide +kernel
theorem dX5_is_37 : decode cX5_is 37 = .ok (.astore_n 3, 1) := by decide +kernel
theorem dX5_is_38 : decode cX5_is 38 = .ok (.aload_n 3, 1) := by decide +kernel
theorem dX5_is_39 : decode cX5_is 39 = .ok (.getfield 76, 3) := by decide +kernel
theorem dX5_is_42 : decode cX5_is 42 = .ok (.ifCond .ne 14, 3) := by decide +kernel
theorem dX5_is_45 : decode cX5_is 45 = .ok (.aload_n 3, 1) := by decide +kernel
theorem dX5_is_46 : decode cX5_is 46 = .ok (.getfield 97, 3) := by decide +kernel
theorem dX5_is_49 : decode cX5_is 49 = .ok (.ifCond .ne 7, 3) := by decide +kernel
theorem dX5_is_52 : decode cX5_is 52 = .ok (.iconst 1, 1) := by decide +kernel
theorem dX5_is_53 : decode cX5_is 53 = .ok (.goto 4, 3) := by decide +kernel
theorem dX5_is_56 : decode cX5_is 56 = .ok (.iconst 0, 1) := by decide +kernel
theorem dX5_is_57 : decode cX5_is 57 = .ok (.istore 4, 2) := by decide +kernel
theorem dX5_is_59 : decode cX5_is 59 = .ok (.aload_n 0, 1) := by decide +kernel
theorem dX5_is_60 : decode cX5_is 60 = .ok (.getfield 12, 3) := by decide +kernel
theorem dX5_is_63 : decode cX5_is 63 = .ok (.iload_n 2, 1) := by decide +kernel
theorem dX5_is_64 : decode cX5_is 64 = .ok (.invokevirtual 100, 3) := by decide +kernel
theorem dX5_is_67 : decode cX5_is 67 = .ok (.istore 5, 2) := by decide +kernel
theorem dX5_is_69 : decode cX5_is 69 = .ok (.iload_n 1, 1) := by decide +kernel
theorem dX5_is_70 : decode cX5_is 70 = .ok (.tableswitch 114 0 5 #[38, 54, 77, 82, 87, 92], 38) := by decide +kernel
theorem dX5_is_108 : decode cX5_is 108 = .ok (.iload 4, 2) := by decide +kernel
theorem dX5_is_110 : decode cX5_is 110 = .ok (.ifCond .eq 12, 3) := by decide +kernel
theorem dX5_is_113 : decode cX5_is 113 = .ok (.iload 5, 2) := by decide +kernel
theorem dX5_is_115 : decode cX5_is 115 = .ok (.ifCond .eq 7, 3) := by decide +kernel
theorem dX5_is_118 : decode cX5_is 118 = .ok (.iconst 1, 1) := by decide +kernel
theorem dX5_is_119 : decode cX5_is 119 = .ok (.goto 4, 3) := by decide +kernel
theorem dX5_is_122 : decode cX5_is 122 = .ok (.iconst 0, 1) := by decide +kernel
theorem dX5_is_123 : decode cX5_is 123 = .ok (.ireturn, 1) := by decide +kernel
theorem dX5_is_124 : decode cX5_is 124 = .ok (.iload 4, 2) := by decide +kernel
theorem dX5_is_126 : decode cX5_is 126 = .ok (.ifCond .eq 19, 3) := by decide +kernel
theorem dX5_is_129 : decode cX5_is 129 = .ok (.iload 5, 2) := by decide +kernel
theorem dX5_is_131 : decode cX5_is 131 = .ok (.ifCond .ne 14, 3) := by decide +kernel
theorem dX5_is_134 : decode cX5_is 134 = .ok (.aload_n 3, 1) := by decide +kernel
theorem dX5_is_135 : decode cX5_is 135 = .ok (.invokevirtual 103, 3) := by decide +kernel
theorem dX5_is_138 : decode cX5_is 138 = .ok (.ifCond .ne 7, 3) := by decide +kernel
theorem dX5_is_141 : decode cX5_is 141 = .ok (.iconst 1, 1) := by decide +kernel
theorem dX5_is_142 : decode cX5_is 142 = .ok (.goto 4, 3) := by decide +kernel
theorem dX5_is_145 : decode cX5_is 145 = .ok (.iconst 0, 1) := by decide +kernel
theorem dX5_is_146 : decode cX5_is 146 = .ok (.ireturn, 1) := by decide +kernel
theorem dX5_is_147 : decode cX5_is 147 = .ok (.aload_n 3, 1) := by decide +kernel
theorem dX5_is_148 : decode cX5_is 148 = .ok (.invokevirtual 103, 3) := by decide +kernel
theorem dX5_is_151 : decode cX5_is 151 = .ok (.ireturn, 1) := by decide +kernel
theorem dX5_is_152 : decode cX5_is 152 = .ok (.aload_n 3, 1) := by decide +kernel
theorem dX5_is_153 : decode cX5_is 153 = .ok (.getfield 97, 3) := by decide +kernel
theorem dX5_is_156 : decode cX5_is 156 = .ok (.ireturn, 1) := by decide +kernel
theorem dX5_is_157 : decode cX5_is 157 = .ok (.aload_n 3, 1) := by decide +kernel
theorem dX5_is_158 : decode cX5_is 158 = .ok (.getfield 76, 3) := by decide +kernel
theorem dX5_is_161 : decode cX5_is 161 = .ok (.ireturn, 1) := by decide +kernel
theorem dX5_is_162 : decode cX5_is 162 = .ok (.aload_n 3, 1) := by decide +kernel
theorem dX5_is_163 : decode cX5_is 163 = .ok (.getfield 76, 3) := by decide +kernel
theorem dX5_is_166 : decode cX5_is 166 = .ok (.ifCond .ne 16, 3) := by decide +kernel
theorem dX5_is_169 : decode cX5_is 169 = .ok (.aload_n 3, 1) := by decide +kernel
theorem dX5_is_170 : decode cX5_is 170 = .ok (.getfield 107, 3) := by decide +kernel
theorem dX5_is_173 : decode cX5_is 173 = .ok (.lconst 1, 1) := by decide +kernel
theorem dX5_is_174 : decode cX5_is 174 = .ok (.lcmp, 1) := by decide +kernel
theorem dX5_is_175 : decode cX5_is 175 = .ok (.ifCond .ne 7, 3) := by decide +kernel
theorem dX5_is_178 : decode cX5_is 178 = .ok (.iconst 1, 1) := by decide +kernel
theorem dX5_is_179 : decode cX5_is 179 = .ok (.goto 4, 3) := by decide +kernel
theorem dX5_is_182 : decode cX5_is 182 = .ok (.iconst 0, 1) := by decide +kernel
theorem dX5_is_183 : decode cX5_is 183 = .ok (.ireturn, 1) := by decide +kernel
theorem dX5_is_184 : decode cX5_is 184 = .ok (.aload_n 3, 1) := by decide +kernel
theorem dX5_is_185 : decode cX5_is 185 = .ok (.getfield 76, 3) := by decide +kernel
theorem dX5_is_188 : decode cX5_is 188 = .ok (.ifCond .ne 16, 3) := by decide +kernel
theorem dX5_is_191 : decode cX5_is 191 = .ok (.aload_n 3, 1) := by decide +kernel
theorem dX5_is_192 : decode cX5_is 192 = .ok (.getfield 107, 3) := by decide +kernel
theorem dX5_is_195 : decode cX5_is 195 = .ok (.lconst 0, 1) := by decide +kernel
theorem dX5_is_196 : decode cX5_is 196 = .ok (.lcmp, 1) := by decide +kernel
theorem dX5_is_197 : decode cX5_is 197 = .ok (.ifCond .ne 7, 3) := by decide +kernel
theorem dX5_is_200 : decode cX5_is 200 = .ok (.iconst 1, 1) := by decide +kernel
theorem dX5_is_201 : decode cX5_is 201 = .ok (.goto 4, 3) := by decide +kernel
theorem dX5_is_204 : decode cX5_is 204 = .ok (.iconst 0, 1) := by decide +kernel
theorem dX5_is_205 : decode cX5_is 205 = .ok (.ireturn, 1) := by decide +kernel
theorem dX0_hasHiddenOne_0 : decode cX0_hasHiddenOne 0 = .ok (.aload_n 0, 1) := by decide +kernel
theorem dX0_hasHiddenOne_1 : decode cX0_hasHiddenOne 1 = .ok (.iload_n 1, 1) := by decide +kernel
theorem dX0_hasHiddenOne_2 : decode cX0_hasHiddenOne 2 = .ok (.invokevirtual 34, 3) := by decide +kernel
theorem dX0_hasHiddenOne_5 : decode cX0_hasHiddenOne 5 = .ok (.aload_n 0, 1) := by decide +kernel
theorem dX0_hasHiddenOne_6 : decode cX0_hasHiddenOne 6 = .ok (.getfield 13, 3) := by decide +kernel
theorem dX0_hasHiddenOne_9 : decode cX0_hasHiddenOne 9 = .ok (.lushr, 1) := by decide +kernel
theorem dX0_hasHiddenOne_10 : decode cX0_hasHiddenOne 10 = .ok (.invokestatic 44, 3) := by decide +kernel
theorem dX0_hasHiddenOne_13 : decode cX0_hasHiddenOne 13 = .ok (.lconst 1, 1) := by decide +kernel
theorem dX0_hasHiddenOne_14 : decode cX0_hasHiddenOne 14 = .ok (.lcmp, 1) := by decide +kernel
theorem dX0_hasHiddenOne_15 : decode cX0_hasHiddenOne 15 = .ok (.ifCond .ne 7, 3) := by decide +kernel
theorem dX0_hasHiddenOne_18 : decode cX0_hasHiddenOne 18 = .ok (.iconst 1, 1) := by decide +kernel
theorem dX0_hasHiddenOne_19 : decode cX0_hasHiddenOne 19 = .ok (.goto 4, 3) := by decide +kernel
theorem dX0_hasHiddenOne_22 : decode cX0_hasHiddenOne 22 = .ok (.iconst 0, 1) := by decide +kernel
theorem dX0_hasHiddenOne_23 : decode cX0_hasHiddenOne 23 = .ok (.ireturn, 1) := by decide +kernel
theorem dL_from_0 : decode cL_from 0 = .ok (.aload 5, 2) := by decide +kernel
theorem dL_from_2 : decode cL_from 2 = .ok (.iconst 0, 1) := by decide +kernel
theorem dL_from_3 : decode cL_from 3 = .ok (.aload_n 0, 1) := by decide +kernel
theorem dL_from_4 : decode cL_from 4 = .ok (.iload_n 1, 1) := by decide +kernel
theorem dL_from_5 : decode cL_from 5 = .ok (.iload_n 2, 1) := by decide +kernel
theorem dL_from_6 : decode cL_from 6 = .ok (.iload_n 3, 1) := by decide +kernel
theorem dL_from_7 : decode cL_from 7 = .ok (.iload 4, 2) := by decide +kernel
theorem dL_from_9 : decode cL_from 9 = .ok (.invokevirtual 35, 3) := by decide +kernel
theorem dL_from_12 : decode cL_from 12 = .ok (.i2l, 1) := by decide +kernel
theorem dL_from_13 : decode cL_from 13 = .ok (.lastore, 1) := by decide +kernel
theorem dL_from_14 : decode cL_from 14 = .ok (.goto 7, 3) := by decide +kernel
theorem dL_from_17 : decode cL_from 17 = .ok (.astore 6, 2) := by decide +kernel
theorem dL_from_19 : decode cL_from 19 = .ok (.iconst 1, 1) := by decide +kernel
theorem dL_from_20 : decode cL_from 20 = .ok (.ireturn, 1) := by decide +kernel
theorem dL_from_21 : decode cL_from 21 = .ok (.iconst 0, 1) := by decide +kernel
theorem dL_from_22 : decode cL_from 22 = .ok (.ireturn, 1) := by decide +kernel
theorem dX5_from_0 : decode cX5_from 0 = .ok (.iload_n 1, 1) := by decide +kernel
theorem dX5_from_1 : decode cX5_from 1 = .ok (.iload_n 2, 1) := by decide +kernel
theorem dX5_from_2 : decode cX5_from 2 = .ok (.invokestatic 18, 3) := by decide +kernel
theorem dX5_from_5 : decode cX5_from 5 = .ok (.ifCond .eq 14, 3) := by decide +kernel
theorem dX5_from_8 : decode cX5_from 8 = .ok (.iload_n 3, 1) := by decide +kernel
theorem dX5_from_9 : decode cX5_from 9 = .ok (.invokestatic 34, 3) := by decide +kernel
theorem dX5_from_12 : decode cX5_from 12 = .ok (.ifCond .eq 7, 3) := by decide +kernel
theorem dX5_from_15 : decode cX5_from 15 = .ok (.iconst 1, 1) := by decide +kernel
theorem dX5_from_16 : decode cX5_from 16 = .ok (.goto 4, 3) := by decide +kernel
theorem dX5_from_19 : decode cX5_from 19 = .ok (.iconst 0, 1) := by decide +kernel
theorem dX5_from_20 : decode cX5_from 20 = .ok (.invokestatic 22, 3) := by decide +kernel
theorem dX5_from_23 : decode cX5_from 23 = .ok (.new 7, 3) := by decide +kernel
theorem dX5_from_26 : decode cX5_from 26 = .ok (.dup, 1) := by decide +kernel
theorem dX5_from_27 : decode cX5_from 27 = .ok (.iload_n 1, 1) := by decide +kernel
theorem dX5_from_28 : decode cX5_from 28 = .ok (.iload_n 2, 1) := by decide +kernel
theorem dX5_from_29 : decode cX5_from 29 = .ok (.invokespecial 9, 3) := by decide +kernel
theorem dX5_from_32 : decode cX5_from 32 = .ok (.astore 5, 2) := by decide +kernel
theorem dX5_from_34 : decode cX5_from 34 = .ok (.aload 5, 2) := by decide +kernel
theorem dX5_from_36 : decode cX5_from 36 = .ok (.iload 4, 2) := by decide +kernel
theorem dX5_from_38 : decode cX5_from 38 = .ok (.invokevirtual 38, 3) := by decide +kernel
theorem dX5_from_41 : decode cX5_from 41 = .ok (.invokestatic 22, 3) := by decide +kernel
theorem dX5_from_44 : decode cX5_from 44 = .ok (.aload_n 0, 1) := by decide +kernel
theorem dX5_from_45 : decode cX5_from 45 = .ok (.getfield 12, 3) := by decide +kernel
theorem dX5_from_48 : decode cX5_from 48 = .ok (.iload_n 3, 1) := by decide +kernel
theorem dX5_from_49 : decode cX5_from 49 = .ok (.aload 5, 2) := by decide +kernel
theorem dX5_from_51 : decode cX5_from 51 = .ok (.iload 4, 2) := by decide +kernel
theorem dX5_from_53 : decode cX5_from 53 = .ok (.invokevirtual 41, 3) := by decide +kernel
theorem dX5_from_56 : decode cX5_from 56 = .ok (.invokevirtual 51, 3) := by decide +kernel
theorem dX5_from_59 : decode cX5_from 59 = .ok (.ireturn, 1) := by decide +kernel
theorem dL_ofWhole_0 : decode cL_ofWhole 0 = .ok (.aload 5, 2) := by decide +kernel
theorem dL_ofWhole_2 : decode cL_ofWhole 2 = .ok (.iconst 0, 1) := by decide +kernel
theorem dL_ofWhole_3 : decode cL_ofWhole 3 = .ok (.aload_n 0, 1) := by decide +kernel
theorem dL_ofWhole_4 : decode cL_ofWhole 4 = .ok (.iload_n 1, 1) := by decide +kernel
theorem dL_ofWhole_5 : decode cL_ofWhole 5 = .ok (.iload_n 2, 1) := by decide +kernel
theorem dL_ofWhole_6 : decode cL_ofWhole 6 = .ok (.iload_n 3, 1) := by decide +kernel
theorem dL_ofWhole_7 : decode cL_ofWhole 7 = .ok (.iload 4, 2) := by decide +kernel
theorem dL_ofWhole_9 : decode cL_ofWhole 9 = .ok (.invokevirtual 38, 3) := by decide +kernel
theorem dL_ofWhole_12 : decode cL_ofWhole 12 = .ok (.i2l, 1) := by decide +kernel
theorem dL_ofWhole_13 : decode cL_ofWhole 13 = .ok (.lastore, 1) := by decide +kernel
theorem dL_ofWhole_14 : decode cL_ofWhole 14 = .ok (.goto 7, 3) := by decide +kernel
theorem dL_ofWhole_17 : decode cL_ofWhole 17 = .ok (.astore 6, 2) := by decide +kernel
theorem dL_ofWhole_19 : decode cL_ofWhole 19 = .ok (.iconst 1, 1) := by decide +kernel
theorem dL_ofWhole_20 : decode cL_ofWhole 20 = .ok (.ireturn, 1) := by decide +kernel
theorem dL_ofWhole_21 : decode cL_ofWhole 21 = .ok (.iconst 0, 1) := by decide +kernel
theorem dL_ofWhole_22 : decode cL_ofWhole 22 = .ok (.ireturn, 1) := by decide +kernel
theorem dX5_ofWhole_0 : decode cX5_ofWhole 0 = .ok (.iload_n 1, 1) := by decide +kernel
theorem dX5_ofWhole_1 : decode cX5_ofWhole 1 = .ok (.invokestatic 34, 3) := by decide +kernel
theorem dX5_ofWhole_4 : decode cX5_ofWhole 4 = .ok (.ifCond .eq 17, 3) := by decide +kernel
theorem dX5_ofWhole_7 : decode cX5_ofWhole 7 = .ok (.iload_n 3, 1) := by decide +kernel
theorem dX5_ofWhole_8 : decode cX5_ofWhole 8 = .ok (.iconst 1, 1) := by decide +kernel
theorem dX5_ofWhole_9 : decode cX5_ofWhole 9 = .ok (.bipush 32, 2) := by decide +kernel
theorem dX5_ofWhole_11 : decode cX5_ofWhole 11 = .ok (.invokestatic 30, 3) := by decide +kernel
theorem dX5_ofWhole_14 : decode cX5_ofWhole 14 = .ok (.ifCond .eq 7, 3) := by decide +kernel
theorem dX5_ofWhole_17 : decode cX5_ofWhole 17 = .ok (.iconst 1, 1) := by decide +kernel
theorem dX5_ofWhole_18 : decode cX5_ofWhole 18 = .ok (.goto 4, 3) := by decide +kernel
theorem dX5_ofWhole_21 : decode cX5_ofWhole 21 = .ok (.iconst 0, 1) := by decide +kernel
theorem dX5_ofWhole_22 : decode cX5_ofWhole 22 = .ok (.invokestatic 22, 3) := by decide +kernel
theorem dX5_ofWhole_25 : decode cX5_ofWhole 25 = .ok (.iload_n 2, 1) := by decide +kernel
theorem dX5_ofWhole_26 : decode cX5_ofWhole 26 = .ok (.i2l, 1) := by decide +kernel
theorem dX5_ofWhole_27 : decode cX5_ofWhole 27 = .ok (.iload_n 3, 1) := by decide +kernel
theorem dX5_ofWhole_28 : decode cX5_ofWhole 28 = .ok (.invokestatic 111, 3) := by decide +kernel
theorem dX5_ofWhole_31 : decode cX5_ofWhole 31 = .ok (.land, 1) := by decide +kernel
theorem dX5_ofWhole_32 : decode cX5_ofWhole 32 = .ok (.lstore 5, 2) := by decide +kernel
theorem dX5_ofWhole_34 : decode cX5_ofWhole 34 = .ok (.iload 4, 2) := by decide +kernel
theorem dX5_ofWhole_36 : decode cX5_ofWhole 36 = .ok (.ifCond .eq 12, 3) := by decide +kernel
theorem dX5_ofWhole_39 : decode cX5_ofWhole 39 = .ok (.lload 5, 2) := by decide +kernel
theorem dX5_ofWhole_41 : decode cX5_ofWhole 41 = .ok (.iload_n 3, 1) := by decide +kernel
theorem dX5_ofWhole_42 : decode cX5_ofWhole 42 = .ok (.iconst 1, 1) := by decide +kernel
theorem dX5_ofWhole_43 : decode cX5_ofWhole 43 = .ok (.isub, 1) := by decide +kernel
theorem dX5_ofWhole_44 : decode cX5_ofWhole 44 = .ok (.lushr, 1) := by decide +kernel
theorem dX5_ofWhole_45 : decode cX5_ofWhole 45 = .ok (.goto 4, 3) := by decide +kernel
theorem dX5_ofWhole_48 : decode cX5_ofWhole 48 = .ok (.lconst 0, 1) := by decide +kernel
theorem dX5_ofWhole_49 : decode cX5_ofWhole 49 = .ok (.lstore 7, 2) := by decide +kernel
theorem dX5_ofWhole_51 : decode cX5_ofWhole 51 = .ok (.lload 5, 2) := by decide +kernel
theorem dX5_ofWhole_53 : decode cX5_ofWhole 53 = .ok (.lload 7, 2) := by decide +kernel
theorem dX5_ofWhole_55 : decode cX5_ofWhole 55 = .ok (.invokestatic 115, 3) := by decide +kernel
theorem dX5_ofWhole_58 : decode cX5_ofWhole 58 = .ok (.iload_n 3, 1) := by decide +kernel
theorem dX5_ofWhole_59 : decode cX5_ofWhole 59 = .ok (.invokestatic 111, 3) := by decide +kernel
theorem dX5_ofWhole_62 : decode cX5_ofWhole 62 = .ok (.ldc2_w 118, 3) := by decide +kernel
theorem dX5_ofWhole_65 : decode cX5_ofWhole 65 = .ok (.lxor, 1) := by decide +kernel
theorem dX5_ofWhole_66 : decode cX5_ofWhole 66 = .ok (.land, 1) := by decide +kernel
theorem dX5_ofWhole_67 : decode cX5_ofWhole 67 = .ok (.lor, 1) := by decide +kernel
theorem dX5_ofWhole_68 : decode cX5_ofWhole 68 = .ok (.lstore 9, 2) := by decide +kernel
theorem dX5_ofWhole_70 : decode cX5_ofWhole 70 = .ok (.aload_n 0, 1) := by decide +kernel
theorem dX5_ofWhole_71 : decode cX5_ofWhole 71 = .ok (.getfield 12, 3) := by decide +kernel
theorem dX5_ofWhole_74 : decode cX5_ofWhole 74 = .ok (.iload_n 1, 1) := by decide +kernel
theorem dX5_ofWhole_75 : decode cX5_ofWhole 75 = .ok (.lload 7, 2) := by decide +kernel
theorem dX5_ofWhole_77 : decode cX5_ofWhole 77 = .ok (.lconst 0, 1) := by decide +kernel
theorem dX5_ofWhole_78 : decode cX5_ofWhole 78 = .ok (.lload 7, 2) := by decide +kernel
theorem dX5_ofWhole_80 : decode cX5_ofWhole 80 = .ok (.lload 9, 2) := by decide +kernel
theorem dX5_ofWhole_82 : decode cX5_ofWhole 82 = .ok (.invokestatic 120, 3) := by decide +kernel
theorem dX5_ofWhole_85 : decode cX5_ofWhole 85 = .ok (.invokestatic 124, 3) := by decide +kernel
theorem dX5_ofWhole_88 : decode cX5_ofWhole 88 = .ok (.invokevirtual 51, 3) := by decide +kernel
theorem dX5_ofWhole_91 : decode cX5_ofWhole 91 = .ok (.ireturn, 1) := by decide +kernel
theorem dL_toWhole_0 : decode cL_toWhole 0 = .ok (.aload 5, 2) := by decide +kernel
theorem dL_toWhole_2 : decode cL_toWhole 2 = .ok (.iconst 0, 1) := by decide +kernel
theorem dL_toWhole_3 : decode cL_toWhole 3 = .ok (.aload_n 0, 1) := by decide +kernel
theorem dL_toWhole_4 : decode cL_toWhole 4 = .ok (.iload_n 1, 1) := by decide +kernel
theorem dL_toWhole_5 : decode cL_toWhole 5 = .ok (.iload_n 2, 1) := by decide +kernel
theorem dL_toWhole_6 : decode cL_toWhole 6 = .ok (.iload_n 3, 1) := by decide +kernel
theorem dL_toWhole_7 : decode cL_toWhole 7 = .ok (.iload 4, 2) := by decide +kernel
theorem dL_toWhole_9 : decode cL_toWhole 9 = .ok (.invokevirtual 42, 3) := by decide +kernel
theorem dL_toWhole_12 : decode cL_toWhole 12 = .ok (.i2l, 1) := by decide +kernel
theorem dL_toWhole_13 : decode cL_toWhole 13 = .ok (.lastore, 1) := by decide +kernel
theorem dL_toWhole_14 : decode cL_toWhole 14 = .ok (.goto 7, 3) := by decide +kernel
theorem dL_toWhole_17 : decode cL_toWhole 17 = .ok (.astore 6, 2) := by decide +kernel
theorem dL_toWhole_19 : decode cL_toWhole 19 = .ok (.iconst 1, 1) := by decide +kernel
theorem dL_toWhole_20 : decode cL_toWhole 20 = .ok (.ireturn, 1) := by decide +kernel
theorem dL_toWhole_21 : decode cL_toWhole 21 = .ok (.iconst 0, 1) := by decide +kernel
theorem dL_toWhole_22 : decode cL_toWhole 22 = .ok (.ireturn, 1) := by decide +kernel
theorem dX5_toWhole_0 : decode cX5_toWhole 0 = .ok (.iload_n 1, 1) := by decide +kernel
theorem dX5_toWhole_1 : decode cX5_toWhole 1 = .ok (.invokestatic 34, 3) := by decide +kernel
theorem dX5_toWhole_4 : decode cX5_toWhole 4 = .ok (.ifCond .eq 28, 3) := by decide +kernel
theorem dX5_toWhole_7 : decode cX5_toWhole 7 = .ok (.aload_n 0, 1) := by decide +kernel
theorem dX5_toWhole_8 : decode cX5_toWhole 8 = .ok (.getfield 12, 3) := by decide +kernel
theorem dX5_toWhole_11 : decode cX5_toWhole 11 = .ok (.iload_n 2, 1) := by decide +kernel
theorem dX5_toWhole_12 : decode cX5_toWhole 12 = .ok (.invokevirtual 38, 3) := by decide +kernel
theorem dX5_toWhole_15 : decode cX5_toWhole 15 = .ok (.ifCond .eq 17, 3) := by decide +kernel
theorem dX5_toWhole_18 : decode cX5_toWhole 18 = .ok (.iload_n 3, 1) := by decide +kernel
theorem dX5_toWhole_19 : decode cX5_toWhole 19 = .ok (.iconst 1, 1) := by decide +kernel
theorem dX5_toWhole_20 : decode cX5_toWhole 20 = .ok (.bipush 32, 2) := by decide +kernel
theorem dX5_toWhole_22 : decode cX5_toWhole 22 = .ok (.invokestatic 30, 3) := by decide +kernel
theorem dX5_toWhole_25 : decode cX5_toWhole 25 = .ok (.ifCond .eq 7, 3) := by decide +kernel
theorem dX5_toWhole_28 : decode cX5_toWhole 28 = .ok (.iconst 1, 1) := by decide +kernel
theorem dX5_toWhole_29 : decode cX5_toWhole 29 = .ok (.goto 4, 3) := by decide +kernel
theorem dX5_toWhole_32 : decode cX5_toWhole 32 = .ok (.iconst 0, 1) := by decide +kernel
theorem dX5_toWhole_33 : decode cX5_toWhole 33 = .ok (.invokestatic 22, 3) := by decide +kernel
theorem dX5_toWhole_36 : decode cX5_toWhole 36 = .ok (.iload_n 1, 1) := by decide +kernel
theorem dX5_toWhole_37 : decode cX5_toWhole 37 = .ok (.aload_n 0, 1) := by decide +kernel
theorem dX5_toWhole_38 : decode cX5_toWhole 38 = .ok (.getfield 12, 3) := by decide +kernel
theorem dX5_toWhole_41 : decode cX5_toWhole 41 = .ok (.iload_n 2, 1) := by decide +kernel
theorem dX5_toWhole_42 : decode cX5_toWhole 42 = .ok (.invokevirtual 41, 3) := by decide +kernel
theorem dX5_toWhole_45 : decode cX5_toWhole 45 = .ok (.invokestatic 72, 3) := by decide +kernel
theorem dX5_toWhole_48 : decode cX5_toWhole 48 = .ok (.astore 5, 2) := by decide +kernel
theorem dX5_toWhole_50 : decode cX5_toWhole 50 = .ok (.aload 5, 2) := by decide +kernel
theorem dX5_toWhole_52 : decode cX5_toWhole 52 = .ok (.getfield 76, 3) := by decide +kernel
theorem dX5_toWhole_55 : decode cX5_toWhole 55 = .ok (.ifCond .ne 22, 3) := by decide +kernel
theorem dX5_toWhole_58 : decode cX5_toWhole 58 = .ok (.aload 5, 2) := by decide +kernel
theorem dX5_toWhole_60 : decode cX5_toWhole 60 = .ok (.getfield 97, 3) := by decide +kernel
theorem dX5_toWhole_63 : decode cX5_toWhole 63 = .ok (.ifCond .ne 14, 3) := by decide +kernel
theorem dX5_toWhole_66 : decode cX5_toWhole 66 = .ok (.aload 5, 2) := by decide +kernel
theorem dX5_toWhole_68 : decode cX5_toWhole 68 = .ok (.iload_n 3, 1) := by decide +kernel
theorem dX5_toWhole_69 : decode cX5_toWhole 69 = .ok (.iload 4, 2) := by decide +kernel
theorem dX5_toWhole_71 : decode cX5_toWhole 71 = .ok (.invokestatic 128, 3) := by decide +kernel
theorem dX5_toWhole_74 : decode cX5_toWhole 74 = .ok (.ifCond .ne 5, 3) := by decide +kernel
theorem dX5_toWhole_77 : decode cX5_toWhole 77 = .ok (.iconst 0, 1) := by decide +kernel
theorem dX5_toWhole_78 : decode cX5_toWhole 78 = .ok (.ireturn, 1) := by decide +kernel
end
section
theorem dX5_toWhole_79 : decode cX5_toWhole 79 = .ok (.aload 5, 2) := by decide +kernel
theorem dX5_toWhole_81 : decode cX5_toWhole 81 = .ok (.getfield 107, 3) := by decide +kernel
theorem dX5_toWhole_84 : decode cX5_toWhole 84 = .ok (.aload 5, 2) := by decide +kernel
theorem dX5_toWhole_86 : decode cX5_toWhole 86 = .ok (.getfield 132, 3) := by decide +kernel
theorem dX5_toWhole_89 : decode cX5_toWhole 89 = .ok (.invokestatic 120, 3) := by decide +kernel
theorem dX5_toWhole_92 : decode cX5_toWhole 92 = .ok (.iload_n 3, 1) := by decide +kernel
theorem dX5_toWhole_93 : decode cX5_toWhole 93 = .ok (.invokestatic 111, 3) := by decide +kernel
theorem dX5_toWhole_96 : decode cX5_toWhole 96 = .ok (.land, 1) := by decide +kernel
theorem dX5_toWhole_97 : decode cX5_toWhole 97 = .ok (.l2i, 1) := by decide +kernel
theorem dX5_toWhole_98 : decode cX5_toWhole 98 = .ok (.ireturn, 1) := by decide +kernel
theorem dX5_isWithinBits_0 : decode cX5_isWithinBits 0 = .ok (.iload_n 2, 1) := by decide +kernel
theorem dX5_isWithinBits_1 : decode cX5_isWithinBits 1 = .ok (.ifCond .eq 9, 3) := by decide +kernel
theorem dX5_isWithinBits_4 : decode cX5_isWithinBits 4 = .ok (.iload_n 1, 1) := by decide +kernel
theorem dX5_isWithinBits_5 : decode cX5_isWithinBits 5 = .ok (.iconst 1, 1) := by decide +kernel
theorem dX5_isWithinBits_6 : decode cX5_isWithinBits 6 = .ok (.isub, 1) := by decide +kernel
theorem dX5_isWithinBits_7 : decode cX5_isWithinBits 7 = .ok (.goto 4, 3) := by decide +kernel
theorem dX5_isWithinBits_10 : decode cX5_isWithinBits 10 = .ok (.iload_n 1, 1) := by decide +kernel
theorem dX5_isWithinBits_11 : decode cX5_isWithinBits 11 = .ok (.invokestatic 111, 3) := by decide +kernel
theorem dX5_isWithinBits_14 : decode cX5_isWithinBits 14 = .ok (.lstore_n 3, 1) := by decide +kernel
theorem dX5_isWithinBits_15 : decode cX5_isWithinBits 15 = .ok (.aload_n 0, 1) := by decide +kernel
theorem dX5_isWithinBits_16 : decode cX5_isWithinBits 16 = .ok (.getfield 107, 3) := by decide +kernel
theorem dX5_isWithinBits_19 : decode cX5_isWithinBits 19 = .ok (.lconst 1, 1) := by decide +kernel
theorem dX5_isWithinBits_20 : decode cX5_isWithinBits 20 = .ok (.lcmp, 1) := by decide +kernel
theorem dX5_isWithinBits_21 : decode cX5_isWithinBits 21 = .ok (.ifCond .ne 17, 3) := by decide +kernel
theorem dX5_isWithinBits_24 : decode cX5_isWithinBits 24 = .ok (.iload_n 2, 1) := by decide +kernel
theorem dX5_isWithinBits_25 : decode cX5_isWithinBits 25 = .ok (.ifCond .eq 11, 3) := by decide +kernel
theorem dX5_isWithinBits_28 : decode cX5_isWithinBits 28 = .ok (.lconst 1, 1) := by decide +kernel
theorem dX5_isWithinBits_29 : decode cX5_isWithinBits 29 = .ok (.iload_n 1, 1) := by decide +kernel
theorem dX5_isWithinBits_30 : decode cX5_isWithinBits 30 = .ok (.iconst 1, 1) := by decide +kernel
theorem dX5_isWithinBits_31 : decode cX5_isWithinBits 31 = .ok (.isub, 1) := by decide +kernel
theorem dX5_isWithinBits_32 : decode cX5_isWithinBits 32 = .ok (.lshl, 1) := by decide +kernel
theorem dX5_isWithinBits_33 : decode cX5_isWithinBits 33 = .ok (.goto 4, 3) := by decide +kernel
theorem dX5_isWithinBits_36 : decode cX5_isWithinBits 36 = .ok (.lconst 0, 1) := by decide +kernel
theorem dX5_isWithinBits_37 : decode cX5_isWithinBits 37 = .ok (.lstore_n 3, 1) := by decide +kernel
theorem dX5_isWithinBits_38 : decode cX5_isWithinBits 38 = .ok (.lload_n 3, 1) := by decide +kernel
theorem dX5_isWithinBits_39 : decode cX5_isWithinBits 39 = .ok (.aload_n 0, 1) := by decide +kernel
theorem dX5_isWithinBits_40 : decode cX5_isWithinBits 40 = .ok (.getfield 132, 3) := by decide +kernel
theorem dX5_isWithinBits_43 : decode cX5_isWithinBits 43 = .ok (.invokestatic 135, 3) := by decide +kernel
theorem dX5_isWithinBits_46 : decode cX5_isWithinBits 46 = .ok (.lconst 0, 1) := by decide +kernel
theorem dX5_isWithinBits_47 : decode cX5_isWithinBits 47 = .ok (.lcmp, 1) := by decide +kernel
theorem dX5_isWithinBits_48 : decode cX5_isWithinBits 48 = .ok (.ifCond .ne 7, 3) := by decide +kernel
theorem dX5_isWithinBits_51 : decode cX5_isWithinBits 51 = .ok (.iconst 1, 1) := by decide +kernel
theorem dX5_isWithinBits_52 : decode cX5_isWithinBits 52 = .ok (.goto 4, 3) := by decide +kernel
theorem dX5_isWithinBits_55 : decode cX5_isWithinBits 55 = .ok (.iconst 0, 1) := by decide +kernel
theorem dX5_isWithinBits_56 : decode cX5_isWithinBits 56 = .ok (.ireturn, 1) := by decide +kernel
theorem dX6_init_0 : decode cX6_init 0 = .ok (.aload_n 0, 1) := by decide +kernel
theorem dX6_init_1 : decode cX6_init 1 = .ok (.invokespecial 1, 3) := by decide +kernel
theorem dX6_init_4 : decode cX6_init 4 = .ok (.aload_n 0, 1) := by decide +kernel
theorem dX6_init_5 : decode cX6_init 5 = .ok (.sipush 1511, 3) := by decide +kernel
theorem dX6_init_8 : decode cX6_init 8 = .ok (.putfield 7, 3) := by decide +kernel
theorem dX6_init_11 : decode cX6_init 11 = .ok (.return_, 1) := by decide +kernel
theorem dX6_thrown_0 : decode cX6_thrown 0 = .ok (.aload_n 0, 1) := by decide +kernel
theorem dX6_thrown_1 : decode cX6_thrown 1 = .ok (.getfield 13, 3) := by decide +kernel
theorem dX6_thrown_4 : decode cX6_thrown 4 = .ok (.ireturn, 1) := by decide +kernel
theorem dX6_format_0 : decode cX6_format 0 = .ok (.aload_n 0, 1) := by decide +kernel
theorem dX6_format_1 : decode cX6_format 1 = .ok (.iload_n 1, 1) := by decide +kernel
theorem dX6_format_2 : decode cX6_format 2 = .ok (.iload_n 2, 1) := by decide +kernel
theorem dX6_format_3 : decode cX6_format 3 = .ok (.invokestatic 34, 3) := by decide +kernel
theorem dX6_format_6 : decode cX6_format 6 = .ok (.invokevirtual 38, 3) := by decide +kernel
theorem dX6_format_9 : decode cX6_format 9 = .ok (.ifCond .ne 5, 3) := by decide +kernel
theorem dX6_format_12 : decode cX6_format 12 = .ok (.iconst 0, 1) := by decide +kernel
theorem dX6_format_13 : decode cX6_format 13 = .ok (.ireturn, 1) := by decide +kernel
theorem dX6_format_14 : decode cX6_format 14 = .ok (.aload_n 0, 1) := by decide +kernel
theorem dX6_format_15 : decode cX6_format 15 = .ok (.sipush 1000, 3) := by decide +kernel
theorem dX6_format_18 : decode cX6_format 18 = .ok (.bipush 100, 2) := by decide +kernel
theorem dX6_format_20 : decode cX6_format 20 = .ok (.iload_n 1, 1) := by decide +kernel
theorem dX6_format_21 : decode cX6_format 21 = .ok (.imul, 1) := by decide +kernel
theorem dX6_format_22 : decode cX6_format 22 = .ok (.iadd, 1) := by decide +kernel
theorem dX6_format_23 : decode cX6_format 23 = .ok (.iload_n 2, 1) := by decide +kernel
theorem dX6_format_24 : decode cX6_format 24 = .ok (.iadd, 1) := by decide +kernel
theorem dX6_format_25 : decode cX6_format 25 = .ok (.putfield 7, 3) := by decide +kernel
theorem dX6_format_28 : decode cX6_format 28 = .ok (.iload_n 1, 1) := by decide +kernel
theorem dX6_format_29 : decode cX6_format 29 = .ok (.iload_n 2, 1) := by decide +kernel
theorem dX6_format_30 : decode cX6_format 30 = .ok (.iadd, 1) := by decide +kernel
theorem dX6_format_31 : decode cX6_format 31 = .ok (.ireturn, 1) := by decide +kernel
theorem dX6_isFormat_0 : decode cX6_isFormat 0 = .ok (.iload_n 0, 1) := by decide +kernel
theorem dX6_isFormat_1 : decode cX6_isFormat 1 = .ok (.iconst 2, 1) := by decide +kernel
theorem dX6_isFormat_2 : decode cX6_isFormat 2 = .ok (.iconst 5, 1) := by decide +kernel
theorem dX6_isFormat_3 : decode cX6_isFormat 3 = .ok (.invokestatic 16, 3) := by decide +kernel
theorem dX6_isFormat_6 : decode cX6_isFormat 6 = .ok (.ifCond .eq 17, 3) := by decide +kernel
theorem dX6_isFormat_9 : decode cX6_isFormat 9 = .ok (.iload_n 1, 1) := by decide +kernel
theorem dX6_isFormat_10 : decode cX6_isFormat 10 = .ok (.iconst 2, 1) := by decide +kernel
theorem dX6_isFormat_11 : decode cX6_isFormat 11 = .ok (.bipush 11, 2) := by decide +kernel
theorem dX6_isFormat_13 : decode cX6_isFormat 13 = .ok (.invokestatic 16, 3) := by decide +kernel
theorem dX6_isFormat_16 : decode cX6_isFormat 16 = .ok (.ifCond .eq 7, 3) := by decide +kernel
theorem dX6_isFormat_19 : decode cX6_isFormat 19 = .ok (.iconst 1, 1) := by decide +kernel
theorem dX6_isFormat_20 : decode cX6_isFormat 20 = .ok (.goto 4, 3) := by decide +kernel
theorem dX6_isFormat_23 : decode cX6_isFormat 23 = .ok (.iconst 0, 1) := by decide +kernel
theorem dX6_isFormat_24 : decode cX6_isFormat 24 = .ok (.ireturn, 1) := by decide +kernel
theorem dX6_in_0 : decode cX6_in 0 = .ok (.iload_n 0, 1) := by decide +kernel
theorem dX6_in_1 : decode cX6_in 1 = .ok (.iload_n 1, 1) := by decide +kernel
theorem dX6_in_2 : decode cX6_in 2 = .ok (.if_icmp .lt 12, 3) := by decide +kernel
theorem dX6_in_5 : decode cX6_in 5 = .ok (.iload_n 0, 1) := by decide +kernel
theorem dX6_in_6 : decode cX6_in 6 = .ok (.iload_n 2, 1) := by decide +kernel
theorem dX6_in_7 : decode cX6_in 7 = .ok (.if_icmp .gt 7, 3) := by decide +kernel
theorem dX6_in_10 : decode cX6_in 10 = .ok (.iconst 1, 1) := by decide +kernel
theorem dX6_in_11 : decode cX6_in 11 = .ok (.goto 4, 3) := by decide +kernel
theorem dX6_in_14 : decode cX6_in 14 = .ok (.iconst 0, 1) := by decide +kernel
theorem dX6_in_15 : decode cX6_in 15 = .ok (.ireturn, 1) := by decide +kernel
theorem dX6_good_0 : decode cX6_good 0 = .ok (.aload_n 0, 1) := by decide +kernel
theorem dX6_good_1 : decode cX6_good 1 = .ok (.iload_n 1, 1) := by decide +kernel
theorem dX6_good_2 : decode cX6_good 2 = .ok (.ifCond .eq 7, 3) := by decide +kernel
theorem dX6_good_5 : decode cX6_good 5 = .ok (.iconst 0, 1) := by decide +kernel
theorem dX6_good_6 : decode cX6_good 6 = .ok (.goto 4, 3) := by decide +kernel
theorem dX6_good_9 : decode cX6_good 9 = .ok (.iconst 1, 1) := by decide +kernel
theorem dX6_good_10 : decode cX6_good 10 = .ok (.putfield 13, 3) := by decide +kernel
theorem dX6_good_13 : decode cX6_good 13 = .ok (.iload_n 1, 1) := by decide +kernel
theorem dX6_good_14 : decode cX6_good 14 = .ok (.ireturn, 1) := by decide +kernel
theorem dX6_reckon_0 : decode cX6_reckon 0 = .ok (.aload_n 0, 1) := by decide +kernel
theorem dX6_reckon_1 : decode cX6_reckon 1 = .ok (.iload_n 1, 1) := by decide +kernel
theorem dX6_reckon_2 : decode cX6_reckon 2 = .ok (.iconst 0, 1) := by decide +kernel
theorem dX6_reckon_3 : decode cX6_reckon 3 = .ok (.iconst 3, 1) := by decide +kernel
theorem dX6_reckon_4 : decode cX6_reckon 4 = .ok (.invokestatic 16, 3) := by decide +kernel
theorem dX6_reckon_7 : decode cX6_reckon 7 = .ok (.ifCond .eq 41, 3) := by decide +kernel
theorem dX6_reckon_10 : decode cX6_reckon 10 = .ok (.iload_n 2, 1) := by decide +kernel
theorem dX6_reckon_11 : decode cX6_reckon 11 = .ok (.iconst 0, 1) := by decide +kernel
theorem dX6_reckon_12 : decode cX6_reckon 12 = .ok (.iconst 4, 1) := by decide +kernel
theorem dX6_reckon_13 : decode cX6_reckon 13 = .ok (.invokestatic 16, 3) := by decide +kernel
theorem dX6_reckon_16 : decode cX6_reckon 16 = .ok (.ifCond .eq 32, 3) := by decide +kernel
theorem dX6_reckon_19 : decode cX6_reckon 19 = .ok (.aload_n 0, 1) := by decide +kernel
theorem dX6_reckon_20 : decode cX6_reckon 20 = .ok (.iload_n 3, 1) := by decide +kernel
theorem dX6_reckon_21 : decode cX6_reckon 21 = .ok (.aload_n 0, 1) := by decide +kernel
theorem dX6_reckon_22 : decode cX6_reckon 22 = .ok (.getfield 7, 3) := by decide +kernel
theorem dX6_reckon_25 : decode cX6_reckon 25 = .ok (.invokevirtual 42, 3) := by decide +kernel
theorem dX6_reckon_28 : decode cX6_reckon 28 = .ok (.ifCond .eq 20, 3) := by decide +kernel
theorem dX6_reckon_31 : decode cX6_reckon 31 = .ok (.aload_n 0, 1) := by decide +kernel
theorem dX6_reckon_32 : decode cX6_reckon 32 = .ok (.iload 4, 2) := by decide +kernel
theorem dX6_reckon_34 : decode cX6_reckon 34 = .ok (.aload_n 0, 1) := by decide +kernel
theorem dX6_reckon_35 : decode cX6_reckon 35 = .ok (.getfield 7, 3) := by decide +kernel
theorem dX6_reckon_38 : decode cX6_reckon 38 = .ok (.invokevirtual 42, 3) := by decide +kernel
theorem dX6_reckon_41 : decode cX6_reckon 41 = .ok (.ifCond .eq 7, 3) := by decide +kernel
theorem dX6_reckon_44 : decode cX6_reckon 44 = .ok (.iconst 1, 1) := by decide +kernel
theorem dX6_reckon_45 : decode cX6_reckon 45 = .ok (.goto 4, 3) := by decide +kernel
theorem dX6_reckon_48 : decode cX6_reckon 48 = .ok (.iconst 0, 1) := by decide +kernel
theorem dX6_reckon_49 : decode cX6_reckon 49 = .ok (.invokevirtual 38, 3) := by decide +kernel
theorem dX6_reckon_52 : decode cX6_reckon 52 = .ok (.ifCond .ne 5, 3) := by decide +kernel
theorem dX6_reckon_55 : decode cX6_reckon 55 = .ok (.iconst 0, 1) := by decide +kernel
theorem dX6_reckon_56 : decode cX6_reckon 56 = .ok (.ireturn, 1) := by decide +kernel
theorem dX6_reckon_57 : decode cX6_reckon 57 = .ok (.aload_n 0, 1) := by decide +kernel
theorem dX6_reckon_58 : decode cX6_reckon 58 = .ok (.bipush 46, 2) := by decide +kernel
theorem dX6_reckon_60 : decode cX6_reckon 60 = .ok (.iload_n 1, 1) := by decide +kernel
theorem dX6_reckon_61 : decode cX6_reckon 61 = .ok (.iadd, 1) := by decide +kernel
theorem dX6_reckon_62 : decode cX6_reckon 62 = .ok (.iload_n 2, 1) := by decide +kernel
theorem dX6_reckon_63 : decode cX6_reckon 63 = .ok (.iload_n 3, 1) := by decide +kernel
theorem dX6_reckon_64 : decode cX6_reckon 64 = .ok (.i2l, 1) := by decide +kernel
theorem dX6_reckon_65 : decode cX6_reckon 65 = .ok (.iload 4, 2) := by decide +kernel
theorem dX6_reckon_67 : decode cX6_reckon 67 = .ok (.i2l, 1) := by decide +kernel
theorem dX6_reckon_68 : decode cX6_reckon 68 = .ok (.aload_n 0, 1) := by decide +kernel
theorem dX6_reckon_69 : decode cX6_reckon 69 = .ok (.getfield 7, 3) := by decide +kernel
theorem dX6_reckon_72 : decode cX6_reckon 72 = .ok (.invokevirtual 45, 3) := by decide +kernel
theorem dX6_reckon_75 : decode cX6_reckon 75 = .ok (.l2i, 1) := by decide +kernel
theorem dX6_reckon_76 : decode cX6_reckon 76 = .ok (.ireturn, 1) := by decide +kernel
theorem dX6_isFloat_0 : decode cX6_isFloat 0 = .ok (.iload_n 1, 1) := by decide +kernel
theorem dX6_isFloat_1 : decode cX6_isFloat 1 = .ok (.ifCond .lt 20, 3) := by decide +kernel
theorem dX6_isFloat_4 : decode cX6_isFloat 4 = .ok (.iload_n 1, 1) := by decide +kernel
theorem dX6_isFloat_5 : decode cX6_isFloat 5 = .ok (.i2l, 1) := by decide +kernel
theorem dX6_isFloat_6 : decode cX6_isFloat 6 = .ok (.iload_n 2, 1) := by decide +kernel
theorem dX6_isFloat_7 : decode cX6_isFloat 7 = .ok (.invokestatic 31, 3) := by decide +kernel
theorem dX6_isFloat_10 : decode cX6_isFloat 10 = .ok (.invokestatic 27, 3) := by decide +kernel
theorem dX6_isFloat_13 : decode cX6_isFloat 13 = .ok (.lcmp, 1) := by decide +kernel
theorem dX6_isFloat_14 : decode cX6_isFloat 14 = .ok (.ifCond .gt 7, 3) := by decide +kernel
theorem dX6_isFloat_17 : decode cX6_isFloat 17 = .ok (.iconst 1, 1) := by decide +kernel
theorem dX6_isFloat_18 : decode cX6_isFloat 18 = .ok (.goto 4, 3) := by decide +kernel
theorem dX6_isFloat_21 : decode cX6_isFloat 21 = .ok (.iconst 0, 1) := by decide +kernel
theorem dX6_isFloat_22 : decode cX6_isFloat 22 = .ok (.ireturn, 1) := by decide +kernel
theorem dX6_width_0 : decode cX6_width 0 = .ok (.iload_n 0, 1) := by decide +kernel
theorem dX6_width_1 : decode cX6_width 1 = .ok (.invokestatic 20, 3) := by decide +kernel
theorem dX6_width_4 : decode cX6_width 4 = .ok (.iload_n 0, 1) := by decide +kernel
theorem dX6_width_5 : decode cX6_width 5 = .ok (.invokestatic 24, 3) := by decide +kernel
theorem dX6_width_8 : decode cX6_width 8 = .ok (.iadd, 1) := by decide +kernel
theorem dX6_width_9 : decode cX6_width 9 = .ok (.ireturn, 1) := by decide +kernel
theorem dX6_exponent_0 : decode cX6_exponent 0 = .ok (.iload_n 0, 1) := by decide +kernel
theorem dX6_exponent_1 : decode cX6_exponent 1 = .ok (.sipush 1000, 3) := by decide +kernel
theorem dX6_exponent_4 : decode cX6_exponent 4 = .ok (.isub, 1) := by decide +kernel
theorem dX6_exponent_5 : decode cX6_exponent 5 = .ok (.bipush 100, 2) := by decide +kernel
theorem dX6_exponent_7 : decode cX6_exponent 7 = .ok (.idiv, 1) := by decide +kernel
theorem dX6_exponent_8 : decode cX6_exponent 8 = .ok (.ireturn, 1) := by decide +kernel
theorem dX6_significand_0 : decode cX6_significand 0 = .ok (.iload_n 0, 1) := by decide +kernel
theorem dX6_significand_1 : decode cX6_significand 1 = .ok (.sipush 1000, 3) := by decide +kernel
theorem dX6_significand_4 : decode cX6_significand 4 = .ok (.isub, 1) := by decide +kernel
theorem dX6_significand_5 : decode cX6_significand 5 = .ok (.bipush 100, 2) := by decide +kernel
theorem dX6_significand_7 : decode cX6_significand 7 = .ok (.irem, 1) := by decide +kernel
theorem dX6_significand_8 : decode cX6_significand 8 = .ok (.ireturn, 1) := by decide +kernel
theorem dX6_mask_0 : decode cX6_mask 0 = .ok (.lconst 1, 1) := by decide +kernel
theorem dX6_mask_1 : decode cX6_mask 1 = .ok (.iload_n 0, 1) := by decide +kernel
theorem dX6_mask_2 : decode cX6_mask 2 = .ok (.lshl, 1) := by decide +kernel
theorem dX6_mask_3 : decode cX6_mask 3 = .ok (.lconst 1, 1) := by decide +kernel
theorem dX6_mask_4 : decode cX6_mask 4 = .ok (.lsub, 1) := by decide +kernel
theorem dX6_mask_5 : decode cX6_mask 5 = .ok (.lreturn, 1) := by decide +kernel
theorem dX6_arithmetic_0 : decode cX6_arithmetic 0 = .ok (.iload 7, 2) := by decide +kernel
theorem dX6_arithmetic_2 : decode cX6_arithmetic 2 = .ok (.invokestatic 20, 3) := by decide +kernel
theorem dX6_arithmetic_5 : decode cX6_arithmetic 5 = .ok (.iload 7, 2) := by decide +kernel
theorem dX6_arithmetic_7 : decode cX6_arithmetic 7 = .ok (.invokestatic 24, 3) := by decide +kernel
theorem dX6_arithmetic_10 : decode cX6_arithmetic 10 = .ok (.invokestatic 81, 3) := by decide +kernel
theorem dX6_arithmetic_13 : decode cX6_arithmetic 13 = .ok (.lstore 8, 2) := by decide +kernel
theorem dX6_arithmetic_15 : decode cX6_arithmetic 15 = .ok (.lconst 1, 1) := by decide +kernel
theorem dX6_arithmetic_16 : decode cX6_arithmetic 16 = .ok (.iload 7, 2) := by decide +kernel
theorem dX6_arithmetic_18 : decode cX6_arithmetic 18 = .ok (.invokestatic 31, 3) := by decide +kernel
theorem dX6_arithmetic_21 : decode cX6_arithmetic 21 = .ok (.iconst 1, 1) := by decide +kernel
theorem dX6_arithmetic_22 : decode cX6_arithmetic 22 = .ok (.isub, 1) := by decide +kernel
theorem dX6_arithmetic_23 : decode cX6_arithmetic 23 = .ok (.lshl, 1) := by decide +kernel
theorem dX6_arithmetic_24 : decode cX6_arithmetic 24 = .ok (.lstore 10, 2) := by decide +kernel
theorem dX6_arithmetic_26 : decode cX6_arithmetic 26 = .ok (.aload_n 0, 1) := by decide +kernel
theorem dX6_arithmetic_27 : decode cX6_arithmetic 27 = .ok (.lload_n 3, 1) := by decide +kernel
theorem dX6_arithmetic_28 : decode cX6_arithmetic 28 = .ok (.iload 7, 2) := by decide +kernel
theorem dX6_arithmetic_30 : decode cX6_arithmetic 30 = .ok (.invokevirtual 60, 3) := by decide +kernel
theorem dX6_arithmetic_33 : decode cX6_arithmetic 33 = .ok (.aload_n 0, 1) := by decide +kernel
theorem dX6_arithmetic_34 : decode cX6_arithmetic 34 = .ok (.getfield 64, 3) := by decide +kernel
theorem dX6_arithmetic_37 : decode cX6_arithmetic 37 = .ok (.istore 12, 2) := by decide +kernel
theorem dX6_arithmetic_39 : decode cX6_arithmetic 39 = .ok (.aload_n 0, 1) := by decide +kernel
theorem dX6_arithmetic_40 : decode cX6_arithmetic 40 = .ok (.getfield 85, 3) := by decide +kernel
theorem dX6_arithmetic_43 : decode cX6_arithmetic 43 = .ok (.istore 13, 2) := by decide +kernel
theorem dX6_arithmetic_45 : decode cX6_arithmetic 45 = .ok (.aload_n 0, 1) := by decide +kernel
theorem dX6_arithmetic_46 : decode cX6_arithmetic 46 = .ok (.getfield 88, 3) := by decide +kernel
theorem dX6_arithmetic_49 : decode cX6_arithmetic 49 = .ok (.istore 14, 2) := by decide +kernel
theorem dX6_arithmetic_51 : decode cX6_arithmetic 51 = .ok (.aload_n 0, 1) := by decide +kernel
theorem dX6_arithmetic_52 : decode cX6_arithmetic 52 = .ok (.getfield 91, 3) := by decide +kernel
theorem dX6_arithmetic_55 : decode cX6_arithmetic 55 = .ok (.lstore 15, 2) := by decide +kernel
theorem dX6_arithmetic_57 : decode cX6_arithmetic 57 = .ok (.aload_n 0, 1) := by decide +kernel
theorem dX6_arithmetic_58 : decode cX6_arithmetic 58 = .ok (.getfield 95, 3) := by decide +kernel
theorem dX6_arithmetic_61 : decode cX6_arithmetic 61 = .ok (.istore 17, 2) := by decide +kernel
theorem dX6_arithmetic_63 : decode cX6_arithmetic 63 = .ok (.aload_n 0, 1) := by decide +kernel
theorem dX6_arithmetic_64 : decode cX6_arithmetic 64 = .ok (.lload 5, 2) := by decide +kernel
theorem dX6_arithmetic_66 : decode cX6_arithmetic 66 = .ok (.iload 7, 2) := by decide +kernel
theorem dX6_arithmetic_68 : decode cX6_arithmetic 68 = .ok (.invokevirtual 60, 3) := by decide +kernel
theorem dX6_arithmetic_71 : decode cX6_arithmetic 71 = .ok (.iload 12, 2) := by decide +kernel
theorem dX6_arithmetic_73 : decode cX6_arithmetic 73 = .ok (.ifCond .ne 10, 3) := by decide +kernel
theorem dX6_arithmetic_76 : decode cX6_arithmetic 76 = .ok (.aload_n 0, 1) := by decide +kernel
theorem dX6_arithmetic_77 : decode cX6_arithmetic 77 = .ok (.getfield 64, 3) := by decide +kernel
theorem dX6_arithmetic_80 : decode cX6_arithmetic 80 = .ok (.ifCond .eq 6, 3) := by decide +kernel
theorem dX6_arithmetic_83 : decode cX6_arithmetic 83 = .ok (.lload 8, 2) := by decide +kernel
theorem dX6_arithmetic_85 : decode cX6_arithmetic 85 = .ok (.lreturn, 1) := by decide +kernel
theorem dX6_arithmetic_86 : decode cX6_arithmetic 86 = .ok (.iload_n 1, 1) := by decide +kernel
theorem dX6_arithmetic_87 : decode cX6_arithmetic 87 = .ok (.bipush 47, 2) := by decide +kernel
theorem dX6_arithmetic_89 : decode cX6_arithmetic 89 = .ok (.if_icmp .ne 18, 3) := by decide +kernel
theorem dX6_arithmetic_92 : decode cX6_arithmetic 92 = .ok (.aload_n 0, 1) := by decide +kernel
theorem dX6_arithmetic_93 : decode cX6_arithmetic 93 = .ok (.getfield 88, 3) := by decide +kernel
theorem dX6_arithmetic_96 : decode cX6_arithmetic 96 = .ok (.ifCond .ne 7, 3) := by decide +kernel
theorem dX6_arithmetic_99 : decode cX6_arithmetic 99 = .ok (.iconst 1, 1) := by decide +kernel
theorem dX6_arithmetic_100 : decode cX6_arithmetic 100 = .ok (.goto 11, 3) := by decide +kernel
theorem dX6_arithmetic_103 : decode cX6_arithmetic 103 = .ok (.iconst 0, 1) := by decide +kernel
theorem dX6_arithmetic_104 : decode cX6_arithmetic 104 = .ok (.goto 7, 3) := by decide +kernel
theorem dX6_arithmetic_107 : decode cX6_arithmetic 107 = .ok (.aload_n 0, 1) := by decide +kernel
theorem dX6_arithmetic_108 : decode cX6_arithmetic 108 = .ok (.getfield 88, 3) := by decide +kernel
theorem dX6_arithmetic_111 : decode cX6_arithmetic 111 = .ok (.istore 18, 2) := by decide +kernel
theorem dX6_arithmetic_113 : decode cX6_arithmetic 113 = .ok (.iload_n 1, 1) := by decide +kernel
theorem dX6_arithmetic_114 : decode cX6_arithmetic 114 = .ok (.bipush 48, 2) := by decide +kernel
theorem dX6_arithmetic_116 : decode cX6_arithmetic 116 = .ok (.if_icmp .ge 227, 3) := by decide +kernel
theorem dX6_arithmetic_119 : decode cX6_arithmetic 119 = .ok (.iload 13, 2) := by decide +kernel
theorem dX6_arithmetic_121 : decode cX6_arithmetic 121 = .ok (.ifCond .ne 10, 3) := by decide +kernel
theorem dX6_arithmetic_124 : decode cX6_arithmetic 124 = .ok (.aload_n 0, 1) := by decide +kernel
theorem dX6_arithmetic_125 : decode cX6_arithmetic 125 = .ok (.getfield 85, 3) := by decide +kernel
theorem dX6_arithmetic_128 : decode cX6_arithmetic 128 = .ok (.ifCond .eq 53, 3) := by decide +kernel
theorem dX6_arithmetic_131 : decode cX6_arithmetic 131 = .ok (.iload 13, 2) := by decide +kernel
theorem dX6_arithmetic_133 : decode cX6_arithmetic 133 = .ok (.ifCond .eq 22, 3) := by decide +kernel
theorem dX6_arithmetic_136 : decode cX6_arithmetic 136 = .ok (.aload_n 0, 1) := by decide +kernel
theorem dX6_arithmetic_137 : decode cX6_arithmetic 137 = .ok (.getfield 85, 3) := by decide +kernel
theorem dX6_arithmetic_140 : decode cX6_arithmetic 140 = .ok (.ifCond .eq 15, 3) := by decide +kernel
theorem dX6_arithmetic_143 : decode cX6_arithmetic 143 = .ok (.iload 14, 2) := by decide +kernel
theorem dX6_arithmetic_145 : decode cX6_arithmetic 145 = .ok (.iload 18, 2) := by decide +kernel
theorem dX6_arithmetic_147 : decode cX6_arithmetic 147 = .ok (.if_icmp .eq 8, 3) := by decide +kernel
theorem dX6_arithmetic_150 : decode cX6_arithmetic 150 = .ok (.lload 8, 2) := by decide +kernel
theorem dX6_arithmetic_152 : decode cX6_arithmetic 152 = .ok (.goto 28, 3) := by decide +kernel
theorem dX6_arithmetic_155 : decode cX6_arithmetic 155 = .ok (.iload 13, 2) := by decide +kernel
theorem dX6_arithmetic_157 : decode cX6_arithmetic 157 = .ok (.ifCond .eq 7, 3) := by decide +kernel
theorem dX6_arithmetic_160 : decode cX6_arithmetic 160 = .ok (.lload_n 3, 1) := by decide +kernel
theorem dX6_arithmetic_161 : decode cX6_arithmetic 161 = .ok (.goto 19, 3) := by decide +kernel
theorem dX6_arithmetic_164 : decode cX6_arithmetic 164 = .ok (.iload_n 1, 1) := by decide +kernel
theorem dX6_arithmetic_165 : decode cX6_arithmetic 165 = .ok (.bipush 47, 2) := by decide +kernel
theorem dX6_arithmetic_167 : decode cX6_arithmetic 167 = .ok (.if_icmp .ne 11, 3) := by decide +kernel
theorem dX6_arithmetic_170 : decode cX6_arithmetic 170 = .ok (.lload 5, 2) := by decide +kernel
theorem dX6_arithmetic_172 : decode cX6_arithmetic 172 = .ok (.lload 10, 2) := by decide +kernel
theorem dX6_arithmetic_174 : decode cX6_arithmetic 174 = .ok (.lxor, 1) := by decide +kernel
theorem dX6_arithmetic_175 : decode cX6_arithmetic 175 = .ok (.goto 5, 3) := by decide +kernel
theorem dX6_arithmetic_178 : decode cX6_arithmetic 178 = .ok (.lload 5, 2) := by decide +kernel
theorem dX6_arithmetic_180 : decode cX6_arithmetic 180 = .ok (.lreturn, 1) := by decide +kernel
theorem dX6_arithmetic_181 : decode cX6_arithmetic 181 = .ok (.iload 17, 2) := by decide +kernel
theorem dX6_arithmetic_183 : decode cX6_arithmetic 183 = .ok (.aload_n 0, 1) := by decide +kernel
theorem dX6_arithmetic_184 : decode cX6_arithmetic 184 = .ok (.getfield 95, 3) := by decide +kernel
theorem dX6_arithmetic_187 : decode cX6_arithmetic 187 = .ok (.if_icmp .ge 8, 3) := by decide +kernel
theorem dX6_arithmetic_190 : decode cX6_arithmetic 190 = .ok (.iload 17, 2) := by decide +kernel
theorem dX6_arithmetic_192 : decode cX6_arithmetic 192 = .ok (.goto 7, 3) := by decide +kernel
theorem dX6_arithmetic_195 : decode cX6_arithmetic 195 = .ok (.aload_n 0, 1) := by decide +kernel
theorem dX6_arithmetic_196 : decode cX6_arithmetic 196 = .ok (.getfield 95, 3) := by decide +kernel
theorem dX6_arithmetic_199 : decode cX6_arithmetic 199 = .ok (.istore 19, 2) := by decide +kernel
theorem dX6_arithmetic_201 : decode cX6_arithmetic 201 = .ok (.iload 14, 2) := by decide +kernel
theorem dX6_arithmetic_203 : decode cX6_arithmetic 203 = .ok (.ifCond .eq 16, 3) := by decide +kernel
theorem dX6_arithmetic_206 : decode cX6_arithmetic 206 = .ok (.lconst 0, 1) := by decide +kernel
theorem dX6_arithmetic_207 : decode cX6_arithmetic 207 = .ok (.lload 15, 2) := by decide +kernel
theorem dX6_arithmetic_209 : decode cX6_arithmetic 209 = .ok (.iload 17, 2) := by decide +kernel
theorem dX6_arithmetic_211 : decode cX6_arithmetic 211 = .ok (.iload 19, 2) := by decide +kernel
theorem dX6_arithmetic_213 : decode cX6_arithmetic 213 = .ok (.isub, 1) := by decide +kernel
theorem dX6_arithmetic_214 : decode cX6_arithmetic 214 = .ok (.lshl, 1) := by decide +kernel
theorem dX6_arithmetic_215 : decode cX6_arithmetic 215 = .ok (.lsub, 1) := by decide +kernel
theorem dX6_arithmetic_216 : decode cX6_arithmetic 216 = .ok (.goto 11, 3) := by decide +kernel
theorem dX6_arithmetic_219 : decode cX6_arithmetic 219 = .ok (.lload 15, 2) := by decide +kernel
theorem dX6_arithmetic_221 : decode cX6_arithmetic 221 = .ok (.iload 17, 2) := by decide +kernel
theorem dX6_arithmetic_223 : decode cX6_arithmetic 223 = .ok (.iload 19, 2) := by decide +kernel
theorem dX6_arithmetic_225 : decode cX6_arithmetic 225 = .ok (.isub, 1) := by decide +kernel
theorem dX6_arithmetic_226 : decode cX6_arithmetic 226 = .ok (.lshl, 1) := by decide +kernel
theorem dX6_arithmetic_227 : decode cX6_arithmetic 227 = .ok (.iload 18, 2) := by decide +kernel
theorem dX6_arithmetic_229 : decode cX6_arithmetic 229 = .ok (.ifCond .eq 20, 3) := by decide +kernel
theorem dX6_arithmetic_232 : decode cX6_arithmetic 232 = .ok (.lconst 0, 1) := by decide +kernel
theorem dX6_arithmetic_233 : decode cX6_arithmetic 233 = .ok (.aload_n 0, 1) := by decide +kernel
theorem dX6_arithmetic_234 : decode cX6_arithmetic 234 = .ok (.getfield 91, 3) := by decide +kernel
theorem dX6_arithmetic_237 : decode cX6_arithmetic 237 = .ok (.aload_n 0, 1) := by decide +kernel
theorem dX6_arithmetic_238 : decode cX6_arithmetic 238 = .ok (.getfield 95, 3) := by decide +kernel
theorem dX6_arithmetic_241 : decode cX6_arithmetic 241 = .ok (.iload 19, 2) := by decide +kernel
theorem dX6_arithmetic_243 : decode cX6_arithmetic 243 = .ok (.isub, 1) := by decide +kernel
theorem dX6_arithmetic_244 : decode cX6_arithmetic 244 = .ok (.lshl, 1) := by decide +kernel
theorem dX6_arithmetic_245 : decode cX6_arithmetic 245 = .ok (.lsub, 1) := by decide +kernel
theorem dX6_arithmetic_246 : decode cX6_arithmetic 246 = .ok (.goto 15, 3) := by decide +kernel
theorem dX6_arithmetic_249 : decode cX6_arithmetic 249 = .ok (.aload_n 0, 1) := by decide +kernel
theorem dX6_arithmetic_250 : decode cX6_arithmetic 250 = .ok (.getfield 91, 3) := by decide +kernel
theorem dX6_arithmetic_253 : decode cX6_arithmetic 253 = .ok (.aload_n 0, 1) := by decide +kernel
theorem dX6_arithmetic_254 : decode cX6_arithmetic 254 = .ok (.getfield 95, 3) := by decide +kernel
theorem dX6_arithmetic_257 : decode cX6_arithmetic 257 = .ok (.iload 19, 2) := by decide +kernel
theorem dX6_arithmetic_259 : decode cX6_arithmetic 259 = .ok (.isub, 1) := by decide +kernel
theorem dX6_arithmetic_260 : decode cX6_arithmetic 260 = .ok (.lshl, 1) := by decide +kernel
theorem dX6_arithmetic_261 : decode cX6_arithmetic 261 = .ok (.ladd, 1) := by decide +kernel
theorem dX6_arithmetic_262 : decode cX6_arithmetic 262 = .ok (.lstore 20, 2) := by decide +kernel
theorem dX6_arithmetic_264 : decode cX6_arithmetic 264 = .ok (.lload 20, 2) := by decide +kernel
theorem dX6_arithmetic_266 : decode cX6_arithmetic 266 = .ok (.lconst 0, 1) := by decide +kernel
theorem dX6_arithmetic_267 : decode cX6_arithmetic 267 = .ok (.lcmp, 1) := by decide +kernel
theorem dX6_arithmetic_268 : decode cX6_arithmetic 268 = .ok (.ifCond .ne 37, 3) := by decide +kernel
theorem dX6_arithmetic_271 : decode cX6_arithmetic 271 = .ok (.lload 15, 2) := by decide +kernel
theorem dX6_arithmetic_273 : decode cX6_arithmetic 273 = .ok (.lconst 0, 1) := by decide +kernel
theorem dX6_arithmetic_274 : decode cX6_arithmetic 274 = .ok (.lcmp, 1) := by decide +kernel
theorem dX6_arithmetic_275 : decode cX6_arithmetic 275 = .ok (.ifCond .ne 18, 3) := by decide +kernel
theorem dX6_arithmetic_278 : decode cX6_arithmetic 278 = .ok (.iload 14, 2) := by decide +kernel
theorem dX6_arithmetic_280 : decode cX6_arithmetic 280 = .ok (.iload 18, 2) := by decide +kernel
theorem dX6_arithmetic_282 : decode cX6_arithmetic 282 = .ok (.if_icmp .ne 11, 3) := by decide +kernel
theorem dX6_arithmetic_285 : decode cX6_arithmetic 285 = .ok (.iload 14, 2) := by decide +kernel
theorem dX6_arithmetic_287 : decode cX6_arithmetic 287 = .ok (.ifCond .eq 16, 3) := by decide +kernel
theorem dX6_arithmetic_290 : decode cX6_arithmetic 290 = .ok (.goto 8, 3) := by decide +kernel
theorem dX6_arithmetic_293 : decode cX6_arithmetic 293 = .ok (.iload_n 2, 1) := by decide +kernel
theorem dX6_arithmetic_294 : decode cX6_arithmetic 294 = .ok (.iconst 3, 1) := by decide +kernel
theorem dX6_arithmetic_295 : decode cX6_arithmetic 295 = .ok (.if_icmp .ne 8, 3) := by decide +kernel
theorem dX6_arithmetic_298 : decode cX6_arithmetic 298 = .ok (.lload 10, 2) := by decide +kernel
theorem dX6_arithmetic_300 : decode cX6_arithmetic 300 = .ok (.goto 4, 3) := by decide +kernel
theorem dX6_arithmetic_303 : decode cX6_arithmetic 303 = .ok (.lconst 0, 1) := by decide +kernel
theorem dX6_arithmetic_304 : decode cX6_arithmetic 304 = .ok (.lreturn, 1) := by decide +kernel
theorem dX6_arithmetic_305 : decode cX6_arithmetic 305 = .ok (.iload_n 2, 1) := by decide +kernel
theorem dX6_arithmetic_306 : decode cX6_arithmetic 306 = .ok (.lload 20, 2) := by decide +kernel
theorem dX6_arithmetic_308 : decode cX6_arithmetic 308 = .ok (.lconst 0, 1) := by decide +kernel
theorem dX6_arithmetic_309 : decode cX6_arithmetic 309 = .ok (.lcmp, 1) := by decide +kernel
theorem dX6_arithmetic_310 : decode cX6_arithmetic 310 = .ok (.ifCond .ge 7, 3) := by decide +kernel
theorem dX6_arithmetic_313 : decode cX6_arithmetic 313 = .ok (.iconst 1, 1) := by decide +kernel
theorem dX6_arithmetic_314 : decode cX6_arithmetic 314 = .ok (.goto 4, 3) := by decide +kernel
theorem dX6_arithmetic_317 : decode cX6_arithmetic 317 = .ok (.iconst 0, 1) := by decide +kernel
theorem dX6_arithmetic_318 : decode cX6_arithmetic 318 = .ok (.lload 20, 2) := by decide +kernel
theorem dX6_arithmetic_320 : decode cX6_arithmetic 320 = .ok (.lconst 0, 1) := by decide +kernel
theorem dX6_arithmetic_321 : decode cX6_arithmetic 321 = .ok (.lcmp, 1) := by decide +kernel
theorem dX6_arithmetic_322 : decode cX6_arithmetic 322 = .ok (.ifCond .ge 10, 3) := by decide +kernel
theorem dX6_arithmetic_325 : decode cX6_arithmetic 325 = .ok (.lconst 0, 1) := by decide +kernel
theorem dX6_arithmetic_326 : decode cX6_arithmetic 326 = .ok (.lload 20, 2) := by decide +kernel
theorem dX6_arithmetic_328 : decode cX6_arithmetic 328 = .ok (.lsub, 1) := by decide +kernel
theorem dX6_arithmetic_329 : decode cX6_arithmetic 329 = .ok (.goto 5, 3) := by decide +kernel
theorem dX6_arithmetic_332 : decode cX6_arithmetic 332 = .ok (.lload 20, 2) := by decide +kernel
theorem dX6_arithmetic_334 : decode cX6_arithmetic 334 = .ok (.iload 19, 2) := by decide +kernel
theorem dX6_arithmetic_336 : decode cX6_arithmetic 336 = .ok (.iconst 0, 1) := by decide +kernel
theorem dX6_arithmetic_337 : decode cX6_arithmetic 337 = .ok (.iload 7, 2) := by decide +kernel
theorem dX6_arithmetic_339 : decode cX6_arithmetic 339 = .ok (.invokestatic 98, 3) := by decide +kernel
theorem dX6_arithmetic_342 : decode cX6_arithmetic 342 = .ok (.lreturn, 1) := by decide +kernel
theorem dX6_arithmetic_343 : decode cX6_arithmetic 343 = .ok (.iload 14, 2) := by decide +kernel
theorem dX6_arithmetic_345 : decode cX6_arithmetic 345 = .ok (.iload 18, 2) := by decide +kernel
theorem dX6_arithmetic_347 : decode cX6_arithmetic 347 = .ok (.if_icmp .eq 7, 3) := by decide +kernel
theorem dX6_arithmetic_350 : decode cX6_arithmetic 350 = .ok (.iconst 1, 1) := by decide +kernel
theorem dX6_arithmetic_351 : decode cX6_arithmetic 351 = .ok (.goto 4, 3) := by decide +kernel
theorem dX6_arithmetic_354 : decode cX6_arithmetic 354 = .ok (.iconst 0, 1) := by decide +kernel
theorem dX6_arithmetic_355 : decode cX6_arithmetic 355 = .ok (.istore 19, 2) := by decide +kernel
theorem dX6_arithmetic_357 : decode cX6_arithmetic 357 = .ok (.iload 19, 2) := by decide +kernel
theorem dX6_arithmetic_359 : decode cX6_arithmetic 359 = .ok (.ifCond .eq 8, 3) := by decide +kernel
theorem dX6_arithmetic_362 : decode cX6_arithmetic 362 = .ok (.lload 10, 2) := by decide +kernel
theorem dX6_arithmetic_364 : decode cX6_arithmetic 364 = .ok (.goto 4, 3) := by decide +kernel
theorem dX6_arithmetic_367 : decode cX6_arithmetic 367 = .ok (.lconst 0, 1) := by decide +kernel
theorem dX6_arithmetic_368 : decode cX6_arithmetic 368 = .ok (.lstore 20, 2) := by decide +kernel
theorem dX6_arithmetic_370 : decode cX6_arithmetic 370 = .ok (.iload 7, 2) := by decide +kernel
theorem dX6_arithmetic_372 : decode cX6_arithmetic 372 = .ok (.invokestatic 20, 3) := by decide +kernel
theorem dX6_arithmetic_375 : decode cX6_arithmetic 375 = .ok (.invokestatic 27, 3) := by decide +kernel
theorem dX6_arithmetic_378 : decode cX6_arithmetic 378 = .ok (.iload 7, 2) := by decide +kernel
theorem dX6_arithmetic_380 : decode cX6_arithmetic 380 = .ok (.invokestatic 24, 3) := by decide +kernel
theorem dX6_arithmetic_383 : decode cX6_arithmetic 383 = .ok (.iconst 1, 1) := by decide +kernel
theorem dX6_arithmetic_384 : decode cX6_arithmetic 384 = .ok (.isub, 1) := by decide +kernel
theorem dX6_arithmetic_385 : decode cX6_arithmetic 385 = .ok (.lshl, 1) := by decide +kernel
theorem dX6_arithmetic_386 : decode cX6_arithmetic 386 = .ok (.lstore 22, 2) := by decide +kernel
theorem dX6_arithmetic_388 : decode cX6_arithmetic 388 = .ok (.iload_n 1, 1) := by decide +kernel
theorem dX6_arithmetic_389 : decode cX6_arithmetic 389 = .ok (.bipush 48, 2) := by decide +kernel
theorem dX6_arithmetic_391 : decode cX6_arithmetic 391 = .ok (.if_icmp .ne 90, 3) := by decide +kernel
theorem dX6_arithmetic_394 : decode cX6_arithmetic 394 = .ok (.iload 13, 2) := by decide +kernel
theorem dX6_arithmetic_396 : decode cX6_arithmetic 396 = .ok (.ifCond .ne 10, 3) := by decide +kernel
theorem dX6_arithmetic_399 : decode cX6_arithmetic 399 = .ok (.aload_n 0, 1) := by decide +kernel
theorem dX6_arithmetic_400 : decode cX6_arithmetic 400 = .ok (.getfield 85, 3) := by decide +kernel
theorem dX6_arithmetic_403 : decode cX6_arithmetic 403 = .ok (.ifCond .eq 54, 3) := by decide +kernel
theorem dX6_arithmetic_406 : decode cX6_arithmetic 406 = .ok (.iload 13, 2) := by decide +kernel
theorem dX6_arithmetic_408 : decode cX6_arithmetic 408 = .ok (.ifCond .eq 19, 3) := by decide +kernel
theorem dX6_arithmetic_411 : decode cX6_arithmetic 411 = .ok (.aload_n 0, 1) := by decide +kernel
theorem dX6_arithmetic_412 : decode cX6_arithmetic 412 = .ok (.getfield 85, 3) := by decide +kernel
theorem dX6_arithmetic_415 : decode cX6_arithmetic 415 = .ok (.ifCond .ne 12, 3) := by decide +kernel
theorem dX6_arithmetic_418 : decode cX6_arithmetic 418 = .ok (.aload_n 0, 1) := by decide +kernel
theorem dX6_arithmetic_419 : decode cX6_arithmetic 419 = .ok (.getfield 91, 3) := by decide +kernel
theorem dX6_arithmetic_422 : decode cX6_arithmetic 422 = .ok (.lconst 0, 1) := by decide +kernel
theorem dX6_arithmetic_423 : decode cX6_arithmetic 423 = .ok (.lcmp, 1) := by decide +kernel
theorem dX6_arithmetic_424 : decode cX6_arithmetic 424 = .ok (.ifCond .eq 22, 3) := by decide +kernel
theorem dX6_arithmetic_427 : decode cX6_arithmetic 427 = .ok (.aload_n 0, 1) := by decide +kernel
theorem dX6_arithmetic_428 : decode cX6_arithmetic 428 = .ok (.getfield 85, 3) := by decide +kernel
theorem dX6_arithmetic_431 : decode cX6_arithmetic 431 = .ok (.ifCond .eq 20, 3) := by decide +kernel
theorem dX6_arithmetic_434 : decode cX6_arithmetic 434 = .ok (.iload 13, 2) := by decide +kernel
theorem dX6_arithmetic_436 : decode cX6_arithmetic 436 = .ok (.ifCond .ne 15, 3) := by decide +kernel
theorem dX6_arithmetic_439 : decode cX6_arithmetic 439 = .ok (.lload 15, 2) := by decide +kernel
theorem dX6_arithmetic_441 : decode cX6_arithmetic 441 = .ok (.lconst 0, 1) := by decide +kernel
theorem dX6_arithmetic_442 : decode cX6_arithmetic 442 = .ok (.lcmp, 1) := by decide +kernel
theorem dX6_arithmetic_443 : decode cX6_arithmetic 443 = .ok (.ifCond .ne 8, 3) := by decide +kernel
theorem dX6_arithmetic_446 : decode cX6_arithmetic 446 = .ok (.lload 8, 2) := by decide +kernel
theorem dX6_arithmetic_448 : decode cX6_arithmetic 448 = .ok (.goto 8, 3) := by decide +kernel
theorem dX6_arithmetic_451 : decode cX6_arithmetic 451 = .ok (.lload 20, 2) := by decide +kernel
theorem dX6_arithmetic_453 : decode cX6_arithmetic 453 = .ok (.lload 22, 2) := by decide +kernel
theorem dX6_arithmetic_455 : decode cX6_arithmetic 455 = .ok (.lor, 1) := by decide +kernel
theorem dX6_arithmetic_456 : decode cX6_arithmetic 456 = .ok (.lreturn, 1) := by decide +kernel
theorem dX6_arithmetic_457 : decode cX6_arithmetic 457 = .ok (.iload_n 2, 1) := by decide +kernel
theorem dX6_arithmetic_458 : decode cX6_arithmetic 458 = .ok (.iload 19, 2) := by decide +kernel
theorem dX6_arithmetic_460 : decode cX6_arithmetic 460 = .ok (.lload 15, 2) := by decide +kernel
theorem dX6_arithmetic_462 : decode cX6_arithmetic 462 = .ok (.aload_n 0, 1) := by decide +kernel
theorem dX6_arithmetic_463 : decode cX6_arithmetic 463 = .ok (.getfield 91, 3) := by decide +kernel
theorem dX6_arithmetic_466 : decode cX6_arithmetic 466 = .ok (.lmul, 1) := by decide +kernel
theorem dX6_arithmetic_467 : decode cX6_arithmetic 467 = .ok (.iload 17, 2) := by decide +kernel
theorem dX6_arithmetic_469 : decode cX6_arithmetic 469 = .ok (.aload_n 0, 1) := by decide +kernel
theorem dX6_arithmetic_470 : decode cX6_arithmetic 470 = .ok (.getfield 95, 3) := by decide +kernel
theorem dX6_arithmetic_473 : decode cX6_arithmetic 473 = .ok (.iadd, 1) := by decide +kernel
theorem dX6_arithmetic_474 : decode cX6_arithmetic 474 = .ok (.iconst 0, 1) := by decide +kernel
theorem dX6_arithmetic_475 : decode cX6_arithmetic 475 = .ok (.iload 7, 2) := by decide +kernel
theorem dX6_arithmetic_477 : decode cX6_arithmetic 477 = .ok (.invokestatic 98, 3) := by decide +kernel
theorem dX6_arithmetic_480 : decode cX6_arithmetic 480 = .ok (.lreturn, 1) := by decide +kernel
theorem dX6_arithmetic_481 : decode cX6_arithmetic 481 = .ok (.iload 13, 2) := by decide +kernel
theorem dX6_arithmetic_483 : decode cX6_arithmetic 483 = .ok (.ifCond .eq 21, 3) := by decide +kernel
theorem dX6_arithmetic_486 : decode cX6_arithmetic 486 = .ok (.aload_n 0, 1) := by decide +kernel
theorem dX6_arithmetic_487 : decode cX6_arithmetic 487 = .ok (.getfield 85, 3) := by decide +kernel
theorem dX6_arithmetic_490 : decode cX6_arithmetic 490 = .ok (.ifCond .eq 8, 3) := by decide +kernel
theorem dX6_arithmetic_493 : decode cX6_arithmetic 493 = .ok (.lload 8, 2) := by decide +kernel
theorem dX6_arithmetic_495 : decode cX6_arithmetic 495 = .ok (.goto 8, 3) := by decide +kernel
theorem dX6_arithmetic_498 : decode cX6_arithmetic 498 = .ok (.lload 20, 2) := by decide +kernel
theorem dX6_arithmetic_500 : decode cX6_arithmetic 500 = .ok (.lload 22, 2) := by decide +kernel
theorem dX6_arithmetic_502 : decode cX6_arithmetic 502 = .ok (.lor, 1) := by decide +kernel
theorem dX6_arithmetic_503 : decode cX6_arithmetic 503 = .ok (.lreturn, 1) := by decide +kernel
theorem dX6_arithmetic_504 : decode cX6_arithmetic 504 = .ok (.aload_n 0, 1) := by decide +kernel
theorem dX6_arithmetic_505 : decode cX6_arithmetic 505 = .ok (.getfield 85, 3) := by decide +kernel
theorem dX6_arithmetic_508 : decode cX6_arithmetic 508 = .ok (.ifCond .eq 6, 3) := by decide +kernel
theorem dX6_arithmetic_511 : decode cX6_arithmetic 511 = .ok (.lload 20, 2) := by decide +kernel
theorem dX6_arithmetic_513 : decode cX6_arithmetic 513 = .ok (.lreturn, 1) := by decide +kernel
theorem dX6_arithmetic_514 : decode cX6_arithmetic 514 = .ok (.aload_n 0, 1) := by decide +kernel
end
section
theorem dX6_arithmetic_515 : decode cX6_arithmetic 515 = .ok (.getfield 91, 3) := by decide +kernel
theorem dX6_arithmetic_518 : decode cX6_arithmetic 518 = .ok (.lconst 0, 1) := by decide +kernel
theorem dX6_arithmetic_519 : decode cX6_arithmetic 519 = .ok (.lcmp, 1) := by decide +kernel
theorem dX6_arithmetic_520 : decode cX6_arithmetic 520 = .ok (.ifCond .ne 21, 3) := by decide +kernel
theorem dX6_arithmetic_523 : decode cX6_arithmetic 523 = .ok (.lload 15, 2) := by decide +kernel
theorem dX6_arithmetic_525 : decode cX6_arithmetic 525 = .ok (.lconst 0, 1) := by decide +kernel
theorem dX6_arithmetic_526 : decode cX6_arithmetic 526 = .ok (.lcmp, 1) := by decide +kernel
theorem dX6_arithmetic_527 : decode cX6_arithmetic 527 = .ok (.ifCond .ne 8, 3) := by decide +kernel
theorem dX6_arithmetic_530 : decode cX6_arithmetic 530 = .ok (.lload 8, 2) := by decide +kernel
theorem dX6_arithmetic_532 : decode cX6_arithmetic 532 = .ok (.goto 8, 3) := by decide +kernel
theorem dX6_arithmetic_535 : decode cX6_arithmetic 535 = .ok (.lload 20, 2) := by decide +kernel
theorem dX6_arithmetic_537 : decode cX6_arithmetic 537 = .ok (.lload 22, 2) := by decide +kernel
theorem dX6_arithmetic_539 : decode cX6_arithmetic 539 = .ok (.lor, 1) := by decide +kernel
theorem dX6_arithmetic_540 : decode cX6_arithmetic 540 = .ok (.lreturn, 1) := by decide +kernel
theorem dX6_arithmetic_541 : decode cX6_arithmetic 541 = .ok (.lload 15, 2) := by decide +kernel
theorem dX6_arithmetic_543 : decode cX6_arithmetic 543 = .ok (.bipush 40, 2) := by decide +kernel
theorem dX6_arithmetic_545 : decode cX6_arithmetic 545 = .ok (.lshl, 1) := by decide +kernel
theorem dX6_arithmetic_546 : decode cX6_arithmetic 546 = .ok (.aload_n 0, 1) := by decide +kernel
theorem dX6_arithmetic_547 : decode cX6_arithmetic 547 = .ok (.getfield 91, 3) := by decide +kernel
theorem dX6_arithmetic_550 : decode cX6_arithmetic 550 = .ok (.ldiv, 1) := by decide +kernel
theorem dX6_arithmetic_551 : decode cX6_arithmetic 551 = .ok (.lstore 24, 2) := by decide +kernel
theorem dX6_arithmetic_553 : decode cX6_arithmetic 553 = .ok (.iload_n 2, 1) := by decide +kernel
theorem dX6_arithmetic_554 : decode cX6_arithmetic 554 = .ok (.iload 19, 2) := by decide +kernel
theorem dX6_arithmetic_556 : decode cX6_arithmetic 556 = .ok (.lload 24, 2) := by decide +kernel
theorem dX6_arithmetic_558 : decode cX6_arithmetic 558 = .ok (.iload 17, 2) := by decide +kernel
theorem dX6_arithmetic_560 : decode cX6_arithmetic 560 = .ok (.aload_n 0, 1) := by decide +kernel
theorem dX6_arithmetic_561 : decode cX6_arithmetic 561 = .ok (.getfield 95, 3) := by decide +kernel
theorem dX6_arithmetic_564 : decode cX6_arithmetic 564 = .ok (.isub, 1) := by decide +kernel
theorem dX6_arithmetic_565 : decode cX6_arithmetic 565 = .ok (.bipush 40, 2) := by decide +kernel
theorem dX6_arithmetic_567 : decode cX6_arithmetic 567 = .ok (.isub, 1) := by decide +kernel
theorem dX6_arithmetic_568 : decode cX6_arithmetic 568 = .ok (.lload 15, 2) := by decide +kernel
theorem dX6_arithmetic_570 : decode cX6_arithmetic 570 = .ok (.bipush 40, 2) := by decide +kernel
theorem dX6_arithmetic_572 : decode cX6_arithmetic 572 = .ok (.lshl, 1) := by decide +kernel
theorem dX6_arithmetic_573 : decode cX6_arithmetic 573 = .ok (.aload_n 0, 1) := by decide +kernel
theorem dX6_arithmetic_574 : decode cX6_arithmetic 574 = .ok (.getfield 91, 3) := by decide +kernel
theorem dX6_arithmetic_577 : decode cX6_arithmetic 577 = .ok (.lrem, 1) := by decide +kernel
theorem dX6_arithmetic_578 : decode cX6_arithmetic 578 = .ok (.lconst 0, 1) := by decide +kernel
theorem dX6_arithmetic_579 : decode cX6_arithmetic 579 = .ok (.lcmp, 1) := by decide +kernel
theorem dX6_arithmetic_580 : decode cX6_arithmetic 580 = .ok (.ifCond .eq 7, 3) := by decide +kernel
theorem dX6_arithmetic_583 : decode cX6_arithmetic 583 = .ok (.iconst 1, 1) := by decide +kernel
theorem dX6_arithmetic_584 : decode cX6_arithmetic 584 = .ok (.goto 4, 3) := by decide +kernel
theorem dX6_arithmetic_587 : decode cX6_arithmetic 587 = .ok (.iconst 0, 1) := by decide +kernel
theorem dX6_arithmetic_588 : decode cX6_arithmetic 588 = .ok (.iload 7, 2) := by decide +kernel
theorem dX6_arithmetic_590 : decode cX6_arithmetic 590 = .ok (.invokestatic 98, 3) := by decide +kernel
theorem dX6_arithmetic_593 : decode cX6_arithmetic 593 = .ok (.lreturn, 1) := by decide +kernel
theorem dX6_nan_0 : decode cX6_nan 0 = .ok (.iload_n 0, 1) := by decide +kernel
theorem dX6_nan_1 : decode cX6_nan 1 = .ok (.invokestatic 27, 3) := by decide +kernel
theorem dX6_nan_4 : decode cX6_nan 4 = .ok (.iload_n 1, 1) := by decide +kernel
theorem dX6_nan_5 : decode cX6_nan 5 = .ok (.iconst 1, 1) := by decide +kernel
theorem dX6_nan_6 : decode cX6_nan 6 = .ok (.isub, 1) := by decide +kernel
theorem dX6_nan_7 : decode cX6_nan 7 = .ok (.lshl, 1) := by decide +kernel
theorem dX6_nan_8 : decode cX6_nan 8 = .ok (.lconst 1, 1) := by decide +kernel
theorem dX6_nan_9 : decode cX6_nan 9 = .ok (.iload_n 1, 1) := by decide +kernel
theorem dX6_nan_10 : decode cX6_nan 10 = .ok (.iconst 2, 1) := by decide +kernel
theorem dX6_nan_11 : decode cX6_nan 11 = .ok (.isub, 1) := by decide +kernel
theorem dX6_nan_12 : decode cX6_nan 12 = .ok (.lshl, 1) := by decide +kernel
theorem dX6_nan_13 : decode cX6_nan 13 = .ok (.lor, 1) := by decide +kernel
theorem dX6_nan_14 : decode cX6_nan 14 = .ok (.lreturn, 1) := by decide +kernel
theorem dX6_take_0 : decode cX6_take 0 = .ok (.iload_n 3, 1) := by decide +kernel
theorem dX6_take_1 : decode cX6_take 1 = .ok (.invokestatic 20, 3) := by decide +kernel
theorem dX6_take_4 : decode cX6_take 4 = .ok (.istore 4, 2) := by decide +kernel
theorem dX6_take_6 : decode cX6_take 6 = .ok (.iload_n 3, 1) := by decide +kernel
theorem dX6_take_7 : decode cX6_take 7 = .ok (.invokestatic 24, 3) := by decide +kernel
theorem dX6_take_10 : decode cX6_take 10 = .ok (.iconst 1, 1) := by decide +kernel
theorem dX6_take_11 : decode cX6_take 11 = .ok (.isub, 1) := by decide +kernel
theorem dX6_take_12 : decode cX6_take 12 = .ok (.istore 5, 2) := by decide +kernel
theorem dX6_take_14 : decode cX6_take 14 = .ok (.lload_n 1, 1) := by decide +kernel
theorem dX6_take_15 : decode cX6_take 15 = .ok (.iload 5, 2) := by decide +kernel
theorem dX6_take_17 : decode cX6_take 17 = .ok (.invokestatic 27, 3) := by decide +kernel
theorem dX6_take_20 : decode cX6_take 20 = .ok (.land, 1) := by decide +kernel
theorem dX6_take_21 : decode cX6_take 21 = .ok (.lstore 6, 2) := by decide +kernel
theorem dX6_take_23 : decode cX6_take 23 = .ok (.lload_n 1, 1) := by decide +kernel
theorem dX6_take_24 : decode cX6_take 24 = .ok (.iload 5, 2) := by decide +kernel
theorem dX6_take_26 : decode cX6_take 26 = .ok (.lushr, 1) := by decide +kernel
theorem dX6_take_27 : decode cX6_take 27 = .ok (.iload 4, 2) := by decide +kernel
theorem dX6_take_29 : decode cX6_take 29 = .ok (.invokestatic 27, 3) := by decide +kernel
theorem dX6_take_32 : decode cX6_take 32 = .ok (.land, 1) := by decide +kernel
theorem dX6_take_33 : decode cX6_take 33 = .ok (.lstore 8, 2) := by decide +kernel
theorem dX6_take_35 : decode cX6_take 35 = .ok (.iconst 1, 1) := by decide +kernel
theorem dX6_take_36 : decode cX6_take 36 = .ok (.iload 4, 2) := by decide +kernel
theorem dX6_take_38 : decode cX6_take 38 = .ok (.iconst 1, 1) := by decide +kernel
theorem dX6_take_39 : decode cX6_take 39 = .ok (.isub, 1) := by decide +kernel
theorem dX6_take_40 : decode cX6_take 40 = .ok (.ishl, 1) := by decide +kernel
theorem dX6_take_41 : decode cX6_take 41 = .ok (.iconst 1, 1) := by decide +kernel
theorem dX6_take_42 : decode cX6_take 42 = .ok (.isub, 1) := by decide +kernel
theorem dX6_take_43 : decode cX6_take 43 = .ok (.istore 10, 2) := by decide +kernel
theorem dX6_take_45 : decode cX6_take 45 = .ok (.aload_n 0, 1) := by decide +kernel
theorem dX6_take_46 : decode cX6_take 46 = .ok (.lload_n 1, 1) := by decide +kernel
theorem dX6_take_47 : decode cX6_take 47 = .ok (.iload 4, 2) := by decide +kernel
theorem dX6_take_49 : decode cX6_take 49 = .ok (.iload 5, 2) := by decide +kernel
theorem dX6_take_51 : decode cX6_take 51 = .ok (.iadd, 1) := by decide +kernel
theorem dX6_take_52 : decode cX6_take 52 = .ok (.lushr, 1) := by decide +kernel
theorem dX6_take_53 : decode cX6_take 53 = .ok (.lconst 1, 1) := by decide +kernel
theorem dX6_take_54 : decode cX6_take 54 = .ok (.land, 1) := by decide +kernel
theorem dX6_take_55 : decode cX6_take 55 = .ok (.lconst 1, 1) := by decide +kernel
theorem dX6_take_56 : decode cX6_take 56 = .ok (.lcmp, 1) := by decide +kernel
theorem dX6_take_57 : decode cX6_take 57 = .ok (.ifCond .ne 7, 3) := by decide +kernel
theorem dX6_take_60 : decode cX6_take 60 = .ok (.iconst 1, 1) := by decide +kernel
theorem dX6_take_61 : decode cX6_take 61 = .ok (.goto 4, 3) := by decide +kernel
theorem dX6_take_64 : decode cX6_take 64 = .ok (.iconst 0, 1) := by decide +kernel
theorem dX6_take_65 : decode cX6_take 65 = .ok (.putfield 88, 3) := by decide +kernel
theorem dX6_take_68 : decode cX6_take 68 = .ok (.aload_n 0, 1) := by decide +kernel
theorem dX6_take_69 : decode cX6_take 69 = .ok (.lload 8, 2) := by decide +kernel
theorem dX6_take_71 : decode cX6_take 71 = .ok (.iload 4, 2) := by decide +kernel
theorem dX6_take_73 : decode cX6_take 73 = .ok (.invokestatic 27, 3) := by decide +kernel
theorem dX6_take_76 : decode cX6_take 76 = .ok (.lcmp, 1) := by decide +kernel
theorem dX6_take_77 : decode cX6_take 77 = .ok (.ifCond .ne 14, 3) := by decide +kernel
theorem dX6_take_80 : decode cX6_take 80 = .ok (.lload 6, 2) := by decide +kernel
theorem dX6_take_82 : decode cX6_take 82 = .ok (.lconst 0, 1) := by decide +kernel
theorem dX6_take_83 : decode cX6_take 83 = .ok (.lcmp, 1) := by decide +kernel
theorem dX6_take_84 : decode cX6_take 84 = .ok (.ifCond .eq 7, 3) := by decide +kernel
theorem dX6_take_87 : decode cX6_take 87 = .ok (.iconst 1, 1) := by decide +kernel
theorem dX6_take_88 : decode cX6_take 88 = .ok (.goto 4, 3) := by decide +kernel
theorem dX6_take_91 : decode cX6_take 91 = .ok (.iconst 0, 1) := by decide +kernel
theorem dX6_take_92 : decode cX6_take 92 = .ok (.putfield 64, 3) := by decide +kernel
theorem dX6_take_95 : decode cX6_take 95 = .ok (.aload_n 0, 1) := by decide +kernel
theorem dX6_take_96 : decode cX6_take 96 = .ok (.lload 8, 2) := by decide +kernel
theorem dX6_take_98 : decode cX6_take 98 = .ok (.iload 4, 2) := by decide +kernel
theorem dX6_take_100 : decode cX6_take 100 = .ok (.invokestatic 27, 3) := by decide +kernel
theorem dX6_take_103 : decode cX6_take 103 = .ok (.lcmp, 1) := by decide +kernel
theorem dX6_take_104 : decode cX6_take 104 = .ok (.ifCond .ne 14, 3) := by decide +kernel
theorem dX6_take_107 : decode cX6_take 107 = .ok (.lload 6, 2) := by decide +kernel
theorem dX6_take_109 : decode cX6_take 109 = .ok (.lconst 0, 1) := by decide +kernel
theorem dX6_take_110 : decode cX6_take 110 = .ok (.lcmp, 1) := by decide +kernel
theorem dX6_take_111 : decode cX6_take 111 = .ok (.ifCond .ne 7, 3) := by decide +kernel
theorem dX6_take_114 : decode cX6_take 114 = .ok (.iconst 1, 1) := by decide +kernel
theorem dX6_take_115 : decode cX6_take 115 = .ok (.goto 4, 3) := by decide +kernel
theorem dX6_take_118 : decode cX6_take 118 = .ok (.iconst 0, 1) := by decide +kernel
theorem dX6_take_119 : decode cX6_take 119 = .ok (.putfield 85, 3) := by decide +kernel
theorem dX6_take_122 : decode cX6_take 122 = .ok (.aload_n 0, 1) := by decide +kernel
theorem dX6_take_123 : decode cX6_take 123 = .ok (.lload 8, 2) := by decide +kernel
theorem dX6_take_125 : decode cX6_take 125 = .ok (.lconst 0, 1) := by decide +kernel
theorem dX6_take_126 : decode cX6_take 126 = .ok (.lcmp, 1) := by decide +kernel
theorem dX6_take_127 : decode cX6_take 127 = .ok (.ifCond .ne 8, 3) := by decide +kernel
theorem dX6_take_130 : decode cX6_take 130 = .ok (.lload 6, 2) := by decide +kernel
theorem dX6_take_132 : decode cX6_take 132 = .ok (.goto 10, 3) := by decide +kernel
theorem dX6_take_135 : decode cX6_take 135 = .ok (.lload 6, 2) := by decide +kernel
theorem dX6_take_137 : decode cX6_take 137 = .ok (.lconst 1, 1) := by decide +kernel
theorem dX6_take_138 : decode cX6_take 138 = .ok (.iload 5, 2) := by decide +kernel
theorem dX6_take_140 : decode cX6_take 140 = .ok (.lshl, 1) := by decide +kernel
theorem dX6_take_141 : decode cX6_take 141 = .ok (.lor, 1) := by decide +kernel
theorem dX6_take_142 : decode cX6_take 142 = .ok (.putfield 91, 3) := by decide +kernel
theorem dX6_take_145 : decode cX6_take 145 = .ok (.aload_n 0, 1) := by decide +kernel
theorem dX6_take_146 : decode cX6_take 146 = .ok (.lload 8, 2) := by decide +kernel
theorem dX6_take_148 : decode cX6_take 148 = .ok (.lconst 0, 1) := by decide +kernel
theorem dX6_take_149 : decode cX6_take 149 = .ok (.lcmp, 1) := by decide +kernel
theorem dX6_take_150 : decode cX6_take 150 = .ok (.ifCond .ne 7, 3) := by decide +kernel
theorem dX6_take_153 : decode cX6_take 153 = .ok (.iconst 1, 1) := by decide +kernel
theorem dX6_take_154 : decode cX6_take 154 = .ok (.goto 6, 3) := by decide +kernel
theorem dX6_take_157 : decode cX6_take 157 = .ok (.lload 8, 2) := by decide +kernel
theorem dX6_take_159 : decode cX6_take 159 = .ok (.l2i, 1) := by decide +kernel
theorem dX6_take_160 : decode cX6_take 160 = .ok (.iload 10, 2) := by decide +kernel
theorem dX6_take_162 : decode cX6_take 162 = .ok (.isub, 1) := by decide +kernel
theorem dX6_take_163 : decode cX6_take 163 = .ok (.iload 5, 2) := by decide +kernel
theorem dX6_take_165 : decode cX6_take 165 = .ok (.isub, 1) := by decide +kernel
theorem dX6_take_166 : decode cX6_take 166 = .ok (.putfield 95, 3) := by decide +kernel
theorem dX6_take_169 : decode cX6_take 169 = .ok (.return_, 1) := by decide +kernel
theorem dX6_round_0 : decode cX6_round 0 = .ok (.iload 6, 2) := by decide +kernel
theorem dX6_round_2 : decode cX6_round 2 = .ok (.invokestatic 20, 3) := by decide +kernel
theorem dX6_round_5 : decode cX6_round 5 = .ok (.istore 7, 2) := by decide +kernel
theorem dX6_round_7 : decode cX6_round 7 = .ok (.iload 6, 2) := by decide +kernel
theorem dX6_round_9 : decode cX6_round 9 = .ok (.invokestatic 24, 3) := by decide +kernel
theorem dX6_round_12 : decode cX6_round 12 = .ok (.iconst 1, 1) := by decide +kernel
theorem dX6_round_13 : decode cX6_round 13 = .ok (.isub, 1) := by decide +kernel
theorem dX6_round_14 : decode cX6_round 14 = .ok (.istore 8, 2) := by decide +kernel
theorem dX6_round_16 : decode cX6_round 16 = .ok (.iconst 1, 1) := by decide +kernel
theorem dX6_round_17 : decode cX6_round 17 = .ok (.iload 7, 2) := by decide +kernel
theorem dX6_round_19 : decode cX6_round 19 = .ok (.iconst 1, 1) := by decide +kernel
theorem dX6_round_20 : decode cX6_round 20 = .ok (.isub, 1) := by decide +kernel
theorem dX6_round_21 : decode cX6_round 21 = .ok (.ishl, 1) := by decide +kernel
theorem dX6_round_22 : decode cX6_round 22 = .ok (.iconst 1, 1) := by decide +kernel
theorem dX6_round_23 : decode cX6_round 23 = .ok (.isub, 1) := by decide +kernel
theorem dX6_round_24 : decode cX6_round 24 = .ok (.istore 9, 2) := by decide +kernel
theorem dX6_round_26 : decode cX6_round 26 = .ok (.iload_n 1, 1) := by decide +kernel
theorem dX6_round_27 : decode cX6_round 27 = .ok (.ifCond .eq 13, 3) := by decide +kernel
theorem dX6_round_30 : decode cX6_round 30 = .ok (.lconst 1, 1) := by decide +kernel
theorem dX6_round_31 : decode cX6_round 31 = .ok (.iload 7, 2) := by decide +kernel
theorem dX6_round_33 : decode cX6_round 33 = .ok (.iload 8, 2) := by decide +kernel
theorem dX6_round_35 : decode cX6_round 35 = .ok (.iadd, 1) := by decide +kernel
theorem dX6_round_36 : decode cX6_round 36 = .ok (.lshl, 1) := by decide +kernel
theorem dX6_round_37 : decode cX6_round 37 = .ok (.goto 4, 3) := by decide +kernel
theorem dX6_round_40 : decode cX6_round 40 = .ok (.lconst 0, 1) := by decide +kernel
theorem dX6_round_41 : decode cX6_round 41 = .ok (.lstore 10, 2) := by decide +kernel
theorem dX6_round_43 : decode cX6_round 43 = .ok (.lload_n 2, 1) := by decide +kernel
theorem dX6_round_44 : decode cX6_round 44 = .ok (.lconst 0, 1) := by decide +kernel
theorem dX6_round_45 : decode cX6_round 45 = .ok (.lcmp, 1) := by decide +kernel
theorem dX6_round_46 : decode cX6_round 46 = .ok (.ifCond .ne 11, 3) := by decide +kernel
theorem dX6_round_49 : decode cX6_round 49 = .ok (.iload 5, 2) := by decide +kernel
theorem dX6_round_51 : decode cX6_round 51 = .ok (.ifCond .ne 6, 3) := by decide +kernel
theorem dX6_round_54 : decode cX6_round 54 = .ok (.lload 10, 2) := by decide +kernel
theorem dX6_round_56 : decode cX6_round 56 = .ok (.lreturn, 1) := by decide +kernel
theorem dX6_round_57 : decode cX6_round 57 = .ok (.bipush 64, 2) := by decide +kernel
theorem dX6_round_59 : decode cX6_round 59 = .ok (.lload_n 2, 1) := by decide +kernel
theorem dX6_round_60 : decode cX6_round 60 = .ok (.invokestatic 113, 3) := by decide +kernel
theorem dX6_round_63 : decode cX6_round 63 = .ok (.isub, 1) := by decide +kernel
theorem dX6_round_64 : decode cX6_round 64 = .ok (.istore 12, 2) := by decide +kernel
theorem dX6_round_66 : decode cX6_round 66 = .ok (.iconst 1, 1) := by decide +kernel
theorem dX6_round_67 : decode cX6_round 67 = .ok (.iload 9, 2) := by decide +kernel
theorem dX6_round_69 : decode cX6_round 69 = .ok (.isub, 1) := by decide +kernel
theorem dX6_round_70 : decode cX6_round 70 = .ok (.iload 8, 2) := by decide +kernel
theorem dX6_round_72 : decode cX6_round 72 = .ok (.isub, 1) := by decide +kernel
theorem dX6_round_73 : decode cX6_round 73 = .ok (.istore 13, 2) := by decide +kernel
theorem dX6_round_75 : decode cX6_round 75 = .ok (.iload 4, 2) := by decide +kernel
theorem dX6_round_77 : decode cX6_round 77 = .ok (.iload 12, 2) := by decide +kernel
theorem dX6_round_79 : decode cX6_round 79 = .ok (.iadd, 1) := by decide +kernel
theorem dX6_round_80 : decode cX6_round 80 = .ok (.iconst 1, 1) := by decide +kernel
theorem dX6_round_81 : decode cX6_round 81 = .ok (.isub, 1) := by decide +kernel
theorem dX6_round_82 : decode cX6_round 82 = .ok (.iload 8, 2) := by decide +kernel
theorem dX6_round_84 : decode cX6_round 84 = .ok (.isub, 1) := by decide +kernel
theorem dX6_round_85 : decode cX6_round 85 = .ok (.iload 13, 2) := by decide +kernel
theorem dX6_round_87 : decode cX6_round 87 = .ok (.if_icmp .le 16, 3) := by decide +kernel
theorem dX6_round_90 : decode cX6_round 90 = .ok (.iload 4, 2) := by decide +kernel
theorem dX6_round_92 : decode cX6_round 92 = .ok (.iload 12, 2) := by decide +kernel
theorem dX6_round_94 : decode cX6_round 94 = .ok (.iadd, 1) := by decide +kernel
theorem dX6_round_95 : decode cX6_round 95 = .ok (.iconst 1, 1) := by decide +kernel
theorem dX6_round_96 : decode cX6_round 96 = .ok (.isub, 1) := by decide +kernel
theorem dX6_round_97 : decode cX6_round 97 = .ok (.iload 8, 2) := by decide +kernel
theorem dX6_round_99 : decode cX6_round 99 = .ok (.isub, 1) := by decide +kernel
theorem dX6_round_100 : decode cX6_round 100 = .ok (.goto 5, 3) := by decide +kernel
theorem dX6_round_103 : decode cX6_round 103 = .ok (.iload 13, 2) := by decide +kernel
theorem dX6_round_105 : decode cX6_round 105 = .ok (.istore 14, 2) := by decide +kernel
theorem dX6_round_107 : decode cX6_round 107 = .ok (.lload_n 2, 1) := by decide +kernel
theorem dX6_round_108 : decode cX6_round 108 = .ok (.iload 14, 2) := by decide +kernel
theorem dX6_round_110 : decode cX6_round 110 = .ok (.iload 4, 2) := by decide +kernel
theorem dX6_round_112 : decode cX6_round 112 = .ok (.isub, 1) := by decide +kernel
theorem dX6_round_113 : decode cX6_round 113 = .ok (.iload 5, 2) := by decide +kernel
theorem dX6_round_115 : decode cX6_round 115 = .ok (.iload_n 0, 1) := by decide +kernel
theorem dX6_round_116 : decode cX6_round 116 = .ok (.iload_n 1, 1) := by decide +kernel
theorem dX6_round_117 : decode cX6_round 117 = .ok (.invokestatic 105, 3) := by decide +kernel
theorem dX6_round_120 : decode cX6_round 120 = .ok (.lstore 15, 2) := by decide +kernel
theorem dX6_round_122 : decode cX6_round 122 = .ok (.lload 15, 2) := by decide +kernel
theorem dX6_round_124 : decode cX6_round 124 = .ok (.lconst 1, 1) := by decide +kernel
theorem dX6_round_125 : decode cX6_round 125 = .ok (.iload 8, 2) := by decide +kernel
theorem dX6_round_127 : decode cX6_round 127 = .ok (.iconst 1, 1) := by decide +kernel
theorem dX6_round_128 : decode cX6_round 128 = .ok (.iadd, 1) := by decide +kernel
theorem dX6_round_129 : decode cX6_round 129 = .ok (.lshl, 1) := by decide +kernel
theorem dX6_round_130 : decode cX6_round 130 = .ok (.lcmp, 1) := by decide +kernel
theorem dX6_round_131 : decode cX6_round 131 = .ok (.ifCond .ne 12, 3) := by decide +kernel
theorem dX6_round_134 : decode cX6_round 134 = .ok (.lload 15, 2) := by decide +kernel
theorem dX6_round_136 : decode cX6_round 136 = .ok (.iconst 1, 1) := by decide +kernel
theorem dX6_round_137 : decode cX6_round 137 = .ok (.lshr, 1) := by decide +kernel
theorem dX6_round_138 : decode cX6_round 138 = .ok (.lstore 15, 2) := by decide +kernel
theorem dX6_round_140 : decode cX6_round 140 = .ok (.iinc 14 1, 3) := by decide +kernel
theorem dX6_round_143 : decode cX6_round 143 = .ok (.lload 15, 2) := by decide +kernel
theorem dX6_round_145 : decode cX6_round 145 = .ok (.lconst 1, 1) := by decide +kernel
theorem dX6_round_146 : decode cX6_round 146 = .ok (.iload 8, 2) := by decide +kernel
theorem dX6_round_148 : decode cX6_round 148 = .ok (.lshl, 1) := by decide +kernel
theorem dX6_round_149 : decode cX6_round 149 = .ok (.lcmp, 1) := by decide +kernel
theorem dX6_round_150 : decode cX6_round 150 = .ok (.ifCond .lt 79, 3) := by decide +kernel
theorem dX6_round_153 : decode cX6_round 153 = .ok (.iload 14, 2) := by decide +kernel
theorem dX6_round_155 : decode cX6_round 155 = .ok (.iload 8, 2) := by decide +kernel
theorem dX6_round_157 : decode cX6_round 157 = .ok (.iadd, 1) := by decide +kernel
theorem dX6_round_158 : decode cX6_round 158 = .ok (.iload 9, 2) := by decide +kernel
theorem dX6_round_160 : decode cX6_round 160 = .ok (.if_icmp .le 69, 3) := by decide +kernel
theorem dX6_round_163 : decode cX6_round 163 = .ok (.iload_n 0, 1) := by decide +kernel
theorem dX6_round_164 : decode cX6_round 164 = .ok (.iconst 2, 1) := by decide +kernel
theorem dX6_round_165 : decode cX6_round 165 = .ok (.if_icmp .lt 21, 3) := by decide +kernel
theorem dX6_round_168 : decode cX6_round 168 = .ok (.iload_n 0, 1) := by decide +kernel
theorem dX6_round_169 : decode cX6_round 169 = .ok (.iconst 2, 1) := by decide +kernel
theorem dX6_round_170 : decode cX6_round 170 = .ok (.if_icmp .ne 7, 3) := by decide +kernel
theorem dX6_round_173 : decode cX6_round 173 = .ok (.iload_n 1, 1) := by decide +kernel
theorem dX6_round_174 : decode cX6_round 174 = .ok (.ifCond .eq 12, 3) := by decide +kernel
theorem dX6_round_177 : decode cX6_round 177 = .ok (.iload_n 0, 1) := by decide +kernel
theorem dX6_round_178 : decode cX6_round 178 = .ok (.iconst 3, 1) := by decide +kernel
theorem dX6_round_179 : decode cX6_round 179 = .ok (.if_icmp .ne 11, 3) := by decide +kernel
theorem dX6_round_182 : decode cX6_round 182 = .ok (.iload_n 1, 1) := by decide +kernel
theorem dX6_round_183 : decode cX6_round 183 = .ok (.ifCond .eq 7, 3) := by decide +kernel
theorem dX6_round_186 : decode cX6_round 186 = .ok (.iconst 1, 1) := by decide +kernel
theorem dX6_round_187 : decode cX6_round 187 = .ok (.goto 4, 3) := by decide +kernel
theorem dX6_round_190 : decode cX6_round 190 = .ok (.iconst 0, 1) := by decide +kernel
theorem dX6_round_191 : decode cX6_round 191 = .ok (.istore 17, 2) := by decide +kernel
theorem dX6_round_193 : decode cX6_round 193 = .ok (.lload 10, 2) := by decide +kernel
theorem dX6_round_195 : decode cX6_round 195 = .ok (.iload 17, 2) := by decide +kernel
theorem dX6_round_197 : decode cX6_round 197 = .ok (.ifCond .eq 14, 3) := by decide +kernel
theorem dX6_round_200 : decode cX6_round 200 = .ok (.iload 7, 2) := by decide +kernel
theorem dX6_round_202 : decode cX6_round 202 = .ok (.invokestatic 27, 3) := by decide +kernel
theorem dX6_round_205 : decode cX6_round 205 = .ok (.iload 8, 2) := by decide +kernel
theorem dX6_round_207 : decode cX6_round 207 = .ok (.lshl, 1) := by decide +kernel
theorem dX6_round_208 : decode cX6_round 208 = .ok (.goto 19, 3) := by decide +kernel
theorem dX6_round_211 : decode cX6_round 211 = .ok (.iload 7, 2) := by decide +kernel
theorem dX6_round_213 : decode cX6_round 213 = .ok (.invokestatic 27, 3) := by decide +kernel
theorem dX6_round_216 : decode cX6_round 216 = .ok (.lconst 1, 1) := by decide +kernel
theorem dX6_round_217 : decode cX6_round 217 = .ok (.lsub, 1) := by decide +kernel
theorem dX6_round_218 : decode cX6_round 218 = .ok (.iload 8, 2) := by decide +kernel
theorem dX6_round_220 : decode cX6_round 220 = .ok (.lshl, 1) := by decide +kernel
theorem dX6_round_221 : decode cX6_round 221 = .ok (.iload 8, 2) := by decide +kernel
theorem dX6_round_223 : decode cX6_round 223 = .ok (.invokestatic 27, 3) := by decide +kernel
theorem dX6_round_226 : decode cX6_round 226 = .ok (.lor, 1) := by decide +kernel
theorem dX6_round_227 : decode cX6_round 227 = .ok (.lor, 1) := by decide +kernel
theorem dX6_round_228 : decode cX6_round 228 = .ok (.lreturn, 1) := by decide +kernel
theorem dX6_round_229 : decode cX6_round 229 = .ok (.lload 15, 2) := by decide +kernel
theorem dX6_round_231 : decode cX6_round 231 = .ok (.lconst 1, 1) := by decide +kernel
theorem dX6_round_232 : decode cX6_round 232 = .ok (.iload 8, 2) := by decide +kernel
theorem dX6_round_234 : decode cX6_round 234 = .ok (.lshl, 1) := by decide +kernel
theorem dX6_round_235 : decode cX6_round 235 = .ok (.lcmp, 1) := by decide +kernel
theorem dX6_round_236 : decode cX6_round 236 = .ok (.ifCond .ge 11, 3) := by decide +kernel
theorem dX6_round_239 : decode cX6_round 239 = .ok (.lload 10, 2) := by decide +kernel
theorem dX6_round_241 : decode cX6_round 241 = .ok (.lload 15, 2) := by decide +kernel
theorem dX6_round_243 : decode cX6_round 243 = .ok (.lor, 1) := by decide +kernel
theorem dX6_round_244 : decode cX6_round 244 = .ok (.goto 27, 3) := by decide +kernel
theorem dX6_round_247 : decode cX6_round 247 = .ok (.lload 10, 2) := by decide +kernel
theorem dX6_round_249 : decode cX6_round 249 = .ok (.iload 14, 2) := by decide +kernel
theorem dX6_round_251 : decode cX6_round 251 = .ok (.iload 8, 2) := by decide +kernel
theorem dX6_round_253 : decode cX6_round 253 = .ok (.iadd, 1) := by decide +kernel
theorem dX6_round_254 : decode cX6_round 254 = .ok (.iload 9, 2) := by decide +kernel
theorem dX6_round_256 : decode cX6_round 256 = .ok (.iadd, 1) := by decide +kernel
theorem dX6_round_257 : decode cX6_round 257 = .ok (.i2l, 1) := by decide +kernel
theorem dX6_round_258 : decode cX6_round 258 = .ok (.iload 8, 2) := by decide +kernel
theorem dX6_round_260 : decode cX6_round 260 = .ok (.lshl, 1) := by decide +kernel
theorem dX6_round_261 : decode cX6_round 261 = .ok (.lor, 1) := by decide +kernel
theorem dX6_round_262 : decode cX6_round 262 = .ok (.lload 15, 2) := by decide +kernel
theorem dX6_round_264 : decode cX6_round 264 = .ok (.iload 8, 2) := by decide +kernel
theorem dX6_round_266 : decode cX6_round 266 = .ok (.invokestatic 27, 3) := by decide +kernel
theorem dX6_round_269 : decode cX6_round 269 = .ok (.land, 1) := by decide +kernel
theorem dX6_round_270 : decode cX6_round 270 = .ok (.lor, 1) := by decide +kernel
theorem dX6_round_271 : decode cX6_round 271 = .ok (.lreturn, 1) := by decide +kernel
theorem dJ1_numberOfLeadingZeros_0 : decode cJ1_numberOfLeadingZeros 0 = .ok (.lload_n 0, 1) := by decide +kernel
theorem dJ1_numberOfLeadingZeros_1 : decode cJ1_numberOfLeadingZeros 1 = .ok (.bipush 32, 2) := by decide +kernel
theorem dJ1_numberOfLeadingZeros_3 : decode cJ1_numberOfLeadingZeros 3 = .ok (.lushr, 1) := by decide +kernel
theorem dJ1_numberOfLeadingZeros_4 : decode cJ1_numberOfLeadingZeros 4 = .ok (.l2i, 1) := by decide +kernel
theorem dJ1_numberOfLeadingZeros_5 : decode cJ1_numberOfLeadingZeros 5 = .ok (.istore_n 2, 1) := by decide +kernel
theorem dJ1_numberOfLeadingZeros_6 : decode cJ1_numberOfLeadingZeros 6 = .ok (.iload_n 2, 1) := by decide +kernel
theorem dJ1_numberOfLeadingZeros_7 : decode cJ1_numberOfLeadingZeros 7 = .ok (.ifCond .ne 14, 3) := by decide +kernel
theorem dJ1_numberOfLeadingZeros_10 : decode cJ1_numberOfLeadingZeros 10 = .ok (.bipush 32, 2) := by decide +kernel
theorem dJ1_numberOfLeadingZeros_12 : decode cJ1_numberOfLeadingZeros 12 = .ok (.lload_n 0, 1) := by decide +kernel
theorem dJ1_numberOfLeadingZeros_13 : decode cJ1_numberOfLeadingZeros 13 = .ok (.l2i, 1) := by decide +kernel
theorem dJ1_numberOfLeadingZeros_14 : decode cJ1_numberOfLeadingZeros 14 = .ok (.invokestatic 308, 3) := by decide +kernel
theorem dJ1_numberOfLeadingZeros_17 : decode cJ1_numberOfLeadingZeros 17 = .ok (.iadd, 1) := by decide +kernel
theorem dJ1_numberOfLeadingZeros_18 : decode cJ1_numberOfLeadingZeros 18 = .ok (.goto 7, 3) := by decide +kernel
theorem dJ1_numberOfLeadingZeros_21 : decode cJ1_numberOfLeadingZeros 21 = .ok (.iload_n 2, 1) := by decide +kernel
theorem dJ1_numberOfLeadingZeros_22 : decode cJ1_numberOfLeadingZeros 22 = .ok (.invokestatic 308, 3) := by decide +kernel
theorem dJ1_numberOfLeadingZeros_25 : decode cJ1_numberOfLeadingZeros 25 = .ok (.ireturn, 1) := by decide +kernel
theorem dJ0_numberOfLeadingZeros_0 : decode cJ0_numberOfLeadingZeros 0 = .ok (.iload_n 0, 1) := by decide +kernel
theorem dJ0_numberOfLeadingZeros_1 : decode cJ0_numberOfLeadingZeros 1 = .ok (.ifCond .gt 14, 3) := by decide +kernel
theorem dJ0_numberOfLeadingZeros_4 : decode cJ0_numberOfLeadingZeros 4 = .ok (.iload_n 0, 1) := by decide +kernel
theorem dJ0_numberOfLeadingZeros_5 : decode cJ0_numberOfLeadingZeros 5 = .ok (.ifCond .ne 8, 3) := by decide +kernel
theorem dJ0_numberOfLeadingZeros_8 : decode cJ0_numberOfLeadingZeros 8 = .ok (.bipush 32, 2) := by decide +kernel
theorem dJ0_numberOfLeadingZeros_10 : decode cJ0_numberOfLeadingZeros 10 = .ok (.goto 4, 3) := by decide +kernel
theorem dJ0_numberOfLeadingZeros_13 : decode cJ0_numberOfLeadingZeros 13 = .ok (.iconst 0, 1) := by decide +kernel
theorem dJ0_numberOfLeadingZeros_14 : decode cJ0_numberOfLeadingZeros 14 = .ok (.ireturn, 1) := by decide +kernel
theorem dJ0_numberOfLeadingZeros_15 : decode cJ0_numberOfLeadingZeros 15 = .ok (.bipush 31, 2) := by decide +kernel
theorem dJ0_numberOfLeadingZeros_17 : decode cJ0_numberOfLeadingZeros 17 = .ok (.istore_n 1, 1) := by decide +kernel
theorem dJ0_numberOfLeadingZeros_18 : decode cJ0_numberOfLeadingZeros 18 = .ok (.iload_n 0, 1) := by decide +kernel
theorem dJ0_numberOfLeadingZeros_19 : decode cJ0_numberOfLeadingZeros 19 = .ok (.ldc_w 264, 3) := by decide +kernel
theorem dJ0_numberOfLeadingZeros_22 : decode cJ0_numberOfLeadingZeros 22 = .ok (.if_icmp .lt 11, 3) := by decide +kernel
theorem dJ0_numberOfLeadingZeros_25 : decode cJ0_numberOfLeadingZeros 25 = .ok (.iinc 1 (-16), 3) := by decide +kernel
theorem dJ0_numberOfLeadingZeros_28 : decode cJ0_numberOfLeadingZeros 28 = .ok (.iload_n 0, 1) := by decide +kernel
theorem dJ0_numberOfLeadingZeros_29 : decode cJ0_numberOfLeadingZeros 29 = .ok (.bipush 16, 2) := by decide +kernel
theorem dJ0_numberOfLeadingZeros_31 : decode cJ0_numberOfLeadingZeros 31 = .ok (.iushr, 1) := by decide +kernel
theorem dJ0_numberOfLeadingZeros_32 : decode cJ0_numberOfLeadingZeros 32 = .ok (.istore_n 0, 1) := by decide +kernel
theorem dJ0_numberOfLeadingZeros_33 : decode cJ0_numberOfLeadingZeros 33 = .ok (.iload_n 0, 1) := by decide +kernel
theorem dJ0_numberOfLeadingZeros_34 : decode cJ0_numberOfLeadingZeros 34 = .ok (.sipush 256, 3) := by decide +kernel
theorem dJ0_numberOfLeadingZeros_37 : decode cJ0_numberOfLeadingZeros 37 = .ok (.if_icmp .lt 11, 3) := by decide +kernel
theorem dJ0_numberOfLeadingZeros_40 : decode cJ0_numberOfLeadingZeros 40 = .ok (.iinc 1 (-8), 3) := by decide +kernel
theorem dJ0_numberOfLeadingZeros_43 : decode cJ0_numberOfLeadingZeros 43 = .ok (.iload_n 0, 1) := by decide +kernel
theorem dJ0_numberOfLeadingZeros_44 : decode cJ0_numberOfLeadingZeros 44 = .ok (.bipush 8, 2) := by decide +kernel
theorem dJ0_numberOfLeadingZeros_46 : decode cJ0_numberOfLeadingZeros 46 = .ok (.iushr, 1) := by decide +kernel
theorem dJ0_numberOfLeadingZeros_47 : decode cJ0_numberOfLeadingZeros 47 = .ok (.istore_n 0, 1) := by decide +kernel
theorem dJ0_numberOfLeadingZeros_48 : decode cJ0_numberOfLeadingZeros 48 = .ok (.iload_n 0, 1) := by decide +kernel
theorem dJ0_numberOfLeadingZeros_49 : decode cJ0_numberOfLeadingZeros 49 = .ok (.bipush 16, 2) := by decide +kernel
theorem dJ0_numberOfLeadingZeros_51 : decode cJ0_numberOfLeadingZeros 51 = .ok (.if_icmp .lt 10, 3) := by decide +kernel
theorem dJ0_numberOfLeadingZeros_54 : decode cJ0_numberOfLeadingZeros 54 = .ok (.iinc 1 (-4), 3) := by decide +kernel
theorem dJ0_numberOfLeadingZeros_57 : decode cJ0_numberOfLeadingZeros 57 = .ok (.iload_n 0, 1) := by decide +kernel
theorem dJ0_numberOfLeadingZeros_58 : decode cJ0_numberOfLeadingZeros 58 = .ok (.iconst 4, 1) := by decide +kernel
theorem dJ0_numberOfLeadingZeros_59 : decode cJ0_numberOfLeadingZeros 59 = .ok (.iushr, 1) := by decide +kernel
theorem dJ0_numberOfLeadingZeros_60 : decode cJ0_numberOfLeadingZeros 60 = .ok (.istore_n 0, 1) := by decide +kernel
theorem dJ0_numberOfLeadingZeros_61 : decode cJ0_numberOfLeadingZeros 61 = .ok (.iload_n 0, 1) := by decide +kernel
theorem dJ0_numberOfLeadingZeros_62 : decode cJ0_numberOfLeadingZeros 62 = .ok (.iconst 4, 1) := by decide +kernel
theorem dJ0_numberOfLeadingZeros_63 : decode cJ0_numberOfLeadingZeros 63 = .ok (.if_icmp .lt 10, 3) := by decide +kernel
theorem dJ0_numberOfLeadingZeros_66 : decode cJ0_numberOfLeadingZeros 66 = .ok (.iinc 1 (-2), 3) := by decide +kernel
theorem dJ0_numberOfLeadingZeros_69 : decode cJ0_numberOfLeadingZeros 69 = .ok (.iload_n 0, 1) := by decide +kernel
theorem dJ0_numberOfLeadingZeros_70 : decode cJ0_numberOfLeadingZeros 70 = .ok (.iconst 2, 1) := by decide +kernel
theorem dJ0_numberOfLeadingZeros_71 : decode cJ0_numberOfLeadingZeros 71 = .ok (.iushr, 1) := by decide +kernel
theorem dJ0_numberOfLeadingZeros_72 : decode cJ0_numberOfLeadingZeros 72 = .ok (.istore_n 0, 1) := by decide +kernel
theorem dJ0_numberOfLeadingZeros_73 : decode cJ0_numberOfLeadingZeros 73 = .ok (.iload_n 1, 1) := by decide +kernel
theorem dJ0_numberOfLeadingZeros_74 : decode cJ0_numberOfLeadingZeros 74 = .ok (.iload_n 0, 1) := by decide +kernel
theorem dJ0_numberOfLeadingZeros_75 : decode cJ0_numberOfLeadingZeros 75 = .ok (.iconst 1, 1) := by decide +kernel
theorem dJ0_numberOfLeadingZeros_76 : decode cJ0_numberOfLeadingZeros 76 = .ok (.iushr, 1) := by decide +kernel
theorem dJ0_numberOfLeadingZeros_77 : decode cJ0_numberOfLeadingZeros 77 = .ok (.isub, 1) := by decide +kernel
theorem dJ0_numberOfLeadingZeros_78 : decode cJ0_numberOfLeadingZeros 78 = .ok (.ireturn, 1) := by decide +kernel
theorem dX6_cut_0 : decode cX6_cut 0 = .ok (.iload_n 2, 1) := by decide +kernel
theorem dX6_cut_1 : decode cX6_cut 1 = .ok (.ifCond .gt 8, 3) := by decide +kernel
theorem dX6_cut_4 : decode cX6_cut 4 = .ok (.lload_n 0, 1) := by decide +kernel
theorem dX6_cut_5 : decode cX6_cut 5 = .ok (.iload_n 2, 1) := by decide +kernel
theorem dX6_cut_6 : decode cX6_cut 6 = .ok (.ineg, 1) := by decide +kernel
theorem dX6_cut_7 : decode cX6_cut 7 = .ok (.lshl, 1) := by decide +kernel
theorem dX6_cut_8 : decode cX6_cut 8 = .ok (.lreturn, 1) := by decide +kernel
theorem dX6_cut_9 : decode cX6_cut 9 = .ok (.iload_n 2, 1) := by decide +kernel
theorem dX6_cut_10 : decode cX6_cut 10 = .ok (.bipush 62, 2) := by decide +kernel
theorem dX6_cut_12 : decode cX6_cut 12 = .ok (.if_icmp .le 7, 3) := by decide +kernel
theorem dX6_cut_15 : decode cX6_cut 15 = .ok (.lconst 0, 1) := by decide +kernel
theorem dX6_cut_16 : decode cX6_cut 16 = .ok (.goto 6, 3) := by decide +kernel
theorem dX6_cut_19 : decode cX6_cut 19 = .ok (.lload_n 0, 1) := by decide +kernel
theorem dX6_cut_20 : decode cX6_cut 20 = .ok (.iload_n 2, 1) := by decide +kernel
theorem dX6_cut_21 : decode cX6_cut 21 = .ok (.lushr, 1) := by decide +kernel
theorem dX6_cut_22 : decode cX6_cut 22 = .ok (.lstore 6, 2) := by decide +kernel
theorem dX6_cut_24 : decode cX6_cut 24 = .ok (.iload_n 2, 1) := by decide +kernel
theorem dX6_cut_25 : decode cX6_cut 25 = .ok (.bipush 62, 2) := by decide +kernel
theorem dX6_cut_27 : decode cX6_cut 27 = .ok (.if_icmp .le 7, 3) := by decide +kernel
theorem dX6_cut_30 : decode cX6_cut 30 = .ok (.lload_n 0, 1) := by decide +kernel
theorem dX6_cut_31 : decode cX6_cut 31 = .ok (.goto 9, 3) := by decide +kernel
theorem dX6_cut_34 : decode cX6_cut 34 = .ok (.lload_n 0, 1) := by decide +kernel
theorem dX6_cut_35 : decode cX6_cut 35 = .ok (.iload_n 2, 1) := by decide +kernel
theorem dX6_cut_36 : decode cX6_cut 36 = .ok (.invokestatic 27, 3) := by decide +kernel
theorem dX6_cut_39 : decode cX6_cut 39 = .ok (.land, 1) := by decide +kernel
theorem dX6_cut_40 : decode cX6_cut 40 = .ok (.lstore 8, 2) := by decide +kernel
theorem dX6_cut_42 : decode cX6_cut 42 = .ok (.iload_n 2, 1) := by decide +kernel
theorem dX6_cut_43 : decode cX6_cut 43 = .ok (.bipush 62, 2) := by decide +kernel
theorem dX6_cut_45 : decode cX6_cut 45 = .ok (.if_icmp .le 22, 3) := by decide +kernel
theorem dX6_cut_48 : decode cX6_cut 48 = .ok (.lload_n 0, 1) := by decide +kernel
theorem dX6_cut_49 : decode cX6_cut 49 = .ok (.lconst 0, 1) := by decide +kernel
theorem dX6_cut_50 : decode cX6_cut 50 = .ok (.lcmp, 1) := by decide +kernel
theorem dX6_cut_51 : decode cX6_cut 51 = .ok (.ifCond .ne 12, 3) := by decide +kernel
theorem dX6_cut_54 : decode cX6_cut 54 = .ok (.iload_n 3, 1) := by decide +kernel
theorem dX6_cut_55 : decode cX6_cut 55 = .ok (.ifCond .ne 8, 3) := by decide +kernel
theorem dX6_cut_58 : decode cX6_cut 58 = .ok (.bipush (-2), 2) := by decide +kernel
theorem dX6_cut_60 : decode cX6_cut 60 = .ok (.goto 46, 3) := by decide +kernel
theorem dX6_cut_63 : decode cX6_cut 63 = .ok (.iconst (-1), 1) := by decide +kernel
theorem dX6_cut_64 : decode cX6_cut 64 = .ok (.goto 42, 3) := by decide +kernel
theorem dX6_cut_67 : decode cX6_cut 67 = .ok (.lload 8, 2) := by decide +kernel
theorem dX6_cut_69 : decode cX6_cut 69 = .ok (.lconst 1, 1) := by decide +kernel
theorem dX6_cut_70 : decode cX6_cut 70 = .ok (.iload_n 2, 1) := by decide +kernel
theorem dX6_cut_71 : decode cX6_cut 71 = .ok (.iconst 1, 1) := by decide +kernel
theorem dX6_cut_72 : decode cX6_cut 72 = .ok (.isub, 1) := by decide +kernel
theorem dX6_cut_73 : decode cX6_cut 73 = .ok (.lshl, 1) := by decide +kernel
theorem dX6_cut_74 : decode cX6_cut 74 = .ok (.lcmp, 1) := by decide +kernel
theorem dX6_cut_75 : decode cX6_cut 75 = .ok (.ifCond .ne 15, 3) := by decide +kernel
theorem dX6_cut_78 : decode cX6_cut 78 = .ok (.iload_n 3, 1) := by decide +kernel
theorem dX6_cut_79 : decode cX6_cut 79 = .ok (.ifCond .eq 7, 3) := by decide +kernel
theorem dX6_cut_82 : decode cX6_cut 82 = .ok (.iconst 1, 1) := by decide +kernel
theorem dX6_cut_83 : decode cX6_cut 83 = .ok (.goto 23, 3) := by decide +kernel
theorem dX6_cut_86 : decode cX6_cut 86 = .ok (.iconst 0, 1) := by decide +kernel
theorem dX6_cut_87 : decode cX6_cut 87 = .ok (.goto 19, 3) := by decide +kernel
theorem dX6_cut_90 : decode cX6_cut 90 = .ok (.lload 8, 2) := by decide +kernel
theorem dX6_cut_92 : decode cX6_cut 92 = .ok (.lconst 1, 1) := by decide +kernel
theorem dX6_cut_93 : decode cX6_cut 93 = .ok (.iload_n 2, 1) := by decide +kernel
theorem dX6_cut_94 : decode cX6_cut 94 = .ok (.iconst 1, 1) := by decide +kernel
theorem dX6_cut_95 : decode cX6_cut 95 = .ok (.isub, 1) := by decide +kernel
theorem dX6_cut_96 : decode cX6_cut 96 = .ok (.lshl, 1) := by decide +kernel
theorem dX6_cut_97 : decode cX6_cut 97 = .ok (.lcmp, 1) := by decide +kernel
theorem dX6_cut_98 : decode cX6_cut 98 = .ok (.ifCond .le 7, 3) := by decide +kernel
theorem dX6_cut_101 : decode cX6_cut 101 = .ok (.iconst 1, 1) := by decide +kernel
theorem dX6_cut_102 : decode cX6_cut 102 = .ok (.goto 4, 3) := by decide +kernel
theorem dX6_cut_105 : decode cX6_cut 105 = .ok (.iconst (-1), 1) := by decide +kernel
theorem dX6_cut_106 : decode cX6_cut 106 = .ok (.istore 10, 2) := by decide +kernel
theorem dX6_cut_108 : decode cX6_cut 108 = .ok (.lload 8, 2) := by decide +kernel
theorem dX6_cut_110 : decode cX6_cut 110 = .ok (.lconst 0, 1) := by decide +kernel
theorem dX6_cut_111 : decode cX6_cut 111 = .ok (.lcmp, 1) := by decide +kernel
theorem dX6_cut_112 : decode cX6_cut 112 = .ok (.ifCond .ne 7, 3) := by decide +kernel
theorem dX6_cut_115 : decode cX6_cut 115 = .ok (.iload_n 3, 1) := by decide +kernel
end
section
theorem dX6_cut_116 : decode cX6_cut 116 = .ok (.ifCond .eq 7, 3) := by decide +kernel
theorem dX6_cut_119 : decode cX6_cut 119 = .ok (.iconst 1, 1) := by decide +kernel
theorem dX6_cut_120 : decode cX6_cut 120 = .ok (.goto 4, 3) := by decide +kernel
theorem dX6_cut_123 : decode cX6_cut 123 = .ok (.iconst 0, 1) := by decide +kernel
theorem dX6_cut_124 : decode cX6_cut 124 = .ok (.istore 11, 2) := by decide +kernel
theorem dX6_cut_126 : decode cX6_cut 126 = .ok (.iload 4, 2) := by decide +kernel
theorem dX6_cut_128 : decode cX6_cut 128 = .ok (.iload 5, 2) := by decide +kernel
theorem dX6_cut_130 : decode cX6_cut 130 = .ok (.lload 6, 2) := by decide +kernel
theorem dX6_cut_132 : decode cX6_cut 132 = .ok (.lconst 1, 1) := by decide +kernel
theorem dX6_cut_133 : decode cX6_cut 133 = .ok (.land, 1) := by decide +kernel
theorem dX6_cut_134 : decode cX6_cut 134 = .ok (.lconst 1, 1) := by decide +kernel
theorem dX6_cut_135 : decode cX6_cut 135 = .ok (.lcmp, 1) := by decide +kernel
theorem dX6_cut_136 : decode cX6_cut 136 = .ok (.ifCond .ne 7, 3) := by decide +kernel
theorem dX6_cut_139 : decode cX6_cut 139 = .ok (.iconst 1, 1) := by decide +kernel
theorem dX6_cut_140 : decode cX6_cut 140 = .ok (.goto 4, 3) := by decide +kernel
theorem dX6_cut_143 : decode cX6_cut 143 = .ok (.iconst 0, 1) := by decide +kernel
theorem dX6_cut_144 : decode cX6_cut 144 = .ok (.iload 11, 2) := by decide +kernel
theorem dX6_cut_146 : decode cX6_cut 146 = .ok (.iload 11, 2) := by decide +kernel
theorem dX6_cut_148 : decode cX6_cut 148 = .ok (.ifCond .eq 8, 3) := by decide +kernel
theorem dX6_cut_151 : decode cX6_cut 151 = .ok (.iload 10, 2) := by decide +kernel
theorem dX6_cut_153 : decode cX6_cut 153 = .ok (.goto 5, 3) := by decide +kernel
theorem dX6_cut_156 : decode cX6_cut 156 = .ok (.bipush (-2), 2) := by decide +kernel
theorem dX6_cut_158 : decode cX6_cut 158 = .ok (.invokestatic 109, 3) := by decide +kernel
theorem dX6_cut_161 : decode cX6_cut 161 = .ok (.ifCond .eq 10, 3) := by decide +kernel
theorem dX6_cut_164 : decode cX6_cut 164 = .ok (.lload 6, 2) := by decide +kernel
theorem dX6_cut_166 : decode cX6_cut 166 = .ok (.lconst 1, 1) := by decide +kernel
theorem dX6_cut_167 : decode cX6_cut 167 = .ok (.ladd, 1) := by decide +kernel
theorem dX6_cut_168 : decode cX6_cut 168 = .ok (.goto 5, 3) := by decide +kernel
theorem dX6_cut_171 : decode cX6_cut 171 = .ok (.lload 6, 2) := by decide +kernel
theorem dX6_cut_173 : decode cX6_cut 173 = .ok (.lreturn, 1) := by decide +kernel
theorem dX6_away_0 : decode cX6_away 0 = .ok (.iload_n 0, 1) := by decide +kernel
theorem dX6_away_1 : decode cX6_away 1 = .ok (.tableswitch 90 0 3 #[31, 51, 62, 76], 31) := by decide +kernel
theorem dX6_away_32 : decode cX6_away 32 = .ok (.iload 4, 2) := by decide +kernel
theorem dX6_away_34 : decode cX6_away 34 = .ok (.ifCond .gt 12, 3) := by decide +kernel
theorem dX6_away_37 : decode cX6_away 37 = .ok (.iload 4, 2) := by decide +kernel
theorem dX6_away_39 : decode cX6_away 39 = .ok (.ifCond .ne 11, 3) := by decide +kernel
theorem dX6_away_42 : decode cX6_away 42 = .ok (.iload_n 2, 1) := by decide +kernel
theorem dX6_away_43 : decode cX6_away 43 = .ok (.ifCond .eq 7, 3) := by decide +kernel
theorem dX6_away_46 : decode cX6_away 46 = .ok (.iconst 1, 1) := by decide +kernel
theorem dX6_away_47 : decode cX6_away 47 = .ok (.goto 4, 3) := by decide +kernel
theorem dX6_away_50 : decode cX6_away 50 = .ok (.iconst 0, 1) := by decide +kernel
theorem dX6_away_51 : decode cX6_away 51 = .ok (.ireturn, 1) := by decide +kernel
theorem dX6_away_52 : decode cX6_away 52 = .ok (.iload 4, 2) := by decide +kernel
theorem dX6_away_54 : decode cX6_away 54 = .ok (.ifCond .lt 7, 3) := by decide +kernel
theorem dX6_away_57 : decode cX6_away 57 = .ok (.iconst 1, 1) := by decide +kernel
theorem dX6_away_58 : decode cX6_away 58 = .ok (.goto 4, 3) := by decide +kernel
theorem dX6_away_61 : decode cX6_away 61 = .ok (.iconst 0, 1) := by decide +kernel
theorem dX6_away_62 : decode cX6_away 62 = .ok (.ireturn, 1) := by decide +kernel
theorem dX6_away_63 : decode cX6_away 63 = .ok (.iload_n 3, 1) := by decide +kernel
theorem dX6_away_64 : decode cX6_away 64 = .ok (.ifCond .eq 11, 3) := by decide +kernel
theorem dX6_away_67 : decode cX6_away 67 = .ok (.iload_n 1, 1) := by decide +kernel
theorem dX6_away_68 : decode cX6_away 68 = .ok (.ifCond .ne 7, 3) := by decide +kernel
theorem dX6_away_71 : decode cX6_away 71 = .ok (.iconst 1, 1) := by decide +kernel
theorem dX6_away_72 : decode cX6_away 72 = .ok (.goto 4, 3) := by decide +kernel
theorem dX6_away_75 : decode cX6_away 75 = .ok (.iconst 0, 1) := by decide +kernel
theorem dX6_away_76 : decode cX6_away 76 = .ok (.ireturn, 1) := by decide +kernel
theorem dX6_away_77 : decode cX6_away 77 = .ok (.iload_n 3, 1) := by decide +kernel
theorem dX6_away_78 : decode cX6_away 78 = .ok (.ifCond .eq 11, 3) := by decide +kernel
theorem dX6_away_81 : decode cX6_away 81 = .ok (.iload_n 1, 1) := by decide +kernel
theorem dX6_away_82 : decode cX6_away 82 = .ok (.ifCond .eq 7, 3) := by decide +kernel
theorem dX6_away_85 : decode cX6_away 85 = .ok (.iconst 1, 1) := by decide +kernel
theorem dX6_away_86 : decode cX6_away 86 = .ok (.goto 4, 3) := by decide +kernel
theorem dX6_away_89 : decode cX6_away 89 = .ok (.iconst 0, 1) := by decide +kernel
theorem dX6_away_90 : decode cX6_away 90 = .ok (.ireturn, 1) := by decide +kernel
theorem dX6_away_91 : decode cX6_away 91 = .ok (.iconst 0, 1) := by decide +kernel
theorem dX6_away_92 : decode cX6_away 92 = .ok (.ireturn, 1) := by decide +kernel
theorem dX6_change_0 : decode cX6_change 0 = .ok (.aload_n 0, 1) := by decide +kernel
theorem dX6_change_1 : decode cX6_change 1 = .ok (.iload_n 1, 1) := by decide +kernel
theorem dX6_change_2 : decode cX6_change 2 = .ok (.iconst 0, 1) := by decide +kernel
theorem dX6_change_3 : decode cX6_change 3 = .ok (.iconst 3, 1) := by decide +kernel
theorem dX6_change_4 : decode cX6_change 4 = .ok (.invokestatic 16, 3) := by decide +kernel
theorem dX6_change_7 : decode cX6_change 7 = .ok (.ifCond .eq 28, 3) := by decide +kernel
theorem dX6_change_10 : decode cX6_change 10 = .ok (.iload_n 2, 1) := by decide +kernel
theorem dX6_change_11 : decode cX6_change 11 = .ok (.iconst 0, 1) := by decide +kernel
theorem dX6_change_12 : decode cX6_change 12 = .ok (.iconst 4, 1) := by decide +kernel
theorem dX6_change_13 : decode cX6_change 13 = .ok (.invokestatic 16, 3) := by decide +kernel
theorem dX6_change_16 : decode cX6_change 16 = .ok (.ifCond .eq 19, 3) := by decide +kernel
theorem dX6_change_19 : decode cX6_change 19 = .ok (.aload_n 0, 1) := by decide +kernel
theorem dX6_change_20 : decode cX6_change 20 = .ok (.iload_n 3, 1) := by decide +kernel
theorem dX6_change_21 : decode cX6_change 21 = .ok (.aload_n 0, 1) := by decide +kernel
theorem dX6_change_22 : decode cX6_change 22 = .ok (.getfield 7, 3) := by decide +kernel
theorem dX6_change_25 : decode cX6_change 25 = .ok (.invokevirtual 42, 3) := by decide +kernel
theorem dX6_change_28 : decode cX6_change 28 = .ok (.ifCond .eq 7, 3) := by decide +kernel
theorem dX6_change_31 : decode cX6_change 31 = .ok (.iconst 1, 1) := by decide +kernel
theorem dX6_change_32 : decode cX6_change 32 = .ok (.goto 4, 3) := by decide +kernel
theorem dX6_change_35 : decode cX6_change 35 = .ok (.iconst 0, 1) := by decide +kernel
theorem dX6_change_36 : decode cX6_change 36 = .ok (.invokevirtual 38, 3) := by decide +kernel
theorem dX6_change_39 : decode cX6_change 39 = .ok (.ifCond .ne 5, 3) := by decide +kernel
theorem dX6_change_42 : decode cX6_change 42 = .ok (.iconst 0, 1) := by decide +kernel
theorem dX6_change_43 : decode cX6_change 43 = .ok (.ireturn, 1) := by decide +kernel
theorem dX6_change_44 : decode cX6_change 44 = .ok (.iload_n 1, 1) := by decide +kernel
theorem dX6_change_45 : decode cX6_change 45 = .ok (.ifCond .ne 24, 3) := by decide +kernel
theorem dX6_change_48 : decode cX6_change 48 = .ok (.aload_n 0, 1) := by decide +kernel
theorem dX6_change_49 : decode cX6_change 49 = .ok (.iload_n 2, 1) := by decide +kernel
theorem dX6_change_50 : decode cX6_change 50 = .ok (.aload_n 0, 1) := by decide +kernel
theorem dX6_change_51 : decode cX6_change 51 = .ok (.iload_n 3, 1) := by decide +kernel
theorem dX6_change_52 : decode cX6_change 52 = .ok (.i2l, 1) := by decide +kernel
theorem dX6_change_53 : decode cX6_change 53 = .ok (.aload_n 0, 1) := by decide +kernel
theorem dX6_change_54 : decode cX6_change 54 = .ok (.getfield 7, 3) := by decide +kernel
theorem dX6_change_57 : decode cX6_change 57 = .ok (.invokevirtual 49, 3) := by decide +kernel
theorem dX6_change_60 : decode cX6_change 60 = .ok (.aload_n 0, 1) := by decide +kernel
theorem dX6_change_61 : decode cX6_change 61 = .ok (.getfield 7, 3) := by decide +kernel
theorem dX6_change_64 : decode cX6_change 64 = .ok (.invokevirtual 53, 3) := by decide +kernel
theorem dX6_change_67 : decode cX6_change 67 = .ok (.l2i, 1) := by decide +kernel
theorem dX6_change_68 : decode cX6_change 68 = .ok (.ireturn, 1) := by decide +kernel
theorem dX6_change_69 : decode cX6_change 69 = .ok (.iload_n 1, 1) := by decide +kernel
theorem dX6_change_70 : decode cX6_change 70 = .ok (.iconst 1, 1) := by decide +kernel
theorem dX6_change_71 : decode cX6_change 71 = .ok (.if_icmp .ne 24, 3) := by decide +kernel
theorem dX6_change_74 : decode cX6_change 74 = .ok (.aload_n 0, 1) := by decide +kernel
theorem dX6_change_75 : decode cX6_change 75 = .ok (.iload_n 2, 1) := by decide +kernel
theorem dX6_change_76 : decode cX6_change 76 = .ok (.aload_n 0, 1) := by decide +kernel
theorem dX6_change_77 : decode cX6_change 77 = .ok (.iload_n 3, 1) := by decide +kernel
theorem dX6_change_78 : decode cX6_change 78 = .ok (.i2l, 1) := by decide +kernel
theorem dX6_change_79 : decode cX6_change 79 = .ok (.aload_n 0, 1) := by decide +kernel
theorem dX6_change_80 : decode cX6_change 80 = .ok (.getfield 7, 3) := by decide +kernel
theorem dX6_change_83 : decode cX6_change 83 = .ok (.invokevirtual 49, 3) := by decide +kernel
theorem dX6_change_86 : decode cX6_change 86 = .ok (.aload_n 0, 1) := by decide +kernel
theorem dX6_change_87 : decode cX6_change 87 = .ok (.getfield 7, 3) := by decide +kernel
theorem dX6_change_90 : decode cX6_change 90 = .ok (.invokevirtual 57, 3) := by decide +kernel
theorem dX6_change_93 : decode cX6_change 93 = .ok (.l2i, 1) := by decide +kernel
theorem dX6_change_94 : decode cX6_change 94 = .ok (.ireturn, 1) := by decide +kernel
theorem dX6_change_95 : decode cX6_change 95 = .ok (.aload_n 0, 1) := by decide +kernel
theorem dX6_change_96 : decode cX6_change 96 = .ok (.iload_n 3, 1) := by decide +kernel
theorem dX6_change_97 : decode cX6_change 97 = .ok (.i2l, 1) := by decide +kernel
theorem dX6_change_98 : decode cX6_change 98 = .ok (.aload_n 0, 1) := by decide +kernel
theorem dX6_change_99 : decode cX6_change 99 = .ok (.getfield 7, 3) := by decide +kernel
theorem dX6_change_102 : decode cX6_change 102 = .ok (.invokevirtual 60, 3) := by decide +kernel
theorem dX6_change_105 : decode cX6_change 105 = .ok (.lconst 1, 1) := by decide +kernel
theorem dX6_change_106 : decode cX6_change 106 = .ok (.aload_n 0, 1) := by decide +kernel
theorem dX6_change_107 : decode cX6_change 107 = .ok (.getfield 7, 3) := by decide +kernel
theorem dX6_change_110 : decode cX6_change 110 = .ok (.invokestatic 31, 3) := by decide +kernel
theorem dX6_change_113 : decode cX6_change 113 = .ok (.iconst 1, 1) := by decide +kernel
theorem dX6_change_114 : decode cX6_change 114 = .ok (.isub, 1) := by decide +kernel
theorem dX6_change_115 : decode cX6_change 115 = .ok (.lshl, 1) := by decide +kernel
theorem dX6_change_116 : decode cX6_change 116 = .ok (.lstore 4, 2) := by decide +kernel
theorem dX6_change_118 : decode cX6_change 118 = .ok (.aload_n 0, 1) := by decide +kernel
theorem dX6_change_119 : decode cX6_change 119 = .ok (.getfield 64, 3) := by decide +kernel
theorem dX6_change_122 : decode cX6_change 122 = .ok (.ifCond .eq 15, 3) := by decide +kernel
theorem dX6_change_125 : decode cX6_change 125 = .ok (.aload_n 0, 1) := by decide +kernel
theorem dX6_change_126 : decode cX6_change 126 = .ok (.iload_n 3, 1) := by decide +kernel
theorem dX6_change_127 : decode cX6_change 127 = .ok (.i2l, 1) := by decide +kernel
theorem dX6_change_128 : decode cX6_change 128 = .ok (.aload_n 0, 1) := by decide +kernel
theorem dX6_change_129 : decode cX6_change 129 = .ok (.getfield 7, 3) := by decide +kernel
theorem dX6_change_132 : decode cX6_change 132 = .ok (.invokevirtual 49, 3) := by decide +kernel
theorem dX6_change_135 : decode cX6_change 135 = .ok (.l2i, 1) := by decide +kernel
theorem dX6_change_136 : decode cX6_change 136 = .ok (.ireturn, 1) := by decide +kernel
theorem dX6_change_137 : decode cX6_change 137 = .ok (.iload_n 1, 1) := by decide +kernel
theorem dX6_change_138 : decode cX6_change 138 = .ok (.iconst 2, 1) := by decide +kernel
theorem dX6_change_139 : decode cX6_change 139 = .ok (.if_icmp .ne 15, 3) := by decide +kernel
theorem dX6_change_142 : decode cX6_change 142 = .ok (.iload_n 3, 1) := by decide +kernel
theorem dX6_change_143 : decode cX6_change 143 = .ok (.i2l, 1) := by decide +kernel
theorem dX6_change_144 : decode cX6_change 144 = .ok (.lload 4, 2) := by decide +kernel
theorem dX6_change_146 : decode cX6_change 146 = .ok (.ldc2_w 68, 3) := by decide +kernel
theorem dX6_change_149 : decode cX6_change 149 = .ok (.lxor, 1) := by decide +kernel
theorem dX6_change_150 : decode cX6_change 150 = .ok (.land, 1) := by decide +kernel
theorem dX6_change_151 : decode cX6_change 151 = .ok (.goto 8, 3) := by decide +kernel
theorem dX6_change_154 : decode cX6_change 154 = .ok (.iload_n 3, 1) := by decide +kernel
theorem dX6_change_155 : decode cX6_change 155 = .ok (.i2l, 1) := by decide +kernel
theorem dX6_change_156 : decode cX6_change 156 = .ok (.lload 4, 2) := by decide +kernel
theorem dX6_change_158 : decode cX6_change 158 = .ok (.lxor, 1) := by decide +kernel
theorem dX6_change_159 : decode cX6_change 159 = .ok (.l2i, 1) := by decide +kernel
theorem dX6_change_160 : decode cX6_change 160 = .ok (.ireturn, 1) := by decide +kernel
theorem dX6_canonical_0 : decode cX6_canonical 0 = .ok (.aload_n 0, 1) := by decide +kernel
theorem dX6_canonical_1 : decode cX6_canonical 1 = .ok (.lload_n 1, 1) := by decide +kernel
theorem dX6_canonical_2 : decode cX6_canonical 2 = .ok (.iload_n 3, 1) := by decide +kernel
theorem dX6_canonical_3 : decode cX6_canonical 3 = .ok (.invokevirtual 60, 3) := by decide +kernel
theorem dX6_canonical_6 : decode cX6_canonical 6 = .ok (.aload_n 0, 1) := by decide +kernel
theorem dX6_canonical_7 : decode cX6_canonical 7 = .ok (.getfield 64, 3) := by decide +kernel
theorem dX6_canonical_10 : decode cX6_canonical 10 = .ok (.ifCond .eq 17, 3) := by decide +kernel
theorem dX6_canonical_13 : decode cX6_canonical 13 = .ok (.iload_n 3, 1) := by decide +kernel
theorem dX6_canonical_14 : decode cX6_canonical 14 = .ok (.invokestatic 20, 3) := by decide +kernel
theorem dX6_canonical_17 : decode cX6_canonical 17 = .ok (.iload_n 3, 1) := by decide +kernel
theorem dX6_canonical_18 : decode cX6_canonical 18 = .ok (.invokestatic 24, 3) := by decide +kernel
theorem dX6_canonical_21 : decode cX6_canonical 21 = .ok (.invokestatic 81, 3) := by decide +kernel
theorem dX6_canonical_24 : decode cX6_canonical 24 = .ok (.goto 4, 3) := by decide +kernel
theorem dX6_canonical_27 : decode cX6_canonical 27 = .ok (.lload_n 1, 1) := by decide +kernel
theorem dX6_canonical_28 : decode cX6_canonical 28 = .ok (.lreturn, 1) := by decide +kernel
theorem dX6_squareRoot_0 : decode cX6_squareRoot 0 = .ok (.aload_n 0, 1) := by decide +kernel
theorem dX6_squareRoot_1 : decode cX6_squareRoot 1 = .ok (.lload_n 2, 1) := by decide +kernel
theorem dX6_squareRoot_2 : decode cX6_squareRoot 2 = .ok (.iload 4, 2) := by decide +kernel
theorem dX6_squareRoot_4 : decode cX6_squareRoot 4 = .ok (.invokevirtual 60, 3) := by decide +kernel
theorem dX6_squareRoot_7 : decode cX6_squareRoot 7 = .ok (.aload_n 0, 1) := by decide +kernel
theorem dX6_squareRoot_8 : decode cX6_squareRoot 8 = .ok (.getfield 64, 3) := by decide +kernel
theorem dX6_squareRoot_11 : decode cX6_squareRoot 11 = .ok (.ifCond .eq 17, 3) := by decide +kernel
theorem dX6_squareRoot_14 : decode cX6_squareRoot 14 = .ok (.iload 4, 2) := by decide +kernel
theorem dX6_squareRoot_16 : decode cX6_squareRoot 16 = .ok (.invokestatic 20, 3) := by decide +kernel
theorem dX6_squareRoot_19 : decode cX6_squareRoot 19 = .ok (.iload 4, 2) := by decide +kernel
theorem dX6_squareRoot_21 : decode cX6_squareRoot 21 = .ok (.invokestatic 24, 3) := by decide +kernel
theorem dX6_squareRoot_24 : decode cX6_squareRoot 24 = .ok (.invokestatic 81, 3) := by decide +kernel
theorem dX6_squareRoot_27 : decode cX6_squareRoot 27 = .ok (.lreturn, 1) := by decide +kernel
theorem dX6_squareRoot_28 : decode cX6_squareRoot 28 = .ok (.aload_n 0, 1) := by decide +kernel
theorem dX6_squareRoot_29 : decode cX6_squareRoot 29 = .ok (.getfield 85, 3) := by decide +kernel
theorem dX6_squareRoot_32 : decode cX6_squareRoot 32 = .ok (.ifCond .ne 14, 3) := by decide +kernel
theorem dX6_squareRoot_35 : decode cX6_squareRoot 35 = .ok (.aload_n 0, 1) := by decide +kernel
theorem dX6_squareRoot_36 : decode cX6_squareRoot 36 = .ok (.getfield 91, 3) := by decide +kernel
theorem dX6_squareRoot_39 : decode cX6_squareRoot 39 = .ok (.lconst 0, 1) := by decide +kernel
theorem dX6_squareRoot_40 : decode cX6_squareRoot 40 = .ok (.lcmp, 1) := by decide +kernel
theorem dX6_squareRoot_41 : decode cX6_squareRoot 41 = .ok (.ifCond .ne 5, 3) := by decide +kernel
theorem dX6_squareRoot_44 : decode cX6_squareRoot 44 = .ok (.lload_n 2, 1) := by decide +kernel
theorem dX6_squareRoot_45 : decode cX6_squareRoot 45 = .ok (.lreturn, 1) := by decide +kernel
theorem dX6_squareRoot_46 : decode cX6_squareRoot 46 = .ok (.aload_n 0, 1) := by decide +kernel
theorem dX6_squareRoot_47 : decode cX6_squareRoot 47 = .ok (.getfield 88, 3) := by decide +kernel
theorem dX6_squareRoot_50 : decode cX6_squareRoot 50 = .ok (.ifCond .eq 17, 3) := by decide +kernel
theorem dX6_squareRoot_53 : decode cX6_squareRoot 53 = .ok (.iload 4, 2) := by decide +kernel
theorem dX6_squareRoot_55 : decode cX6_squareRoot 55 = .ok (.invokestatic 20, 3) := by decide +kernel
theorem dX6_squareRoot_58 : decode cX6_squareRoot 58 = .ok (.iload 4, 2) := by decide +kernel
theorem dX6_squareRoot_60 : decode cX6_squareRoot 60 = .ok (.invokestatic 24, 3) := by decide +kernel
theorem dX6_squareRoot_63 : decode cX6_squareRoot 63 = .ok (.invokestatic 81, 3) := by decide +kernel
theorem dX6_squareRoot_66 : decode cX6_squareRoot 66 = .ok (.lreturn, 1) := by decide +kernel
theorem dX6_squareRoot_67 : decode cX6_squareRoot 67 = .ok (.aload_n 0, 1) := by decide +kernel
theorem dX6_squareRoot_68 : decode cX6_squareRoot 68 = .ok (.getfield 85, 3) := by decide +kernel
theorem dX6_squareRoot_71 : decode cX6_squareRoot 71 = .ok (.ifCond .eq 5, 3) := by decide +kernel
theorem dX6_squareRoot_74 : decode cX6_squareRoot 74 = .ok (.lload_n 2, 1) := by decide +kernel
theorem dX6_squareRoot_75 : decode cX6_squareRoot 75 = .ok (.lreturn, 1) := by decide +kernel
theorem dX6_squareRoot_76 : decode cX6_squareRoot 76 = .ok (.aload_n 0, 1) := by decide +kernel
theorem dX6_squareRoot_77 : decode cX6_squareRoot 77 = .ok (.getfield 95, 3) := by decide +kernel
theorem dX6_squareRoot_80 : decode cX6_squareRoot 80 = .ok (.bipush 40, 2) := by decide +kernel
theorem dX6_squareRoot_82 : decode cX6_squareRoot 82 = .ok (.isub, 1) := by decide +kernel
theorem dX6_squareRoot_83 : decode cX6_squareRoot 83 = .ok (.istore 5, 2) := by decide +kernel
theorem dX6_squareRoot_85 : decode cX6_squareRoot 85 = .ok (.aload_n 0, 1) := by decide +kernel
theorem dX6_squareRoot_86 : decode cX6_squareRoot 86 = .ok (.getfield 91, 3) := by decide +kernel
theorem dX6_squareRoot_89 : decode cX6_squareRoot 89 = .ok (.bipush 40, 2) := by decide +kernel
theorem dX6_squareRoot_91 : decode cX6_squareRoot 91 = .ok (.lshl, 1) := by decide +kernel
theorem dX6_squareRoot_92 : decode cX6_squareRoot 92 = .ok (.lstore 6, 2) := by decide +kernel
theorem dX6_squareRoot_94 : decode cX6_squareRoot 94 = .ok (.iload 5, 2) := by decide +kernel
theorem dX6_squareRoot_96 : decode cX6_squareRoot 96 = .ok (.iconst 1, 1) := by decide +kernel
theorem dX6_squareRoot_97 : decode cX6_squareRoot 97 = .ok (.iand, 1) := by decide +kernel
theorem dX6_squareRoot_98 : decode cX6_squareRoot 98 = .ok (.ifCond .eq 12, 3) := by decide +kernel
theorem dX6_squareRoot_101 : decode cX6_squareRoot 101 = .ok (.lload 6, 2) := by decide +kernel
theorem dX6_squareRoot_103 : decode cX6_squareRoot 103 = .ok (.iconst 1, 1) := by decide +kernel
theorem dX6_squareRoot_104 : decode cX6_squareRoot 104 = .ok (.lshl, 1) := by decide +kernel
theorem dX6_squareRoot_105 : decode cX6_squareRoot 105 = .ok (.lstore 6, 2) := by decide +kernel
theorem dX6_squareRoot_107 : decode cX6_squareRoot 107 = .ok (.iinc 5 (-1), 3) := by decide +kernel
theorem dX6_squareRoot_110 : decode cX6_squareRoot 110 = .ok (.lconst 0, 1) := by decide +kernel
theorem dX6_squareRoot_111 : decode cX6_squareRoot 111 = .ok (.lstore 8, 2) := by decide +kernel
theorem dX6_squareRoot_113 : decode cX6_squareRoot 113 = .ok (.ldc2_w 119, 3) := by decide +kernel
theorem dX6_squareRoot_116 : decode cX6_squareRoot 116 = .ok (.lstore 10, 2) := by decide +kernel
theorem dX6_squareRoot_118 : decode cX6_squareRoot 118 = .ok (.lload 10, 2) := by decide +kernel
theorem dX6_squareRoot_120 : decode cX6_squareRoot 120 = .ok (.lconst 0, 1) := by decide +kernel
theorem dX6_squareRoot_121 : decode cX6_squareRoot 121 = .ok (.lcmp, 1) := by decide +kernel
theorem dX6_squareRoot_122 : decode cX6_squareRoot 122 = .ok (.ifCond .le 36, 3) := by decide +kernel
theorem dX6_squareRoot_125 : decode cX6_squareRoot 125 = .ok (.lload 8, 2) := by decide +kernel
theorem dX6_squareRoot_127 : decode cX6_squareRoot 127 = .ok (.lload 10, 2) := by decide +kernel
theorem dX6_squareRoot_129 : decode cX6_squareRoot 129 = .ok (.lor, 1) := by decide +kernel
theorem dX6_squareRoot_130 : decode cX6_squareRoot 130 = .ok (.lload 8, 2) := by decide +kernel
theorem dX6_squareRoot_132 : decode cX6_squareRoot 132 = .ok (.lload 10, 2) := by decide +kernel
theorem dX6_squareRoot_134 : decode cX6_squareRoot 134 = .ok (.lor, 1) := by decide +kernel
theorem dX6_squareRoot_135 : decode cX6_squareRoot 135 = .ok (.lmul, 1) := by decide +kernel
theorem dX6_squareRoot_136 : decode cX6_squareRoot 136 = .ok (.lload 6, 2) := by decide +kernel
theorem dX6_squareRoot_138 : decode cX6_squareRoot 138 = .ok (.lcmp, 1) := by decide +kernel
theorem dX6_squareRoot_139 : decode cX6_squareRoot 139 = .ok (.ifCond .gt 10, 3) := by decide +kernel
theorem dX6_squareRoot_142 : decode cX6_squareRoot 142 = .ok (.lload 8, 2) := by decide +kernel
theorem dX6_squareRoot_144 : decode cX6_squareRoot 144 = .ok (.lload 10, 2) := by decide +kernel
theorem dX6_squareRoot_146 : decode cX6_squareRoot 146 = .ok (.lor, 1) := by decide +kernel
theorem dX6_squareRoot_147 : decode cX6_squareRoot 147 = .ok (.lstore 8, 2) := by decide +kernel
theorem dX6_squareRoot_149 : decode cX6_squareRoot 149 = .ok (.lload 10, 2) := by decide +kernel
theorem dX6_squareRoot_151 : decode cX6_squareRoot 151 = .ok (.iconst 1, 1) := by decide +kernel
theorem dX6_squareRoot_152 : decode cX6_squareRoot 152 = .ok (.lshr, 1) := by decide +kernel
theorem dX6_squareRoot_153 : decode cX6_squareRoot 153 = .ok (.lstore 10, 2) := by decide +kernel
theorem dX6_squareRoot_155 : decode cX6_squareRoot 155 = .ok (.goto (-37), 3) := by decide +kernel
theorem dX6_squareRoot_158 : decode cX6_squareRoot 158 = .ok (.iload_n 1, 1) := by decide +kernel
theorem dX6_squareRoot_159 : decode cX6_squareRoot 159 = .ok (.iconst 0, 1) := by decide +kernel
theorem dX6_squareRoot_160 : decode cX6_squareRoot 160 = .ok (.lload 8, 2) := by decide +kernel
theorem dX6_squareRoot_162 : decode cX6_squareRoot 162 = .ok (.iload 5, 2) := by decide +kernel
theorem dX6_squareRoot_164 : decode cX6_squareRoot 164 = .ok (.iconst 2, 1) := by decide +kernel
theorem dX6_squareRoot_165 : decode cX6_squareRoot 165 = .ok (.idiv, 1) := by decide +kernel
theorem dX6_squareRoot_166 : decode cX6_squareRoot 166 = .ok (.lload 8, 2) := by decide +kernel
theorem dX6_squareRoot_168 : decode cX6_squareRoot 168 = .ok (.lload 8, 2) := by decide +kernel
theorem dX6_squareRoot_170 : decode cX6_squareRoot 170 = .ok (.lmul, 1) := by decide +kernel
theorem dX6_squareRoot_171 : decode cX6_squareRoot 171 = .ok (.lload 6, 2) := by decide +kernel
theorem dX6_squareRoot_173 : decode cX6_squareRoot 173 = .ok (.lcmp, 1) := by decide +kernel
theorem dX6_squareRoot_174 : decode cX6_squareRoot 174 = .ok (.ifCond .eq 7, 3) := by decide +kernel
theorem dX6_squareRoot_177 : decode cX6_squareRoot 177 = .ok (.iconst 1, 1) := by decide +kernel
theorem dX6_squareRoot_178 : decode cX6_squareRoot 178 = .ok (.goto 4, 3) := by decide +kernel
theorem dX6_squareRoot_181 : decode cX6_squareRoot 181 = .ok (.iconst 0, 1) := by decide +kernel
theorem dX6_squareRoot_182 : decode cX6_squareRoot 182 = .ok (.iload 4, 2) := by decide +kernel
theorem dX6_squareRoot_184 : decode cX6_squareRoot 184 = .ok (.invokestatic 98, 3) := by decide +kernel
theorem dX6_squareRoot_187 : decode cX6_squareRoot 187 = .ok (.lreturn, 1) := by decide +kernel
theorem dX6_whole_0 : decode cX6_whole 0 = .ok (.aload_n 0, 1) := by decide +kernel
theorem dX6_whole_1 : decode cX6_whole 1 = .ok (.lload_n 2, 1) := by decide +kernel
theorem dX6_whole_2 : decode cX6_whole 2 = .ok (.iload 4, 2) := by decide +kernel
theorem dX6_whole_4 : decode cX6_whole 4 = .ok (.invokevirtual 60, 3) := by decide +kernel
theorem dX6_whole_7 : decode cX6_whole 7 = .ok (.aload_n 0, 1) := by decide +kernel
theorem dX6_whole_8 : decode cX6_whole 8 = .ok (.getfield 64, 3) := by decide +kernel
theorem dX6_whole_11 : decode cX6_whole 11 = .ok (.ifCond .eq 17, 3) := by decide +kernel
theorem dX6_whole_14 : decode cX6_whole 14 = .ok (.iload 4, 2) := by decide +kernel
theorem dX6_whole_16 : decode cX6_whole 16 = .ok (.invokestatic 20, 3) := by decide +kernel
theorem dX6_whole_19 : decode cX6_whole 19 = .ok (.iload 4, 2) := by decide +kernel
theorem dX6_whole_21 : decode cX6_whole 21 = .ok (.invokestatic 24, 3) := by decide +kernel
theorem dX6_whole_24 : decode cX6_whole 24 = .ok (.invokestatic 81, 3) := by decide +kernel
theorem dX6_whole_27 : decode cX6_whole 27 = .ok (.lreturn, 1) := by decide +kernel
theorem dX6_whole_28 : decode cX6_whole 28 = .ok (.aload_n 0, 1) := by decide +kernel
theorem dX6_whole_29 : decode cX6_whole 29 = .ok (.getfield 85, 3) := by decide +kernel
theorem dX6_whole_32 : decode cX6_whole 32 = .ok (.ifCond .ne 19, 3) := by decide +kernel
theorem dX6_whole_35 : decode cX6_whole 35 = .ok (.aload_n 0, 1) := by decide +kernel
theorem dX6_whole_36 : decode cX6_whole 36 = .ok (.getfield 91, 3) := by decide +kernel
theorem dX6_whole_39 : decode cX6_whole 39 = .ok (.lconst 0, 1) := by decide +kernel
theorem dX6_whole_40 : decode cX6_whole 40 = .ok (.lcmp, 1) := by decide +kernel
theorem dX6_whole_41 : decode cX6_whole 41 = .ok (.ifCond .eq 10, 3) := by decide +kernel
theorem dX6_whole_44 : decode cX6_whole 44 = .ok (.aload_n 0, 1) := by decide +kernel
theorem dX6_whole_45 : decode cX6_whole 45 = .ok (.getfield 95, 3) := by decide +kernel
theorem dX6_whole_48 : decode cX6_whole 48 = .ok (.ifCond .lt 5, 3) := by decide +kernel
theorem dX6_whole_51 : decode cX6_whole 51 = .ok (.lload_n 2, 1) := by decide +kernel
theorem dX6_whole_52 : decode cX6_whole 52 = .ok (.lreturn, 1) := by decide +kernel
theorem dX6_whole_53 : decode cX6_whole 53 = .ok (.aload_n 0, 1) := by decide +kernel
theorem dX6_whole_54 : decode cX6_whole 54 = .ok (.getfield 91, 3) := by decide +kernel
theorem dX6_whole_57 : decode cX6_whole 57 = .ok (.aload_n 0, 1) := by decide +kernel
theorem dX6_whole_58 : decode cX6_whole 58 = .ok (.getfield 95, 3) := by decide +kernel
theorem dX6_whole_61 : decode cX6_whole 61 = .ok (.ineg, 1) := by decide +kernel
theorem dX6_whole_62 : decode cX6_whole 62 = .ok (.iconst 0, 1) := by decide +kernel
theorem dX6_whole_63 : decode cX6_whole 63 = .ok (.iload_n 1, 1) := by decide +kernel
theorem dX6_whole_64 : decode cX6_whole 64 = .ok (.aload_n 0, 1) := by decide +kernel
theorem dX6_whole_65 : decode cX6_whole 65 = .ok (.getfield 88, 3) := by decide +kernel
theorem dX6_whole_68 : decode cX6_whole 68 = .ok (.invokestatic 105, 3) := by decide +kernel
theorem dX6_whole_71 : decode cX6_whole 71 = .ok (.lstore 5, 2) := by decide +kernel
theorem dX6_whole_73 : decode cX6_whole 73 = .ok (.iload_n 1, 1) := by decide +kernel
theorem dX6_whole_74 : decode cX6_whole 74 = .ok (.aload_n 0, 1) := by decide +kernel
theorem dX6_whole_75 : decode cX6_whole 75 = .ok (.getfield 88, 3) := by decide +kernel
theorem dX6_whole_78 : decode cX6_whole 78 = .ok (.lload 5, 2) := by decide +kernel
theorem dX6_whole_80 : decode cX6_whole 80 = .ok (.iconst 0, 1) := by decide +kernel
theorem dX6_whole_81 : decode cX6_whole 81 = .ok (.iconst 0, 1) := by decide +kernel
theorem dX6_whole_82 : decode cX6_whole 82 = .ok (.iload 4, 2) := by decide +kernel
theorem dX6_whole_84 : decode cX6_whole 84 = .ok (.invokestatic 98, 3) := by decide +kernel
theorem dX6_whole_87 : decode cX6_whole 87 = .ok (.lreturn, 1) := by decide +kernel
theorem dX6_least_0 : decode cX6_least 0 = .ok (.aload_n 0, 1) := by decide +kernel
theorem dX6_least_1 : decode cX6_least 1 = .ok (.aload_n 0, 1) := by decide +kernel
theorem dX6_least_2 : decode cX6_least 2 = .ok (.iload_n 1, 1) := by decide +kernel
theorem dX6_least_3 : decode cX6_least 3 = .ok (.aload_n 0, 1) := by decide +kernel
theorem dX6_least_4 : decode cX6_least 4 = .ok (.getfield 7, 3) := by decide +kernel
theorem dX6_least_7 : decode cX6_least 7 = .ok (.invokevirtual 42, 3) := by decide +kernel
theorem dX6_least_10 : decode cX6_least 10 = .ok (.ifCond .eq 19, 3) := by decide +kernel
theorem dX6_least_13 : decode cX6_least 13 = .ok (.aload_n 0, 1) := by decide +kernel
theorem dX6_least_14 : decode cX6_least 14 = .ok (.iload_n 2, 1) := by decide +kernel
theorem dX6_least_15 : decode cX6_least 15 = .ok (.aload_n 0, 1) := by decide +kernel
theorem dX6_least_16 : decode cX6_least 16 = .ok (.getfield 7, 3) := by decide +kernel
theorem dX6_least_19 : decode cX6_least 19 = .ok (.invokevirtual 42, 3) := by decide +kernel
theorem dX6_least_22 : decode cX6_least 22 = .ok (.ifCond .eq 7, 3) := by decide +kernel
theorem dX6_least_25 : decode cX6_least 25 = .ok (.iconst 1, 1) := by decide +kernel
theorem dX6_least_26 : decode cX6_least 26 = .ok (.goto 4, 3) := by decide +kernel
theorem dX6_least_29 : decode cX6_least 29 = .ok (.iconst 0, 1) := by decide +kernel
theorem dX6_least_30 : decode cX6_least 30 = .ok (.invokevirtual 38, 3) := by decide +kernel
theorem dX6_least_33 : decode cX6_least 33 = .ok (.ifCond .ne 5, 3) := by decide +kernel
theorem dX6_least_36 : decode cX6_least 36 = .ok (.iconst 0, 1) := by decide +kernel
theorem dX6_least_37 : decode cX6_least 37 = .ok (.ireturn, 1) := by decide +kernel
theorem dX6_least_38 : decode cX6_least 38 = .ok (.aload_n 0, 1) := by decide +kernel
theorem dX6_least_39 : decode cX6_least 39 = .ok (.iload_n 3, 1) := by decide +kernel
theorem dX6_least_40 : decode cX6_least 40 = .ok (.ifCond .ne 7, 3) := by decide +kernel
theorem dX6_least_43 : decode cX6_least 43 = .ok (.iconst 1, 1) := by decide +kernel
theorem dX6_least_44 : decode cX6_least 44 = .ok (.goto 4, 3) := by decide +kernel
theorem dX6_least_47 : decode cX6_least 47 = .ok (.iconst 0, 1) := by decide +kernel
theorem dX6_least_48 : decode cX6_least 48 = .ok (.aload_n 0, 1) := by decide +kernel
theorem dX6_least_49 : decode cX6_least 49 = .ok (.iload_n 1, 1) := by decide +kernel
theorem dX6_least_50 : decode cX6_least 50 = .ok (.i2l, 1) := by decide +kernel
theorem dX6_least_51 : decode cX6_least 51 = .ok (.aload_n 0, 1) := by decide +kernel
theorem dX6_least_52 : decode cX6_least 52 = .ok (.getfield 7, 3) := by decide +kernel
theorem dX6_least_55 : decode cX6_least 55 = .ok (.invokevirtual 49, 3) := by decide +kernel
theorem dX6_least_58 : decode cX6_least 58 = .ok (.aload_n 0, 1) := by decide +kernel
theorem dX6_least_59 : decode cX6_least 59 = .ok (.iload_n 2, 1) := by decide +kernel
theorem dX6_least_60 : decode cX6_least 60 = .ok (.i2l, 1) := by decide +kernel
theorem dX6_least_61 : decode cX6_least 61 = .ok (.aload_n 0, 1) := by decide +kernel
theorem dX6_least_62 : decode cX6_least 62 = .ok (.getfield 7, 3) := by decide +kernel
theorem dX6_least_65 : decode cX6_least 65 = .ok (.invokevirtual 49, 3) := by decide +kernel
theorem dX6_least_68 : decode cX6_least 68 = .ok (.aload_n 0, 1) := by decide +kernel
theorem dX6_least_69 : decode cX6_least 69 = .ok (.getfield 7, 3) := by decide +kernel
theorem dX6_least_72 : decode cX6_least 72 = .ok (.invokevirtual 70, 3) := by decide +kernel
theorem dX6_least_75 : decode cX6_least 75 = .ok (.l2i, 1) := by decide +kernel
theorem dX6_least_76 : decode cX6_least 76 = .ok (.ireturn, 1) := by decide +kernel
theorem dX6_extreme_0 : decode cX6_extreme 0 = .ok (.aload_n 0, 1) := by decide +kernel
theorem dX6_extreme_1 : decode cX6_extreme 1 = .ok (.lload_n 2, 1) := by decide +kernel
theorem dX6_extreme_2 : decode cX6_extreme 2 = .ok (.iload 6, 2) := by decide +kernel
theorem dX6_extreme_4 : decode cX6_extreme 4 = .ok (.invokevirtual 60, 3) := by decide +kernel
theorem dX6_extreme_7 : decode cX6_extreme 7 = .ok (.aload_n 0, 1) := by decide +kernel
theorem dX6_extreme_8 : decode cX6_extreme 8 = .ok (.getfield 64, 3) := by decide +kernel
theorem dX6_extreme_11 : decode cX6_extreme 11 = .ok (.ifCond .eq 12, 3) := by decide +kernel
theorem dX6_extreme_14 : decode cX6_extreme 14 = .ok (.aload_n 0, 1) := by decide +kernel
theorem dX6_extreme_15 : decode cX6_extreme 15 = .ok (.lload 4, 2) := by decide +kernel
theorem dX6_extreme_17 : decode cX6_extreme 17 = .ok (.iload 6, 2) := by decide +kernel
theorem dX6_extreme_19 : decode cX6_extreme 19 = .ok (.invokevirtual 49, 3) := by decide +kernel
theorem dX6_extreme_22 : decode cX6_extreme 22 = .ok (.lreturn, 1) := by decide +kernel
theorem dX6_extreme_23 : decode cX6_extreme 23 = .ok (.aload_n 0, 1) := by decide +kernel
theorem dX6_extreme_24 : decode cX6_extreme 24 = .ok (.lload 4, 2) := by decide +kernel
theorem dX6_extreme_26 : decode cX6_extreme 26 = .ok (.iload 6, 2) := by decide +kernel
theorem dX6_extreme_28 : decode cX6_extreme 28 = .ok (.invokevirtual 60, 3) := by decide +kernel
theorem dX6_extreme_31 : decode cX6_extreme 31 = .ok (.aload_n 0, 1) := by decide +kernel
theorem dX6_extreme_32 : decode cX6_extreme 32 = .ok (.getfield 64, 3) := by decide +kernel
theorem dX6_extreme_35 : decode cX6_extreme 35 = .ok (.ifCond .eq 5, 3) := by decide +kernel
theorem dX6_extreme_38 : decode cX6_extreme 38 = .ok (.lload_n 2, 1) := by decide +kernel
theorem dX6_extreme_39 : decode cX6_extreme 39 = .ok (.lreturn, 1) := by decide +kernel
theorem dX6_extreme_40 : decode cX6_extreme 40 = .ok (.aload_n 0, 1) := by decide +kernel
theorem dX6_extreme_41 : decode cX6_extreme 41 = .ok (.lload_n 2, 1) := by decide +kernel
theorem dX6_extreme_42 : decode cX6_extreme 42 = .ok (.lload 4, 2) := by decide +kernel
theorem dX6_extreme_44 : decode cX6_extreme 44 = .ok (.iload 6, 2) := by decide +kernel
theorem dX6_extreme_46 : decode cX6_extreme 46 = .ok (.invokevirtual 121, 3) := by decide +kernel
theorem dX6_extreme_49 : decode cX6_extreme 49 = .ok (.istore 7, 2) := by decide +kernel
theorem dX6_extreme_51 : decode cX6_extreme 51 = .ok (.iload 7, 2) := by decide +kernel
theorem dX6_extreme_53 : decode cX6_extreme 53 = .ok (.ifCond .ne 8, 3) := by decide +kernel
theorem dX6_extreme_56 : decode cX6_extreme 56 = .ok (.lload 4, 2) := by decide +kernel
theorem dX6_extreme_58 : decode cX6_extreme 58 = .ok (.goto 23, 3) := by decide +kernel
theorem dX6_extreme_61 : decode cX6_extreme 61 = .ok (.iload 7, 2) := by decide +kernel
theorem dX6_extreme_63 : decode cX6_extreme 63 = .ok (.ifCond .ge 7, 3) := by decide +kernel
theorem dX6_extreme_66 : decode cX6_extreme 66 = .ok (.iconst 1, 1) := by decide +kernel
theorem dX6_extreme_67 : decode cX6_extreme 67 = .ok (.goto 4, 3) := by decide +kernel
theorem dX6_extreme_70 : decode cX6_extreme 70 = .ok (.iconst 0, 1) := by decide +kernel
theorem dX6_extreme_71 : decode cX6_extreme 71 = .ok (.iload_n 1, 1) := by decide +kernel
theorem dX6_extreme_72 : decode cX6_extreme 72 = .ok (.if_icmp .ne 7, 3) := by decide +kernel
theorem dX6_extreme_75 : decode cX6_extreme 75 = .ok (.lload_n 2, 1) := by decide +kernel
theorem dX6_extreme_76 : decode cX6_extreme 76 = .ok (.goto 5, 3) := by decide +kernel
theorem dX6_extreme_79 : decode cX6_extreme 79 = .ok (.lload 4, 2) := by decide +kernel
theorem dX6_extreme_81 : decode cX6_extreme 81 = .ok (.lreturn, 1) := by decide +kernel
theorem dX6_order_0 : decode cX6_order 0 = .ok (.aload_n 0, 1) := by decide +kernel
theorem dX6_order_1 : decode cX6_order 1 = .ok (.lload_n 1, 1) := by decide +kernel
theorem dX6_order_2 : decode cX6_order 2 = .ok (.iload 5, 2) := by decide +kernel
theorem dX6_order_4 : decode cX6_order 4 = .ok (.invokevirtual 60, 3) := by decide +kernel
theorem dX6_order_7 : decode cX6_order 7 = .ok (.aload_n 0, 1) := by decide +kernel
theorem dX6_order_8 : decode cX6_order 8 = .ok (.getfield 64, 3) := by decide +kernel
theorem dX6_order_11 : decode cX6_order 11 = .ok (.istore 6, 2) := by decide +kernel
theorem dX6_order_13 : decode cX6_order 13 = .ok (.aload_n 0, 1) := by decide +kernel
theorem dX6_order_14 : decode cX6_order 14 = .ok (.getfield 91, 3) := by decide +kernel
theorem dX6_order_17 : decode cX6_order 17 = .ok (.lconst 0, 1) := by decide +kernel
theorem dX6_order_18 : decode cX6_order 18 = .ok (.lcmp, 1) := by decide +kernel
theorem dX6_order_19 : decode cX6_order 19 = .ok (.ifCond .ne 14, 3) := by decide +kernel
theorem dX6_order_22 : decode cX6_order 22 = .ok (.aload_n 0, 1) := by decide +kernel
theorem dX6_order_23 : decode cX6_order 23 = .ok (.getfield 85, 3) := by decide +kernel
theorem dX6_order_26 : decode cX6_order 26 = .ok (.ifCond .ne 7, 3) := by decide +kernel
theorem dX6_order_29 : decode cX6_order 29 = .ok (.lconst 0, 1) := by decide +kernel
theorem dX6_order_30 : decode cX6_order 30 = .ok (.goto 28, 3) := by decide +kernel
theorem dX6_order_33 : decode cX6_order 33 = .ok (.aload_n 0, 1) := by decide +kernel
theorem dX6_order_34 : decode cX6_order 34 = .ok (.getfield 88, 3) := by decide +kernel
theorem dX6_order_37 : decode cX6_order 37 = .ok (.ifCond .eq 20, 3) := by decide +kernel
theorem dX6_order_40 : decode cX6_order 40 = .ok (.lconst 0, 1) := by decide +kernel
theorem dX6_order_41 : decode cX6_order 41 = .ok (.lload_n 1, 1) := by decide +kernel
theorem dX6_order_42 : decode cX6_order 42 = .ok (.iload 5, 2) := by decide +kernel
theorem dX6_order_44 : decode cX6_order 44 = .ok (.invokestatic 31, 3) := by decide +kernel
theorem dX6_order_47 : decode cX6_order 47 = .ok (.iconst 1, 1) := by decide +kernel
theorem dX6_order_48 : decode cX6_order 48 = .ok (.isub, 1) := by decide +kernel
theorem dX6_order_49 : decode cX6_order 49 = .ok (.invokestatic 27, 3) := by decide +kernel
theorem dX6_order_52 : decode cX6_order 52 = .ok (.land, 1) := by decide +kernel
theorem dX6_order_53 : decode cX6_order 53 = .ok (.lsub, 1) := by decide +kernel
theorem dX6_order_54 : decode cX6_order 54 = .ok (.goto 4, 3) := by decide +kernel
theorem dX6_order_57 : decode cX6_order 57 = .ok (.lload_n 1, 1) := by decide +kernel
theorem dX6_order_58 : decode cX6_order 58 = .ok (.lstore 7, 2) := by decide +kernel
theorem dX6_order_60 : decode cX6_order 60 = .ok (.aload_n 0, 1) := by decide +kernel
theorem dX6_order_61 : decode cX6_order 61 = .ok (.lload_n 3, 1) := by decide +kernel
theorem dX6_order_62 : decode cX6_order 62 = .ok (.iload 5, 2) := by decide +kernel
theorem dX6_order_64 : decode cX6_order 64 = .ok (.invokevirtual 60, 3) := by decide +kernel
theorem dX6_order_67 : decode cX6_order 67 = .ok (.aload_n 0, 1) := by decide +kernel
theorem dX6_order_68 : decode cX6_order 68 = .ok (.getfield 91, 3) := by decide +kernel
theorem dX6_order_71 : decode cX6_order 71 = .ok (.lconst 0, 1) := by decide +kernel
theorem dX6_order_72 : decode cX6_order 72 = .ok (.lcmp, 1) := by decide +kernel
theorem dX6_order_73 : decode cX6_order 73 = .ok (.ifCond .ne 14, 3) := by decide +kernel
end
section
theorem dX6_order_76 : decode cX6_order 76 = .ok (.aload_n 0, 1) := by decide +kernel
theorem dX6_order_77 : decode cX6_order 77 = .ok (.getfield 85, 3) := by decide +kernel
theorem dX6_order_80 : decode cX6_order 80 = .ok (.ifCond .ne 7, 3) := by decide +kernel
theorem dX6_order_83 : decode cX6_order 83 = .ok (.lconst 0, 1) := by decide +kernel
theorem dX6_order_84 : decode cX6_order 84 = .ok (.goto 28, 3) := by decide +kernel
theorem dX6_order_87 : decode cX6_order 87 = .ok (.aload_n 0, 1) := by decide +kernel
theorem dX6_order_88 : decode cX6_order 88 = .ok (.getfield 88, 3) := by decide +kernel
theorem dX6_order_91 : decode cX6_order 91 = .ok (.ifCond .eq 20, 3) := by decide +kernel
theorem dX6_order_94 : decode cX6_order 94 = .ok (.lconst 0, 1) := by decide +kernel
theorem dX6_order_95 : decode cX6_order 95 = .ok (.lload_n 3, 1) := by decide +kernel
theorem dX6_order_96 : decode cX6_order 96 = .ok (.iload 5, 2) := by decide +kernel
theorem dX6_order_98 : decode cX6_order 98 = .ok (.invokestatic 31, 3) := by decide +kernel
theorem dX6_order_101 : decode cX6_order 101 = .ok (.iconst 1, 1) := by decide +kernel
theorem dX6_order_102 : decode cX6_order 102 = .ok (.isub, 1) := by decide +kernel
theorem dX6_order_103 : decode cX6_order 103 = .ok (.invokestatic 27, 3) := by decide +kernel
theorem dX6_order_106 : decode cX6_order 106 = .ok (.land, 1) := by decide +kernel
theorem dX6_order_107 : decode cX6_order 107 = .ok (.lsub, 1) := by decide +kernel
theorem dX6_order_108 : decode cX6_order 108 = .ok (.goto 4, 3) := by decide +kernel
theorem dX6_order_111 : decode cX6_order 111 = .ok (.lload_n 3, 1) := by decide +kernel
theorem dX6_order_112 : decode cX6_order 112 = .ok (.lstore 9, 2) := by decide +kernel
theorem dX6_order_114 : decode cX6_order 114 = .ok (.iload 6, 2) := by decide +kernel
theorem dX6_order_116 : decode cX6_order 116 = .ok (.ifCond .ne 10, 3) := by decide +kernel
theorem dX6_order_119 : decode cX6_order 119 = .ok (.aload_n 0, 1) := by decide +kernel
theorem dX6_order_120 : decode cX6_order 120 = .ok (.getfield 64, 3) := by decide +kernel
theorem dX6_order_123 : decode cX6_order 123 = .ok (.ifCond .eq 7, 3) := by decide +kernel
theorem dX6_order_126 : decode cX6_order 126 = .ok (.iconst 2, 1) := by decide +kernel
theorem dX6_order_127 : decode cX6_order 127 = .ok (.goto 28, 3) := by decide +kernel
theorem dX6_order_130 : decode cX6_order 130 = .ok (.lload 7, 2) := by decide +kernel
theorem dX6_order_132 : decode cX6_order 132 = .ok (.lload 9, 2) := by decide +kernel
theorem dX6_order_134 : decode cX6_order 134 = .ok (.lcmp, 1) := by decide +kernel
theorem dX6_order_135 : decode cX6_order 135 = .ok (.ifCond .ge 7, 3) := by decide +kernel
theorem dX6_order_138 : decode cX6_order 138 = .ok (.iconst (-1), 1) := by decide +kernel
theorem dX6_order_139 : decode cX6_order 139 = .ok (.goto 16, 3) := by decide +kernel
theorem dX6_order_142 : decode cX6_order 142 = .ok (.lload 7, 2) := by decide +kernel
theorem dX6_order_144 : decode cX6_order 144 = .ok (.lload 9, 2) := by decide +kernel
theorem dX6_order_146 : decode cX6_order 146 = .ok (.lcmp, 1) := by decide +kernel
theorem dX6_order_147 : decode cX6_order 147 = .ok (.ifCond .le 7, 3) := by decide +kernel
theorem dX6_order_150 : decode cX6_order 150 = .ok (.iconst 1, 1) := by decide +kernel
theorem dX6_order_151 : decode cX6_order 151 = .ok (.goto 4, 3) := by decide +kernel
theorem dX6_order_154 : decode cX6_order 154 = .ok (.iconst 0, 1) := by decide +kernel
theorem dX6_order_155 : decode cX6_order 155 = .ok (.ireturn, 1) := by decide +kernel
theorem dX6_compare_0 : decode cX6_compare 0 = .ok (.aload_n 0, 1) := by decide +kernel
theorem dX6_compare_1 : decode cX6_compare 1 = .ok (.iload_n 1, 1) := by decide +kernel
theorem dX6_compare_2 : decode cX6_compare 2 = .ok (.iconst 0, 1) := by decide +kernel
theorem dX6_compare_3 : decode cX6_compare 3 = .ok (.iconst 3, 1) := by decide +kernel
theorem dX6_compare_4 : decode cX6_compare 4 = .ok (.invokestatic 16, 3) := by decide +kernel
theorem dX6_compare_7 : decode cX6_compare 7 = .ok (.ifCond .eq 31, 3) := by decide +kernel
theorem dX6_compare_10 : decode cX6_compare 10 = .ok (.aload_n 0, 1) := by decide +kernel
theorem dX6_compare_11 : decode cX6_compare 11 = .ok (.iload_n 2, 1) := by decide +kernel
theorem dX6_compare_12 : decode cX6_compare 12 = .ok (.aload_n 0, 1) := by decide +kernel
theorem dX6_compare_13 : decode cX6_compare 13 = .ok (.getfield 7, 3) := by decide +kernel
theorem dX6_compare_16 : decode cX6_compare 16 = .ok (.invokevirtual 42, 3) := by decide +kernel
theorem dX6_compare_19 : decode cX6_compare 19 = .ok (.ifCond .eq 19, 3) := by decide +kernel
theorem dX6_compare_22 : decode cX6_compare 22 = .ok (.aload_n 0, 1) := by decide +kernel
theorem dX6_compare_23 : decode cX6_compare 23 = .ok (.iload_n 3, 1) := by decide +kernel
theorem dX6_compare_24 : decode cX6_compare 24 = .ok (.aload_n 0, 1) := by decide +kernel
theorem dX6_compare_25 : decode cX6_compare 25 = .ok (.getfield 7, 3) := by decide +kernel
theorem dX6_compare_28 : decode cX6_compare 28 = .ok (.invokevirtual 42, 3) := by decide +kernel
theorem dX6_compare_31 : decode cX6_compare 31 = .ok (.ifCond .eq 7, 3) := by decide +kernel
theorem dX6_compare_34 : decode cX6_compare 34 = .ok (.iconst 1, 1) := by decide +kernel
theorem dX6_compare_35 : decode cX6_compare 35 = .ok (.goto 4, 3) := by decide +kernel
theorem dX6_compare_38 : decode cX6_compare 38 = .ok (.iconst 0, 1) := by decide +kernel
theorem dX6_compare_39 : decode cX6_compare 39 = .ok (.invokevirtual 38, 3) := by decide +kernel
theorem dX6_compare_42 : decode cX6_compare 42 = .ok (.ifCond .ne 5, 3) := by decide +kernel
theorem dX6_compare_45 : decode cX6_compare 45 = .ok (.iconst 0, 1) := by decide +kernel
theorem dX6_compare_46 : decode cX6_compare 46 = .ok (.ireturn, 1) := by decide +kernel
theorem dX6_compare_47 : decode cX6_compare 47 = .ok (.iload_n 1, 1) := by decide +kernel
theorem dX6_compare_48 : decode cX6_compare 48 = .ok (.iconst 3, 1) := by decide +kernel
theorem dX6_compare_49 : decode cX6_compare 49 = .ok (.if_icmp .ne 33, 3) := by decide +kernel
theorem dX6_compare_52 : decode cX6_compare 52 = .ok (.aload_n 0, 1) := by decide +kernel
theorem dX6_compare_53 : decode cX6_compare 53 = .ok (.iload_n 2, 1) := by decide +kernel
theorem dX6_compare_54 : decode cX6_compare 54 = .ok (.i2l, 1) := by decide +kernel
theorem dX6_compare_55 : decode cX6_compare 55 = .ok (.aload_n 0, 1) := by decide +kernel
theorem dX6_compare_56 : decode cX6_compare 56 = .ok (.getfield 7, 3) := by decide +kernel
theorem dX6_compare_59 : decode cX6_compare 59 = .ok (.invokevirtual 49, 3) := by decide +kernel
theorem dX6_compare_62 : decode cX6_compare 62 = .ok (.aload_n 0, 1) := by decide +kernel
theorem dX6_compare_63 : decode cX6_compare 63 = .ok (.iload_n 3, 1) := by decide +kernel
theorem dX6_compare_64 : decode cX6_compare 64 = .ok (.i2l, 1) := by decide +kernel
theorem dX6_compare_65 : decode cX6_compare 65 = .ok (.aload_n 0, 1) := by decide +kernel
theorem dX6_compare_66 : decode cX6_compare 66 = .ok (.getfield 7, 3) := by decide +kernel
theorem dX6_compare_69 : decode cX6_compare 69 = .ok (.invokevirtual 49, 3) := by decide +kernel
theorem dX6_compare_72 : decode cX6_compare 72 = .ok (.lcmp, 1) := by decide +kernel
theorem dX6_compare_73 : decode cX6_compare 73 = .ok (.ifCond .ne 7, 3) := by decide +kernel
theorem dX6_compare_76 : decode cX6_compare 76 = .ok (.iconst 1, 1) := by decide +kernel
theorem dX6_compare_77 : decode cX6_compare 77 = .ok (.goto 4, 3) := by decide +kernel
theorem dX6_compare_80 : decode cX6_compare 80 = .ok (.iconst 0, 1) := by decide +kernel
theorem dX6_compare_81 : decode cX6_compare 81 = .ok (.ireturn, 1) := by decide +kernel
theorem dX6_compare_82 : decode cX6_compare 82 = .ok (.aload_n 0, 1) := by decide +kernel
theorem dX6_compare_83 : decode cX6_compare 83 = .ok (.iload_n 1, 1) := by decide +kernel
theorem dX6_compare_84 : decode cX6_compare 84 = .ok (.ifCond .ne 8, 3) := by decide +kernel
theorem dX6_compare_87 : decode cX6_compare 87 = .ok (.bipush 55, 2) := by decide +kernel
theorem dX6_compare_89 : decode cX6_compare 89 = .ok (.goto 15, 3) := by decide +kernel
theorem dX6_compare_92 : decode cX6_compare 92 = .ok (.iload_n 1, 1) := by decide +kernel
theorem dX6_compare_93 : decode cX6_compare 93 = .ok (.iconst 1, 1) := by decide +kernel
theorem dX6_compare_94 : decode cX6_compare 94 = .ok (.if_icmp .ne 8, 3) := by decide +kernel
theorem dX6_compare_97 : decode cX6_compare 97 = .ok (.bipush 54, 2) := by decide +kernel
theorem dX6_compare_99 : decode cX6_compare 99 = .ok (.goto 5, 3) := by decide +kernel
theorem dX6_compare_102 : decode cX6_compare 102 = .ok (.bipush 58, 2) := by decide +kernel
theorem dX6_compare_104 : decode cX6_compare 104 = .ok (.iload_n 2, 1) := by decide +kernel
theorem dX6_compare_105 : decode cX6_compare 105 = .ok (.i2l, 1) := by decide +kernel
theorem dX6_compare_106 : decode cX6_compare 106 = .ok (.iload_n 3, 1) := by decide +kernel
theorem dX6_compare_107 : decode cX6_compare 107 = .ok (.i2l, 1) := by decide +kernel
theorem dX6_compare_108 : decode cX6_compare 108 = .ok (.aload_n 0, 1) := by decide +kernel
theorem dX6_compare_109 : decode cX6_compare 109 = .ok (.getfield 7, 3) := by decide +kernel
theorem dX6_compare_112 : decode cX6_compare 112 = .ok (.invokevirtual 74, 3) := by decide +kernel
theorem dX6_compare_115 : decode cX6_compare 115 = .ok (.lconst 1, 1) := by decide +kernel
theorem dX6_compare_116 : decode cX6_compare 116 = .ok (.lcmp, 1) := by decide +kernel
theorem dX6_compare_117 : decode cX6_compare 117 = .ok (.ifCond .ne 7, 3) := by decide +kernel
theorem dX6_compare_120 : decode cX6_compare 120 = .ok (.iconst 1, 1) := by decide +kernel
theorem dX6_compare_121 : decode cX6_compare 121 = .ok (.goto 4, 3) := by decide +kernel
theorem dX6_compare_124 : decode cX6_compare 124 = .ok (.iconst 0, 1) := by decide +kernel
theorem dX6_compare_125 : decode cX6_compare 125 = .ok (.ireturn, 1) := by decide +kernel
theorem dX6_compared_0 : decode cX6_compared 0 = .ok (.aload_n 0, 1) := by decide +kernel
theorem dX6_compared_1 : decode cX6_compared 1 = .ok (.lload_n 2, 1) := by decide +kernel
theorem dX6_compared_2 : decode cX6_compared 2 = .ok (.lload 4, 2) := by decide +kernel
theorem dX6_compared_4 : decode cX6_compared 4 = .ok (.iload 6, 2) := by decide +kernel
theorem dX6_compared_6 : decode cX6_compared 6 = .ok (.invokevirtual 121, 3) := by decide +kernel
theorem dX6_compared_9 : decode cX6_compared 9 = .ok (.istore 7, 2) := by decide +kernel
theorem dX6_compared_11 : decode cX6_compared 11 = .ok (.iload 7, 2) := by decide +kernel
theorem dX6_compared_13 : decode cX6_compared 13 = .ok (.iconst 2, 1) := by decide +kernel
theorem dX6_compared_14 : decode cX6_compared 14 = .ok (.if_icmp .eq 68, 3) := by decide +kernel
theorem dX6_compared_17 : decode cX6_compared 17 = .ok (.iload_n 1, 1) := by decide +kernel
theorem dX6_compared_18 : decode cX6_compared 18 = .ok (.bipush 54, 2) := by decide +kernel
theorem dX6_compared_20 : decode cX6_compared 20 = .ok (.if_icmp .ne 11, 3) := by decide +kernel
theorem dX6_compared_23 : decode cX6_compared 23 = .ok (.iload 7, 2) := by decide +kernel
theorem dX6_compared_25 : decode cX6_compared 25 = .ok (.ifCond .gt 57, 3) := by decide +kernel
theorem dX6_compared_28 : decode cX6_compared 28 = .ok (.goto 50, 3) := by decide +kernel
theorem dX6_compared_31 : decode cX6_compared 31 = .ok (.iload_n 1, 1) := by decide +kernel
theorem dX6_compared_32 : decode cX6_compared 32 = .ok (.bipush 55, 2) := by decide +kernel
theorem dX6_compared_34 : decode cX6_compared 34 = .ok (.if_icmp .ne 11, 3) := by decide +kernel
theorem dX6_compared_37 : decode cX6_compared 37 = .ok (.iload 7, 2) := by decide +kernel
theorem dX6_compared_39 : decode cX6_compared 39 = .ok (.ifCond .ge 43, 3) := by decide +kernel
theorem dX6_compared_42 : decode cX6_compared 42 = .ok (.goto 36, 3) := by decide +kernel
theorem dX6_compared_45 : decode cX6_compared 45 = .ok (.iload_n 1, 1) := by decide +kernel
theorem dX6_compared_46 : decode cX6_compared 46 = .ok (.bipush 56, 2) := by decide +kernel
theorem dX6_compared_48 : decode cX6_compared 48 = .ok (.if_icmp .ne 11, 3) := by decide +kernel
theorem dX6_compared_51 : decode cX6_compared 51 = .ok (.iload 7, 2) := by decide +kernel
theorem dX6_compared_53 : decode cX6_compared 53 = .ok (.ifCond .lt 29, 3) := by decide +kernel
theorem dX6_compared_56 : decode cX6_compared 56 = .ok (.goto 22, 3) := by decide +kernel
theorem dX6_compared_59 : decode cX6_compared 59 = .ok (.iload_n 1, 1) := by decide +kernel
theorem dX6_compared_60 : decode cX6_compared 60 = .ok (.bipush 57, 2) := by decide +kernel
theorem dX6_compared_62 : decode cX6_compared 62 = .ok (.if_icmp .ne 11, 3) := by decide +kernel
theorem dX6_compared_65 : decode cX6_compared 65 = .ok (.iload 7, 2) := by decide +kernel
theorem dX6_compared_67 : decode cX6_compared 67 = .ok (.ifCond .le 15, 3) := by decide +kernel
theorem dX6_compared_70 : decode cX6_compared 70 = .ok (.goto 8, 3) := by decide +kernel
theorem dX6_compared_73 : decode cX6_compared 73 = .ok (.iload 7, 2) := by decide +kernel
theorem dX6_compared_75 : decode cX6_compared 75 = .ok (.ifCond .ne 7, 3) := by decide +kernel
theorem dX6_compared_78 : decode cX6_compared 78 = .ok (.iconst 1, 1) := by decide +kernel
theorem dX6_compared_79 : decode cX6_compared 79 = .ok (.goto 4, 3) := by decide +kernel
theorem dX6_compared_82 : decode cX6_compared 82 = .ok (.iconst 0, 1) := by decide +kernel
theorem dX6_compared_83 : decode cX6_compared 83 = .ok (.istore 8, 2) := by decide +kernel
theorem dX6_compared_85 : decode cX6_compared 85 = .ok (.iload 8, 2) := by decide +kernel
theorem dX6_compared_87 : decode cX6_compared 87 = .ok (.ifCond .eq 7, 3) := by decide +kernel
theorem dX6_compared_90 : decode cX6_compared 90 = .ok (.lconst 1, 1) := by decide +kernel
theorem dX6_compared_91 : decode cX6_compared 91 = .ok (.goto 4, 3) := by decide +kernel
theorem dX6_compared_94 : decode cX6_compared 94 = .ok (.lconst 0, 1) := by decide +kernel
theorem dX6_compared_95 : decode cX6_compared 95 = .ok (.lreturn, 1) := by decide +kernel
theorem dX6_is_0 : decode cX6_is 0 = .ok (.aload_n 0, 1) := by decide +kernel
theorem dX6_is_1 : decode cX6_is 1 = .ok (.iload_n 1, 1) := by decide +kernel
theorem dX6_is_2 : decode cX6_is 2 = .ok (.iconst 0, 1) := by decide +kernel
theorem dX6_is_3 : decode cX6_is 3 = .ok (.bipush 6, 2) := by decide +kernel
theorem dX6_is_5 : decode cX6_is 5 = .ok (.invokestatic 16, 3) := by decide +kernel
theorem dX6_is_8 : decode cX6_is 8 = .ok (.ifCond .eq 19, 3) := by decide +kernel
theorem dX6_is_11 : decode cX6_is 11 = .ok (.aload_n 0, 1) := by decide +kernel
theorem dX6_is_12 : decode cX6_is 12 = .ok (.iload_n 2, 1) := by decide +kernel
theorem dX6_is_13 : decode cX6_is 13 = .ok (.aload_n 0, 1) := by decide +kernel
theorem dX6_is_14 : decode cX6_is 14 = .ok (.getfield 7, 3) := by decide +kernel
theorem dX6_is_17 : decode cX6_is 17 = .ok (.invokevirtual 42, 3) := by decide +kernel
theorem dX6_is_20 : decode cX6_is 20 = .ok (.ifCond .eq 7, 3) := by decide +kernel
theorem dX6_is_23 : decode cX6_is 23 = .ok (.iconst 1, 1) := by decide +kernel
theorem dX6_is_24 : decode cX6_is 24 = .ok (.goto 4, 3) := by decide +kernel
theorem dX6_is_27 : decode cX6_is 27 = .ok (.iconst 0, 1) := by decide +kernel
theorem dX6_is_28 : decode cX6_is 28 = .ok (.invokevirtual 38, 3) := by decide +kernel
theorem dX6_is_31 : decode cX6_is 31 = .ok (.ifCond .ne 5, 3) := by decide +kernel
theorem dX6_is_34 : decode cX6_is 34 = .ok (.iconst 0, 1) := by decide +kernel
theorem dX6_is_35 : decode cX6_is 35 = .ok (.ireturn, 1) := by decide +kernel
theorem dX6_is_36 : decode cX6_is 36 = .ok (.aload_n 0, 1) := by decide +kernel
theorem dX6_is_37 : decode cX6_is 37 = .ok (.bipush 59, 2) := by decide +kernel
theorem dX6_is_39 : decode cX6_is 39 = .ok (.iload_n 1, 1) := by decide +kernel
theorem dX6_is_40 : decode cX6_is 40 = .ok (.iadd, 1) := by decide +kernel
theorem dX6_is_41 : decode cX6_is 41 = .ok (.iload_n 2, 1) := by decide +kernel
theorem dX6_is_42 : decode cX6_is 42 = .ok (.i2l, 1) := by decide +kernel
theorem dX6_is_43 : decode cX6_is 43 = .ok (.aload_n 0, 1) := by decide +kernel
theorem dX6_is_44 : decode cX6_is 44 = .ok (.getfield 7, 3) := by decide +kernel
theorem dX6_is_47 : decode cX6_is 47 = .ok (.invokevirtual 78, 3) := by decide +kernel
theorem dX6_is_50 : decode cX6_is 50 = .ok (.lconst 1, 1) := by decide +kernel
theorem dX6_is_51 : decode cX6_is 51 = .ok (.lcmp, 1) := by decide +kernel
theorem dX6_is_52 : decode cX6_is 52 = .ok (.ifCond .ne 7, 3) := by decide +kernel
theorem dX6_is_55 : decode cX6_is 55 = .ok (.iconst 1, 1) := by decide +kernel
theorem dX6_is_56 : decode cX6_is 56 = .ok (.goto 4, 3) := by decide +kernel
theorem dX6_is_59 : decode cX6_is 59 = .ok (.iconst 0, 1) := by decide +kernel
theorem dX6_is_60 : decode cX6_is 60 = .ok (.ireturn, 1) := by decide +kernel
theorem dX6_told_0 : decode cX6_told 0 = .ok (.aload_n 0, 1) := by decide +kernel
theorem dX6_told_1 : decode cX6_told 1 = .ok (.lload_n 2, 1) := by decide +kernel
theorem dX6_told_2 : decode cX6_told 2 = .ok (.iload 4, 2) := by decide +kernel
theorem dX6_told_4 : decode cX6_told 4 = .ok (.invokevirtual 60, 3) := by decide +kernel
theorem dX6_told_7 : decode cX6_told 7 = .ok (.aload_n 0, 1) := by decide +kernel
theorem dX6_told_8 : decode cX6_told 8 = .ok (.getfield 91, 3) := by decide +kernel
theorem dX6_told_11 : decode cX6_told 11 = .ok (.lconst 0, 1) := by decide +kernel
theorem dX6_told_12 : decode cX6_told 12 = .ok (.lcmp, 1) := by decide +kernel
theorem dX6_told_13 : decode cX6_told 13 = .ok (.ifCond .ne 21, 3) := by decide +kernel
theorem dX6_told_16 : decode cX6_told 16 = .ok (.aload_n 0, 1) := by decide +kernel
theorem dX6_told_17 : decode cX6_told 17 = .ok (.getfield 85, 3) := by decide +kernel
theorem dX6_told_20 : decode cX6_told 20 = .ok (.ifCond .ne 14, 3) := by decide +kernel
theorem dX6_told_23 : decode cX6_told 23 = .ok (.aload_n 0, 1) := by decide +kernel
theorem dX6_told_24 : decode cX6_told 24 = .ok (.getfield 64, 3) := by decide +kernel
theorem dX6_told_27 : decode cX6_told 27 = .ok (.ifCond .ne 7, 3) := by decide +kernel
theorem dX6_told_30 : decode cX6_told 30 = .ok (.iconst 1, 1) := by decide +kernel
theorem dX6_told_31 : decode cX6_told 31 = .ok (.goto 4, 3) := by decide +kernel
theorem dX6_told_34 : decode cX6_told 34 = .ok (.iconst 0, 1) := by decide +kernel
theorem dX6_told_35 : decode cX6_told 35 = .ok (.istore 5, 2) := by decide +kernel
theorem dX6_told_37 : decode cX6_told 37 = .ok (.aload_n 0, 1) := by decide +kernel
theorem dX6_told_38 : decode cX6_told 38 = .ok (.getfield 85, 3) := by decide +kernel
theorem dX6_told_41 : decode cX6_told 41 = .ok (.ifCond .ne 31, 3) := by decide +kernel
theorem dX6_told_44 : decode cX6_told 44 = .ok (.aload_n 0, 1) := by decide +kernel
theorem dX6_told_45 : decode cX6_told 45 = .ok (.getfield 64, 3) := by decide +kernel
theorem dX6_told_48 : decode cX6_told 48 = .ok (.ifCond .ne 24, 3) := by decide +kernel
theorem dX6_told_51 : decode cX6_told 51 = .ok (.aload_n 0, 1) := by decide +kernel
theorem dX6_told_52 : decode cX6_told 52 = .ok (.getfield 91, 3) := by decide +kernel
theorem dX6_told_55 : decode cX6_told 55 = .ok (.iload 4, 2) := by decide +kernel
theorem dX6_told_57 : decode cX6_told 57 = .ok (.invokestatic 24, 3) := by decide +kernel
theorem dX6_told_60 : decode cX6_told 60 = .ok (.iconst 1, 1) := by decide +kernel
theorem dX6_told_61 : decode cX6_told 61 = .ok (.isub, 1) := by decide +kernel
theorem dX6_told_62 : decode cX6_told 62 = .ok (.lushr, 1) := by decide +kernel
theorem dX6_told_63 : decode cX6_told 63 = .ok (.lconst 1, 1) := by decide +kernel
theorem dX6_told_64 : decode cX6_told 64 = .ok (.lcmp, 1) := by decide +kernel
theorem dX6_told_65 : decode cX6_told 65 = .ok (.ifCond .ne 7, 3) := by decide +kernel
theorem dX6_told_68 : decode cX6_told 68 = .ok (.iconst 1, 1) := by decide +kernel
theorem dX6_told_69 : decode cX6_told 69 = .ok (.goto 4, 3) := by decide +kernel
theorem dX6_told_72 : decode cX6_told 72 = .ok (.iconst 0, 1) := by decide +kernel
theorem dX6_told_73 : decode cX6_told 73 = .ok (.istore 6, 2) := by decide +kernel
theorem dX6_told_75 : decode cX6_told 75 = .ok (.iload_n 1, 1) := by decide +kernel
theorem dX6_told_76 : decode cX6_told 76 = .ok (.bipush 59, 2) := by decide +kernel
theorem dX6_told_78 : decode cX6_told 78 = .ok (.if_icmp .ne 8, 3) := by decide +kernel
theorem dX6_told_81 : decode cX6_told 81 = .ok (.iload 6, 2) := by decide +kernel
theorem dX6_told_83 : decode cX6_told 83 = .ok (.goto 125, 3) := by decide +kernel
theorem dX6_told_86 : decode cX6_told 86 = .ok (.iload_n 1, 1) := by decide +kernel
theorem dX6_told_87 : decode cX6_told 87 = .ok (.bipush 60, 2) := by decide +kernel
theorem dX6_told_89 : decode cX6_told 89 = .ok (.if_icmp .ne 35, 3) := by decide +kernel
theorem dX6_told_92 : decode cX6_told 92 = .ok (.iload 6, 2) := by decide +kernel
theorem dX6_told_94 : decode cX6_told 94 = .ok (.ifCond .ne 26, 3) := by decide +kernel
theorem dX6_told_97 : decode cX6_told 97 = .ok (.iload 5, 2) := by decide +kernel
theorem dX6_told_99 : decode cX6_told 99 = .ok (.ifCond .ne 21, 3) := by decide +kernel
theorem dX6_told_102 : decode cX6_told 102 = .ok (.aload_n 0, 1) := by decide +kernel
theorem dX6_told_103 : decode cX6_told 103 = .ok (.getfield 85, 3) := by decide +kernel
theorem dX6_told_106 : decode cX6_told 106 = .ok (.ifCond .ne 14, 3) := by decide +kernel
theorem dX6_told_109 : decode cX6_told 109 = .ok (.aload_n 0, 1) := by decide +kernel
theorem dX6_told_110 : decode cX6_told 110 = .ok (.getfield 64, 3) := by decide +kernel
theorem dX6_told_113 : decode cX6_told 113 = .ok (.ifCond .ne 7, 3) := by decide +kernel
theorem dX6_told_116 : decode cX6_told 116 = .ok (.iconst 1, 1) := by decide +kernel
theorem dX6_told_117 : decode cX6_told 117 = .ok (.goto 91, 3) := by decide +kernel
theorem dX6_told_120 : decode cX6_told 120 = .ok (.iconst 0, 1) := by decide +kernel
theorem dX6_told_121 : decode cX6_told 121 = .ok (.goto 87, 3) := by decide +kernel
theorem dX6_told_124 : decode cX6_told 124 = .ok (.iload_n 1, 1) := by decide +kernel
theorem dX6_told_125 : decode cX6_told 125 = .ok (.bipush 61, 2) := by decide +kernel
theorem dX6_told_127 : decode cX6_told 127 = .ok (.if_icmp .ne 8, 3) := by decide +kernel
theorem dX6_told_130 : decode cX6_told 130 = .ok (.iload 5, 2) := by decide +kernel
theorem dX6_told_132 : decode cX6_told 132 = .ok (.goto 76, 3) := by decide +kernel
theorem dX6_told_135 : decode cX6_told 135 = .ok (.iload_n 1, 1) := by decide +kernel
theorem dX6_told_136 : decode cX6_told 136 = .ok (.bipush 62, 2) := by decide +kernel
theorem dX6_told_138 : decode cX6_told 138 = .ok (.if_icmp .ne 10, 3) := by decide +kernel
theorem dX6_told_141 : decode cX6_told 141 = .ok (.aload_n 0, 1) := by decide +kernel
theorem dX6_told_142 : decode cX6_told 142 = .ok (.getfield 85, 3) := by decide +kernel
theorem dX6_told_145 : decode cX6_told 145 = .ok (.goto 63, 3) := by decide +kernel
theorem dX6_told_148 : decode cX6_told 148 = .ok (.iload_n 1, 1) := by decide +kernel
theorem dX6_told_149 : decode cX6_told 149 = .ok (.bipush 63, 2) := by decide +kernel
theorem dX6_told_151 : decode cX6_told 151 = .ok (.if_icmp .ne 10, 3) := by decide +kernel
theorem dX6_told_154 : decode cX6_told 154 = .ok (.aload_n 0, 1) := by decide +kernel
theorem dX6_told_155 : decode cX6_told 155 = .ok (.getfield 64, 3) := by decide +kernel
theorem dX6_told_158 : decode cX6_told 158 = .ok (.goto 50, 3) := by decide +kernel
theorem dX6_told_161 : decode cX6_told 161 = .ok (.iload_n 1, 1) := by decide +kernel
theorem dX6_told_162 : decode cX6_told 162 = .ok (.bipush 64, 2) := by decide +kernel
theorem dX6_told_164 : decode cX6_told 164 = .ok (.if_icmp .ne 25, 3) := by decide +kernel
theorem dX6_told_167 : decode cX6_told 167 = .ok (.aload_n 0, 1) := by decide +kernel
theorem dX6_told_168 : decode cX6_told 168 = .ok (.getfield 88, 3) := by decide +kernel
theorem dX6_told_171 : decode cX6_told 171 = .ok (.ifCond .eq 14, 3) := by decide +kernel
theorem dX6_told_174 : decode cX6_told 174 = .ok (.aload_n 0, 1) := by decide +kernel
theorem dX6_told_175 : decode cX6_told 175 = .ok (.getfield 64, 3) := by decide +kernel
theorem dX6_told_178 : decode cX6_told 178 = .ok (.ifCond .ne 7, 3) := by decide +kernel
theorem dX6_told_181 : decode cX6_told 181 = .ok (.iconst 1, 1) := by decide +kernel
theorem dX6_told_182 : decode cX6_told 182 = .ok (.goto 26, 3) := by decide +kernel
theorem dX6_told_185 : decode cX6_told 185 = .ok (.iconst 0, 1) := by decide +kernel
theorem dX6_told_186 : decode cX6_told 186 = .ok (.goto 22, 3) := by decide +kernel
theorem dX6_told_189 : decode cX6_told 189 = .ok (.aload_n 0, 1) := by decide +kernel
theorem dX6_told_190 : decode cX6_told 190 = .ok (.getfield 88, 3) := by decide +kernel
theorem dX6_told_193 : decode cX6_told 193 = .ok (.ifCond .ne 14, 3) := by decide +kernel
theorem dX6_told_196 : decode cX6_told 196 = .ok (.aload_n 0, 1) := by decide +kernel
theorem dX6_told_197 : decode cX6_told 197 = .ok (.getfield 64, 3) := by decide +kernel
theorem dX6_told_200 : decode cX6_told 200 = .ok (.ifCond .ne 7, 3) := by decide +kernel
theorem dX6_told_203 : decode cX6_told 203 = .ok (.iconst 1, 1) := by decide +kernel
theorem dX6_told_204 : decode cX6_told 204 = .ok (.goto 4, 3) := by decide +kernel
theorem dX6_told_207 : decode cX6_told 207 = .ok (.iconst 0, 1) := by decide +kernel
theorem dX6_told_208 : decode cX6_told 208 = .ok (.istore 7, 2) := by decide +kernel
theorem dX6_told_210 : decode cX6_told 210 = .ok (.iload 7, 2) := by decide +kernel
theorem dX6_told_212 : decode cX6_told 212 = .ok (.ifCond .eq 7, 3) := by decide +kernel
theorem dX6_told_215 : decode cX6_told 215 = .ok (.lconst 1, 1) := by decide +kernel
theorem dX6_told_216 : decode cX6_told 216 = .ok (.goto 4, 3) := by decide +kernel
theorem dX6_told_219 : decode cX6_told 219 = .ok (.lconst 0, 1) := by decide +kernel
theorem dX6_told_220 : decode cX6_told 220 = .ok (.lreturn, 1) := by decide +kernel
theorem dX6_from_0 : decode cX6_from 0 = .ok (.aload_n 0, 1) := by decide +kernel
theorem dX6_from_1 : decode cX6_from 1 = .ok (.iload_n 1, 1) := by decide +kernel
theorem dX6_from_2 : decode cX6_from 2 = .ok (.iload_n 2, 1) := by decide +kernel
theorem dX6_from_3 : decode cX6_from 3 = .ok (.invokestatic 34, 3) := by decide +kernel
theorem dX6_from_6 : decode cX6_from 6 = .ok (.ifCond .eq 35, 3) := by decide +kernel
theorem dX6_from_9 : decode cX6_from 9 = .ok (.iload_n 3, 1) := by decide +kernel
theorem dX6_from_10 : decode cX6_from 10 = .ok (.iconst 0, 1) := by decide +kernel
theorem dX6_from_11 : decode cX6_from 11 = .ok (.iconst 4, 1) := by decide +kernel
theorem dX6_from_12 : decode cX6_from 12 = .ok (.invokestatic 16, 3) := by decide +kernel
theorem dX6_from_15 : decode cX6_from 15 = .ok (.ifCond .eq 26, 3) := by decide +kernel
theorem dX6_from_18 : decode cX6_from 18 = .ok (.aload_n 0, 1) := by decide +kernel
theorem dX6_from_19 : decode cX6_from 19 = .ok (.iload 4, 2) := by decide +kernel
theorem dX6_from_21 : decode cX6_from 21 = .ok (.sipush 1000, 3) := by decide +kernel
theorem dX6_from_24 : decode cX6_from 24 = .ok (.bipush 100, 2) := by decide +kernel
theorem dX6_from_26 : decode cX6_from 26 = .ok (.iload_n 1, 1) := by decide +kernel
theorem dX6_from_27 : decode cX6_from 27 = .ok (.imul, 1) := by decide +kernel
theorem dX6_from_28 : decode cX6_from 28 = .ok (.iadd, 1) := by decide +kernel
theorem dX6_from_29 : decode cX6_from 29 = .ok (.iload_n 2, 1) := by decide +kernel
theorem dX6_from_30 : decode cX6_from 30 = .ok (.iadd, 1) := by decide +kernel
theorem dX6_from_31 : decode cX6_from 31 = .ok (.invokevirtual 42, 3) := by decide +kernel
theorem dX6_from_34 : decode cX6_from 34 = .ok (.ifCond .eq 7, 3) := by decide +kernel
theorem dX6_from_37 : decode cX6_from 37 = .ok (.iconst 1, 1) := by decide +kernel
theorem dX6_from_38 : decode cX6_from 38 = .ok (.goto 4, 3) := by decide +kernel
theorem dX6_from_41 : decode cX6_from 41 = .ok (.iconst 0, 1) := by decide +kernel
theorem dX6_from_42 : decode cX6_from 42 = .ok (.invokevirtual 38, 3) := by decide +kernel
theorem dX6_from_45 : decode cX6_from 45 = .ok (.ifCond .ne 5, 3) := by decide +kernel
theorem dX6_from_48 : decode cX6_from 48 = .ok (.iconst 0, 1) := by decide +kernel
theorem dX6_from_49 : decode cX6_from 49 = .ok (.ireturn, 1) := by decide +kernel
theorem dX6_from_50 : decode cX6_from 50 = .ok (.aload_n 0, 1) := by decide +kernel
theorem dX6_from_51 : decode cX6_from 51 = .ok (.iload 4, 2) := by decide +kernel
theorem dX6_from_53 : decode cX6_from 53 = .ok (.i2l, 1) := by decide +kernel
theorem dX6_from_54 : decode cX6_from 54 = .ok (.sipush 1000, 3) := by decide +kernel
theorem dX6_from_57 : decode cX6_from 57 = .ok (.bipush 100, 2) := by decide +kernel
theorem dX6_from_59 : decode cX6_from 59 = .ok (.iload_n 1, 1) := by decide +kernel
theorem dX6_from_60 : decode cX6_from 60 = .ok (.imul, 1) := by decide +kernel
theorem dX6_from_61 : decode cX6_from 61 = .ok (.iadd, 1) := by decide +kernel
theorem dX6_from_62 : decode cX6_from 62 = .ok (.iload_n 2, 1) := by decide +kernel
theorem dX6_from_63 : decode cX6_from 63 = .ok (.iadd, 1) := by decide +kernel
theorem dX6_from_64 : decode cX6_from 64 = .ok (.invokevirtual 60, 3) := by decide +kernel
theorem dX6_from_67 : decode cX6_from 67 = .ok (.aload_n 0, 1) := by decide +kernel
theorem dX6_from_68 : decode cX6_from 68 = .ok (.getfield 7, 3) := by decide +kernel
theorem dX6_from_71 : decode cX6_from 71 = .ok (.invokestatic 20, 3) := by decide +kernel
theorem dX6_from_74 : decode cX6_from 74 = .ok (.istore 5, 2) := by decide +kernel
theorem dX6_from_76 : decode cX6_from 76 = .ok (.aload_n 0, 1) := by decide +kernel
theorem dX6_from_77 : decode cX6_from 77 = .ok (.getfield 7, 3) := by decide +kernel
theorem dX6_from_80 : decode cX6_from 80 = .ok (.invokestatic 24, 3) := by decide +kernel
theorem dX6_from_83 : decode cX6_from 83 = .ok (.istore 6, 2) := by decide +kernel
theorem dX6_from_85 : decode cX6_from 85 = .ok (.aload_n 0, 1) := by decide +kernel
theorem dX6_from_86 : decode cX6_from 86 = .ok (.getfield 64, 3) := by decide +kernel
theorem dX6_from_89 : decode cX6_from 89 = .ok (.ifCond .eq 12, 3) := by decide +kernel
theorem dX6_from_92 : decode cX6_from 92 = .ok (.iload 5, 2) := by decide +kernel
theorem dX6_from_94 : decode cX6_from 94 = .ok (.iload 6, 2) := by decide +kernel
theorem dX6_from_96 : decode cX6_from 96 = .ok (.invokestatic 81, 3) := by decide +kernel
theorem dX6_from_99 : decode cX6_from 99 = .ok (.l2i, 1) := by decide +kernel
theorem dX6_from_100 : decode cX6_from 100 = .ok (.ireturn, 1) := by decide +kernel
theorem dX6_from_101 : decode cX6_from 101 = .ok (.aload_n 0, 1) := by decide +kernel
theorem dX6_from_102 : decode cX6_from 102 = .ok (.getfield 85, 3) := by decide +kernel
theorem dX6_from_105 : decode cX6_from 105 = .ok (.ifCond .eq 36, 3) := by decide +kernel
theorem dX6_from_108 : decode cX6_from 108 = .ok (.iload 5, 2) := by decide +kernel
theorem dX6_from_110 : decode cX6_from 110 = .ok (.invokestatic 27, 3) := by decide +kernel
theorem dX6_from_113 : decode cX6_from 113 = .ok (.iload 6, 2) := by decide +kernel
theorem dX6_from_115 : decode cX6_from 115 = .ok (.iconst 1, 1) := by decide +kernel
theorem dX6_from_116 : decode cX6_from 116 = .ok (.isub, 1) := by decide +kernel
theorem dX6_from_117 : decode cX6_from 117 = .ok (.lshl, 1) := by decide +kernel
theorem dX6_from_118 : decode cX6_from 118 = .ok (.aload_n 0, 1) := by decide +kernel
theorem dX6_from_119 : decode cX6_from 119 = .ok (.getfield 88, 3) := by decide +kernel
theorem dX6_from_122 : decode cX6_from 122 = .ok (.ifCond .eq 15, 3) := by decide +kernel
theorem dX6_from_125 : decode cX6_from 125 = .ok (.lconst 1, 1) := by decide +kernel
theorem dX6_from_126 : decode cX6_from 126 = .ok (.iload 5, 2) := by decide +kernel
theorem dX6_from_128 : decode cX6_from 128 = .ok (.iload 6, 2) := by decide +kernel
theorem dX6_from_130 : decode cX6_from 130 = .ok (.iadd, 1) := by decide +kernel
theorem dX6_from_131 : decode cX6_from 131 = .ok (.iconst 1, 1) := by decide +kernel
theorem dX6_from_132 : decode cX6_from 132 = .ok (.isub, 1) := by decide +kernel
theorem dX6_from_133 : decode cX6_from 133 = .ok (.lshl, 1) := by decide +kernel
theorem dX6_from_134 : decode cX6_from 134 = .ok (.goto 4, 3) := by decide +kernel
theorem dX6_from_137 : decode cX6_from 137 = .ok (.lconst 0, 1) := by decide +kernel
theorem dX6_from_138 : decode cX6_from 138 = .ok (.lor, 1) := by decide +kernel
theorem dX6_from_139 : decode cX6_from 139 = .ok (.l2i, 1) := by decide +kernel
theorem dX6_from_140 : decode cX6_from 140 = .ok (.ireturn, 1) := by decide +kernel
theorem dX6_from_141 : decode cX6_from 141 = .ok (.iload_n 3, 1) := by decide +kernel
theorem dX6_from_142 : decode cX6_from 142 = .ok (.aload_n 0, 1) := by decide +kernel
theorem dX6_from_143 : decode cX6_from 143 = .ok (.getfield 88, 3) := by decide +kernel
theorem dX6_from_146 : decode cX6_from 146 = .ok (.aload_n 0, 1) := by decide +kernel
theorem dX6_from_147 : decode cX6_from 147 = .ok (.getfield 91, 3) := by decide +kernel
theorem dX6_from_150 : decode cX6_from 150 = .ok (.aload_n 0, 1) := by decide +kernel
theorem dX6_from_151 : decode cX6_from 151 = .ok (.getfield 95, 3) := by decide +kernel
theorem dX6_from_154 : decode cX6_from 154 = .ok (.iconst 0, 1) := by decide +kernel
theorem dX6_from_155 : decode cX6_from 155 = .ok (.aload_n 0, 1) := by decide +kernel
theorem dX6_from_156 : decode cX6_from 156 = .ok (.getfield 7, 3) := by decide +kernel
theorem dX6_from_159 : decode cX6_from 159 = .ok (.invokestatic 98, 3) := by decide +kernel
theorem dX6_from_162 : decode cX6_from 162 = .ok (.l2i, 1) := by decide +kernel
theorem dX6_from_163 : decode cX6_from 163 = .ok (.ireturn, 1) := by decide +kernel
theorem dX6_ofWhole_0 : decode cX6_ofWhole 0 = .ok (.aload_n 0, 1) := by decide +kernel
theorem dX6_ofWhole_1 : decode cX6_ofWhole 1 = .ok (.iload_n 1, 1) := by decide +kernel
theorem dX6_ofWhole_2 : decode cX6_ofWhole 2 = .ok (.iconst 0, 1) := by decide +kernel
theorem dX6_ofWhole_3 : decode cX6_ofWhole 3 = .ok (.iconst 4, 1) := by decide +kernel
theorem dX6_ofWhole_4 : decode cX6_ofWhole 4 = .ok (.invokestatic 16, 3) := by decide +kernel
theorem dX6_ofWhole_7 : decode cX6_ofWhole 7 = .ok (.ifCond .eq 17, 3) := by decide +kernel
theorem dX6_ofWhole_10 : decode cX6_ofWhole 10 = .ok (.iload_n 3, 1) := by decide +kernel
theorem dX6_ofWhole_11 : decode cX6_ofWhole 11 = .ok (.iconst 1, 1) := by decide +kernel
theorem dX6_ofWhole_12 : decode cX6_ofWhole 12 = .ok (.bipush 32, 2) := by decide +kernel
theorem dX6_ofWhole_14 : decode cX6_ofWhole 14 = .ok (.invokestatic 16, 3) := by decide +kernel
theorem dX6_ofWhole_17 : decode cX6_ofWhole 17 = .ok (.ifCond .eq 7, 3) := by decide +kernel
theorem dX6_ofWhole_20 : decode cX6_ofWhole 20 = .ok (.iconst 1, 1) := by decide +kernel
theorem dX6_ofWhole_21 : decode cX6_ofWhole 21 = .ok (.goto 4, 3) := by decide +kernel
theorem dX6_ofWhole_24 : decode cX6_ofWhole 24 = .ok (.iconst 0, 1) := by decide +kernel
theorem dX6_ofWhole_25 : decode cX6_ofWhole 25 = .ok (.invokevirtual 38, 3) := by decide +kernel
theorem dX6_ofWhole_28 : decode cX6_ofWhole 28 = .ok (.ifCond .ne 5, 3) := by decide +kernel
theorem dX6_ofWhole_31 : decode cX6_ofWhole 31 = .ok (.iconst 0, 1) := by decide +kernel
theorem dX6_ofWhole_32 : decode cX6_ofWhole 32 = .ok (.ireturn, 1) := by decide +kernel
theorem dX6_ofWhole_33 : decode cX6_ofWhole 33 = .ok (.iload_n 2, 1) := by decide +kernel
theorem dX6_ofWhole_34 : decode cX6_ofWhole 34 = .ok (.i2l, 1) := by decide +kernel
theorem dX6_ofWhole_35 : decode cX6_ofWhole 35 = .ok (.iload_n 3, 1) := by decide +kernel
theorem dX6_ofWhole_36 : decode cX6_ofWhole 36 = .ok (.invokestatic 27, 3) := by decide +kernel
theorem dX6_ofWhole_39 : decode cX6_ofWhole 39 = .ok (.land, 1) := by decide +kernel
theorem dX6_ofWhole_40 : decode cX6_ofWhole 40 = .ok (.lstore 5, 2) := by decide +kernel
theorem dX6_ofWhole_42 : decode cX6_ofWhole 42 = .ok (.iload 4, 2) := by decide +kernel
theorem dX6_ofWhole_44 : decode cX6_ofWhole 44 = .ok (.ifCond .eq 12, 3) := by decide +kernel
theorem dX6_ofWhole_47 : decode cX6_ofWhole 47 = .ok (.lload 5, 2) := by decide +kernel
theorem dX6_ofWhole_49 : decode cX6_ofWhole 49 = .ok (.iload_n 3, 1) := by decide +kernel
theorem dX6_ofWhole_50 : decode cX6_ofWhole 50 = .ok (.invokestatic 102, 3) := by decide +kernel
theorem dX6_ofWhole_53 : decode cX6_ofWhole 53 = .ok (.goto 5, 3) := by decide +kernel
theorem dX6_ofWhole_56 : decode cX6_ofWhole 56 = .ok (.lload 5, 2) := by decide +kernel
theorem dX6_ofWhole_58 : decode cX6_ofWhole 58 = .ok (.lstore 7, 2) := by decide +kernel
theorem dX6_ofWhole_60 : decode cX6_ofWhole 60 = .ok (.lload 7, 2) := by decide +kernel
theorem dX6_ofWhole_62 : decode cX6_ofWhole 62 = .ok (.lconst 0, 1) := by decide +kernel
theorem dX6_ofWhole_63 : decode cX6_ofWhole 63 = .ok (.lcmp, 1) := by decide +kernel
theorem dX6_ofWhole_64 : decode cX6_ofWhole 64 = .ok (.ifCond .ne 7, 3) := by decide +kernel
theorem dX6_ofWhole_67 : decode cX6_ofWhole 67 = .ok (.iconst 0, 1) := by decide +kernel
theorem dX6_ofWhole_68 : decode cX6_ofWhole 68 = .ok (.goto 42, 3) := by decide +kernel
theorem dX6_ofWhole_71 : decode cX6_ofWhole 71 = .ok (.iload_n 1, 1) := by decide +kernel
theorem dX6_ofWhole_72 : decode cX6_ofWhole 72 = .ok (.lload 7, 2) := by decide +kernel
theorem dX6_ofWhole_74 : decode cX6_ofWhole 74 = .ok (.lconst 0, 1) := by decide +kernel
theorem dX6_ofWhole_75 : decode cX6_ofWhole 75 = .ok (.lcmp, 1) := by decide +kernel
theorem dX6_ofWhole_76 : decode cX6_ofWhole 76 = .ok (.ifCond .ge 7, 3) := by decide +kernel
theorem dX6_ofWhole_79 : decode cX6_ofWhole 79 = .ok (.iconst 1, 1) := by decide +kernel
theorem dX6_ofWhole_80 : decode cX6_ofWhole 80 = .ok (.goto 4, 3) := by decide +kernel
theorem dX6_ofWhole_83 : decode cX6_ofWhole 83 = .ok (.iconst 0, 1) := by decide +kernel
theorem dX6_ofWhole_84 : decode cX6_ofWhole 84 = .ok (.lload 7, 2) := by decide +kernel
theorem dX6_ofWhole_86 : decode cX6_ofWhole 86 = .ok (.lconst 0, 1) := by decide +kernel
theorem dX6_ofWhole_87 : decode cX6_ofWhole 87 = .ok (.lcmp, 1) := by decide +kernel
theorem dX6_ofWhole_88 : decode cX6_ofWhole 88 = .ok (.ifCond .ge 10, 3) := by decide +kernel
theorem dX6_ofWhole_91 : decode cX6_ofWhole 91 = .ok (.lconst 0, 1) := by decide +kernel
theorem dX6_ofWhole_92 : decode cX6_ofWhole 92 = .ok (.lload 7, 2) := by decide +kernel
theorem dX6_ofWhole_94 : decode cX6_ofWhole 94 = .ok (.lsub, 1) := by decide +kernel
theorem dX6_ofWhole_95 : decode cX6_ofWhole 95 = .ok (.goto 5, 3) := by decide +kernel
theorem dX6_ofWhole_98 : decode cX6_ofWhole 98 = .ok (.lload 7, 2) := by decide +kernel
theorem dX6_ofWhole_100 : decode cX6_ofWhole 100 = .ok (.iconst 0, 1) := by decide +kernel
theorem dX6_ofWhole_101 : decode cX6_ofWhole 101 = .ok (.iconst 0, 1) := by decide +kernel
theorem dX6_ofWhole_102 : decode cX6_ofWhole 102 = .ok (.aload_n 0, 1) := by decide +kernel
theorem dX6_ofWhole_103 : decode cX6_ofWhole 103 = .ok (.getfield 7, 3) := by decide +kernel
end
section
theorem dX6_ofWhole_106 : decode cX6_ofWhole 106 = .ok (.invokestatic 98, 3) := by decide +kernel
theorem dX6_ofWhole_109 : decode cX6_ofWhole 109 = .ok (.l2i, 1) := by decide +kernel
theorem dX6_ofWhole_110 : decode cX6_ofWhole 110 = .ok (.ireturn, 1) := by decide +kernel
theorem dX6_signed_0 : decode cX6_signed 0 = .ok (.lload_n 0, 1) := by decide +kernel
theorem dX6_signed_1 : decode cX6_signed 1 = .ok (.bipush 64, 2) := by decide +kernel
theorem dX6_signed_3 : decode cX6_signed 3 = .ok (.iload_n 2, 1) := by decide +kernel
theorem dX6_signed_4 : decode cX6_signed 4 = .ok (.isub, 1) := by decide +kernel
theorem dX6_signed_5 : decode cX6_signed 5 = .ok (.lshl, 1) := by decide +kernel
theorem dX6_signed_6 : decode cX6_signed 6 = .ok (.bipush 64, 2) := by decide +kernel
theorem dX6_signed_8 : decode cX6_signed 8 = .ok (.iload_n 2, 1) := by decide +kernel
theorem dX6_signed_9 : decode cX6_signed 9 = .ok (.isub, 1) := by decide +kernel
theorem dX6_signed_10 : decode cX6_signed 10 = .ok (.lshr, 1) := by decide +kernel
theorem dX6_signed_11 : decode cX6_signed 11 = .ok (.lreturn, 1) := by decide +kernel
theorem dX6_toWhole_0 : decode cX6_toWhole 0 = .ok (.aload_n 0, 1) := by decide +kernel
theorem dX6_toWhole_1 : decode cX6_toWhole 1 = .ok (.iload_n 1, 1) := by decide +kernel
theorem dX6_toWhole_2 : decode cX6_toWhole 2 = .ok (.iconst 0, 1) := by decide +kernel
theorem dX6_toWhole_3 : decode cX6_toWhole 3 = .ok (.iconst 4, 1) := by decide +kernel
theorem dX6_toWhole_4 : decode cX6_toWhole 4 = .ok (.invokestatic 16, 3) := by decide +kernel
theorem dX6_toWhole_7 : decode cX6_toWhole 7 = .ok (.ifCond .eq 29, 3) := by decide +kernel
theorem dX6_toWhole_10 : decode cX6_toWhole 10 = .ok (.aload_n 0, 1) := by decide +kernel
theorem dX6_toWhole_11 : decode cX6_toWhole 11 = .ok (.iload_n 2, 1) := by decide +kernel
theorem dX6_toWhole_12 : decode cX6_toWhole 12 = .ok (.aload_n 0, 1) := by decide +kernel
theorem dX6_toWhole_13 : decode cX6_toWhole 13 = .ok (.getfield 7, 3) := by decide +kernel
theorem dX6_toWhole_16 : decode cX6_toWhole 16 = .ok (.invokevirtual 42, 3) := by decide +kernel
theorem dX6_toWhole_19 : decode cX6_toWhole 19 = .ok (.ifCond .eq 17, 3) := by decide +kernel
theorem dX6_toWhole_22 : decode cX6_toWhole 22 = .ok (.iload_n 3, 1) := by decide +kernel
theorem dX6_toWhole_23 : decode cX6_toWhole 23 = .ok (.iconst 1, 1) := by decide +kernel
theorem dX6_toWhole_24 : decode cX6_toWhole 24 = .ok (.bipush 32, 2) := by decide +kernel
theorem dX6_toWhole_26 : decode cX6_toWhole 26 = .ok (.invokestatic 16, 3) := by decide +kernel
theorem dX6_toWhole_29 : decode cX6_toWhole 29 = .ok (.ifCond .eq 7, 3) := by decide +kernel
theorem dX6_toWhole_32 : decode cX6_toWhole 32 = .ok (.iconst 1, 1) := by decide +kernel
theorem dX6_toWhole_33 : decode cX6_toWhole 33 = .ok (.goto 4, 3) := by decide +kernel
theorem dX6_toWhole_36 : decode cX6_toWhole 36 = .ok (.iconst 0, 1) := by decide +kernel
theorem dX6_toWhole_37 : decode cX6_toWhole 37 = .ok (.invokevirtual 38, 3) := by decide +kernel
theorem dX6_toWhole_40 : decode cX6_toWhole 40 = .ok (.ifCond .ne 5, 3) := by decide +kernel
theorem dX6_toWhole_43 : decode cX6_toWhole 43 = .ok (.iconst 0, 1) := by decide +kernel
theorem dX6_toWhole_44 : decode cX6_toWhole 44 = .ok (.ireturn, 1) := by decide +kernel
theorem dX6_toWhole_45 : decode cX6_toWhole 45 = .ok (.aload_n 0, 1) := by decide +kernel
theorem dX6_toWhole_46 : decode cX6_toWhole 46 = .ok (.iload_n 2, 1) := by decide +kernel
theorem dX6_toWhole_47 : decode cX6_toWhole 47 = .ok (.i2l, 1) := by decide +kernel
theorem dX6_toWhole_48 : decode cX6_toWhole 48 = .ok (.aload_n 0, 1) := by decide +kernel
theorem dX6_toWhole_49 : decode cX6_toWhole 49 = .ok (.getfield 7, 3) := by decide +kernel
theorem dX6_toWhole_52 : decode cX6_toWhole 52 = .ok (.invokevirtual 60, 3) := by decide +kernel
theorem dX6_toWhole_55 : decode cX6_toWhole 55 = .ok (.aload_n 0, 1) := by decide +kernel
theorem dX6_toWhole_56 : decode cX6_toWhole 56 = .ok (.getfield 64, 3) := by decide +kernel
theorem dX6_toWhole_59 : decode cX6_toWhole 59 = .ok (.ifCond .ne 10, 3) := by decide +kernel
theorem dX6_toWhole_62 : decode cX6_toWhole 62 = .ok (.aload_n 0, 1) := by decide +kernel
theorem dX6_toWhole_63 : decode cX6_toWhole 63 = .ok (.getfield 85, 3) := by decide +kernel
theorem dX6_toWhole_66 : decode cX6_toWhole 66 = .ok (.ifCond .eq 5, 3) := by decide +kernel
theorem dX6_toWhole_69 : decode cX6_toWhole 69 = .ok (.iconst 0, 1) := by decide +kernel
theorem dX6_toWhole_70 : decode cX6_toWhole 70 = .ok (.ireturn, 1) := by decide +kernel
theorem dX6_toWhole_71 : decode cX6_toWhole 71 = .ok (.aload_n 0, 1) := by decide +kernel
theorem dX6_toWhole_72 : decode cX6_toWhole 72 = .ok (.getfield 95, 3) := by decide +kernel
theorem dX6_toWhole_75 : decode cX6_toWhole 75 = .ok (.ifCond .lt 15, 3) := by decide +kernel
theorem dX6_toWhole_78 : decode cX6_toWhole 78 = .ok (.aload_n 0, 1) := by decide +kernel
theorem dX6_toWhole_79 : decode cX6_toWhole 79 = .ok (.getfield 91, 3) := by decide +kernel
theorem dX6_toWhole_82 : decode cX6_toWhole 82 = .ok (.aload_n 0, 1) := by decide +kernel
theorem dX6_toWhole_83 : decode cX6_toWhole 83 = .ok (.getfield 95, 3) := by decide +kernel
theorem dX6_toWhole_86 : decode cX6_toWhole 86 = .ok (.lshl, 1) := by decide +kernel
theorem dX6_toWhole_87 : decode cX6_toWhole 87 = .ok (.goto 21, 3) := by decide +kernel
theorem dX6_toWhole_90 : decode cX6_toWhole 90 = .ok (.aload_n 0, 1) := by decide +kernel
theorem dX6_toWhole_91 : decode cX6_toWhole 91 = .ok (.getfield 91, 3) := by decide +kernel
theorem dX6_toWhole_94 : decode cX6_toWhole 94 = .ok (.aload_n 0, 1) := by decide +kernel
theorem dX6_toWhole_95 : decode cX6_toWhole 95 = .ok (.getfield 95, 3) := by decide +kernel
theorem dX6_toWhole_98 : decode cX6_toWhole 98 = .ok (.ineg, 1) := by decide +kernel
theorem dX6_toWhole_99 : decode cX6_toWhole 99 = .ok (.iconst 0, 1) := by decide +kernel
theorem dX6_toWhole_100 : decode cX6_toWhole 100 = .ok (.iload_n 1, 1) := by decide +kernel
theorem dX6_toWhole_101 : decode cX6_toWhole 101 = .ok (.aload_n 0, 1) := by decide +kernel
theorem dX6_toWhole_102 : decode cX6_toWhole 102 = .ok (.getfield 88, 3) := by decide +kernel
theorem dX6_toWhole_105 : decode cX6_toWhole 105 = .ok (.invokestatic 105, 3) := by decide +kernel
theorem dX6_toWhole_108 : decode cX6_toWhole 108 = .ok (.lstore 5, 2) := by decide +kernel
theorem dX6_toWhole_110 : decode cX6_toWhole 110 = .ok (.iload 4, 2) := by decide +kernel
theorem dX6_toWhole_112 : decode cX6_toWhole 112 = .ok (.ifCond .eq 12, 3) := by decide +kernel
theorem dX6_toWhole_115 : decode cX6_toWhole 115 = .ok (.iload_n 3, 1) := by decide +kernel
theorem dX6_toWhole_116 : decode cX6_toWhole 116 = .ok (.iconst 1, 1) := by decide +kernel
theorem dX6_toWhole_117 : decode cX6_toWhole 117 = .ok (.isub, 1) := by decide +kernel
theorem dX6_toWhole_118 : decode cX6_toWhole 118 = .ok (.invokestatic 27, 3) := by decide +kernel
theorem dX6_toWhole_121 : decode cX6_toWhole 121 = .ok (.goto 7, 3) := by decide +kernel
theorem dX6_toWhole_124 : decode cX6_toWhole 124 = .ok (.iload_n 3, 1) := by decide +kernel
theorem dX6_toWhole_125 : decode cX6_toWhole 125 = .ok (.invokestatic 27, 3) := by decide +kernel
theorem dX6_toWhole_128 : decode cX6_toWhole 128 = .ok (.lstore 7, 2) := by decide +kernel
theorem dX6_toWhole_130 : decode cX6_toWhole 130 = .ok (.aload_n 0, 1) := by decide +kernel
theorem dX6_toWhole_131 : decode cX6_toWhole 131 = .ok (.getfield 88, 3) := by decide +kernel
theorem dX6_toWhole_134 : decode cX6_toWhole 134 = .ok (.ifCond .eq 31, 3) := by decide +kernel
theorem dX6_toWhole_137 : decode cX6_toWhole 137 = .ok (.iload 4, 2) := by decide +kernel
theorem dX6_toWhole_139 : decode cX6_toWhole 139 = .ok (.ifCond .eq 16, 3) := by decide +kernel
theorem dX6_toWhole_142 : decode cX6_toWhole 142 = .ok (.lload 5, 2) := by decide +kernel
theorem dX6_toWhole_144 : decode cX6_toWhole 144 = .ok (.lload 7, 2) := by decide +kernel
theorem dX6_toWhole_146 : decode cX6_toWhole 146 = .ok (.lconst 1, 1) := by decide +kernel
theorem dX6_toWhole_147 : decode cX6_toWhole 147 = .ok (.ladd, 1) := by decide +kernel
theorem dX6_toWhole_148 : decode cX6_toWhole 148 = .ok (.lcmp, 1) := by decide +kernel
theorem dX6_toWhole_149 : decode cX6_toWhole 149 = .ok (.ifCond .le 26, 3) := by decide +kernel
theorem dX6_toWhole_152 : decode cX6_toWhole 152 = .ok (.goto 21, 3) := by decide +kernel
theorem dX6_toWhole_155 : decode cX6_toWhole 155 = .ok (.lload 5, 2) := by decide +kernel
theorem dX6_toWhole_157 : decode cX6_toWhole 157 = .ok (.lconst 0, 1) := by decide +kernel
theorem dX6_toWhole_158 : decode cX6_toWhole 158 = .ok (.lcmp, 1) := by decide +kernel
theorem dX6_toWhole_159 : decode cX6_toWhole 159 = .ok (.ifCond .eq 16, 3) := by decide +kernel
theorem dX6_toWhole_162 : decode cX6_toWhole 162 = .ok (.goto 11, 3) := by decide +kernel
theorem dX6_toWhole_165 : decode cX6_toWhole 165 = .ok (.lload 5, 2) := by decide +kernel
theorem dX6_toWhole_167 : decode cX6_toWhole 167 = .ok (.lload 7, 2) := by decide +kernel
theorem dX6_toWhole_169 : decode cX6_toWhole 169 = .ok (.lcmp, 1) := by decide +kernel
theorem dX6_toWhole_170 : decode cX6_toWhole 170 = .ok (.ifCond .le 5, 3) := by decide +kernel
theorem dX6_toWhole_173 : decode cX6_toWhole 173 = .ok (.iconst 0, 1) := by decide +kernel
theorem dX6_toWhole_174 : decode cX6_toWhole 174 = .ok (.ireturn, 1) := by decide +kernel
theorem dX6_toWhole_175 : decode cX6_toWhole 175 = .ok (.aload_n 0, 1) := by decide +kernel
theorem dX6_toWhole_176 : decode cX6_toWhole 176 = .ok (.getfield 88, 3) := by decide +kernel
theorem dX6_toWhole_179 : decode cX6_toWhole 179 = .ok (.ifCond .eq 10, 3) := by decide +kernel
theorem dX6_toWhole_182 : decode cX6_toWhole 182 = .ok (.lconst 0, 1) := by decide +kernel
theorem dX6_toWhole_183 : decode cX6_toWhole 183 = .ok (.lload 5, 2) := by decide +kernel
theorem dX6_toWhole_185 : decode cX6_toWhole 185 = .ok (.lsub, 1) := by decide +kernel
theorem dX6_toWhole_186 : decode cX6_toWhole 186 = .ok (.goto 5, 3) := by decide +kernel
theorem dX6_toWhole_189 : decode cX6_toWhole 189 = .ok (.lload 5, 2) := by decide +kernel
theorem dX6_toWhole_191 : decode cX6_toWhole 191 = .ok (.iload_n 3, 1) := by decide +kernel
theorem dX6_toWhole_192 : decode cX6_toWhole 192 = .ok (.invokestatic 27, 3) := by decide +kernel
theorem dX6_toWhole_195 : decode cX6_toWhole 195 = .ok (.land, 1) := by decide +kernel
theorem dX6_toWhole_196 : decode cX6_toWhole 196 = .ok (.l2i, 1) := by decide +kernel
theorem dX6_toWhole_197 : decode cX6_toWhole 197 = .ok (.ireturn, 1) := by decide +kernel
theorem dL_law_0 : decode cL_law 0 = .ok (.new 8, 3) := by decide +kernel
theorem dL_law_3 : decode cL_law 3 = .ok (.dup, 1) := by decide +kernel
theorem dL_law_4 : decode cL_law 4 = .ok (.invokespecial 45, 3) := by decide +kernel
theorem dL_law_7 : decode cL_law 7 = .ok (.astore_n 1, 1) := by decide +kernel
theorem dL_law_8 : decode cL_law 8 = .ok (.new 46, 3) := by decide +kernel
theorem dL_law_11 : decode cL_law 11 = .ok (.dup, 1) := by decide +kernel
theorem dL_law_12 : decode cL_law 12 = .ok (.invokespecial 48, 3) := by decide +kernel
theorem dL_law_15 : decode cL_law 15 = .ok (.astore_n 2, 1) := by decide +kernel
theorem dL_law_16 : decode cL_law 16 = .ok (.iconst 1, 1) := by decide +kernel
theorem dL_law_17 : decode cL_law 17 = .ok (.newarray .long, 2) := by decide +kernel
theorem dL_law_19 : decode cL_law 19 = .ok (.astore_n 3, 1) := by decide +kernel
theorem dL_law_20 : decode cL_law 20 = .ok (.iconst 0, 1) := by decide +kernel
theorem dL_law_21 : decode cL_law 21 = .ok (.istore 4, 2) := by decide +kernel
theorem dL_law_23 : decode cL_law 23 = .ok (.iload 4, 2) := by decide +kernel
theorem dL_law_25 : decode cL_law 25 = .ok (.aload_n 0, 1) := by decide +kernel
theorem dL_law_26 : decode cL_law 26 = .ok (.arraylength, 1) := by decide +kernel
theorem dL_law_27 : decode cL_law 27 = .ok (.iconst 5, 1) := by decide +kernel
theorem dL_law_28 : decode cL_law 28 = .ok (.isub, 1) := by decide +kernel
theorem dL_law_29 : decode cL_law 29 = .ok (.if_icmp .gt 871, 3) := by decide +kernel
theorem dL_law_32 : decode cL_law 32 = .ok (.aload_n 0, 1) := by decide +kernel
theorem dL_law_33 : decode cL_law 33 = .ok (.iload 4, 2) := by decide +kernel
theorem dL_law_35 : decode cL_law 35 = .ok (.iaload, 1) := by decide +kernel
theorem dL_law_36 : decode cL_law 36 = .ok (.bipush 15, 2) := by decide +kernel
theorem dL_law_38 : decode cL_law 38 = .ok (.iand, 1) := by decide +kernel
theorem dL_law_39 : decode cL_law 39 = .ok (.tableswitch 855 0 8 #[49, 117, 209, 289, 385, 472, 547, 639, 747], 49) := by decide +kernel
theorem dL_law_88 : decode cL_law 88 = .ok (.aload_n 1, 1) := by decide +kernel
theorem dL_law_89 : decode cL_law 89 = .ok (.aload_n 0, 1) := by decide +kernel
theorem dL_law_90 : decode cL_law 90 = .ok (.iload 4, 2) := by decide +kernel
theorem dL_law_92 : decode cL_law 92 = .ok (.iconst 1, 1) := by decide +kernel
theorem dL_law_93 : decode cL_law 93 = .ok (.iadd, 1) := by decide +kernel
theorem dL_law_94 : decode cL_law 94 = .ok (.iaload, 1) := by decide +kernel
theorem dL_law_95 : decode cL_law 95 = .ok (.aload_n 0, 1) := by decide +kernel
theorem dL_law_96 : decode cL_law 96 = .ok (.iload 4, 2) := by decide +kernel
theorem dL_law_98 : decode cL_law 98 = .ok (.iconst 2, 1) := by decide +kernel
theorem dL_law_99 : decode cL_law 99 = .ok (.iadd, 1) := by decide +kernel
theorem dL_law_100 : decode cL_law 100 = .ok (.iaload, 1) := by decide +kernel
theorem dL_law_101 : decode cL_law 101 = .ok (.aload_n 3, 1) := by decide +kernel
theorem dL_law_102 : decode cL_law 102 = .ok (.invokestatic 49, 3) := by decide +kernel
theorem dL_law_105 : decode cL_law 105 = .ok (.istore 5, 2) := by decide +kernel
theorem dL_law_107 : decode cL_law 107 = .ok (.aload_n 2, 1) := by decide +kernel
theorem dL_law_108 : decode cL_law 108 = .ok (.aload_n 0, 1) := by decide +kernel
theorem dL_law_109 : decode cL_law 109 = .ok (.iload 4, 2) := by decide +kernel
theorem dL_law_111 : decode cL_law 111 = .ok (.iconst 1, 1) := by decide +kernel
theorem dL_law_112 : decode cL_law 112 = .ok (.iadd, 1) := by decide +kernel
theorem dL_law_113 : decode cL_law 113 = .ok (.iaload, 1) := by decide +kernel
theorem dL_law_114 : decode cL_law 114 = .ok (.aload_n 0, 1) := by decide +kernel
theorem dL_law_115 : decode cL_law 115 = .ok (.iload 4, 2) := by decide +kernel
theorem dL_law_117 : decode cL_law 117 = .ok (.iconst 2, 1) := by decide +kernel
theorem dL_law_118 : decode cL_law 118 = .ok (.iadd, 1) := by decide +kernel
theorem dL_law_119 : decode cL_law 119 = .ok (.iaload, 1) := by decide +kernel
theorem dL_law_120 : decode cL_law 120 = .ok (.invokevirtual 54, 3) := by decide +kernel
theorem dL_law_123 : decode cL_law 123 = .ok (.istore 6, 2) := by decide +kernel
theorem dL_law_125 : decode cL_law 125 = .ok (.aload_n 2, 1) := by decide +kernel
theorem dL_law_126 : decode cL_law 126 = .ok (.invokevirtual 55, 3) := by decide +kernel
theorem dL_law_129 : decode cL_law 129 = .ok (.iload 5, 2) := by decide +kernel
theorem dL_law_131 : decode cL_law 131 = .ok (.if_icmp .eq 5, 3) := by decide +kernel
theorem dL_law_134 : decode cL_law 134 = .ok (.iconst 0, 1) := by decide +kernel
theorem dL_law_135 : decode cL_law 135 = .ok (.ireturn, 1) := by decide +kernel
theorem dL_law_136 : decode cL_law 136 = .ok (.iload 5, 2) := by decide +kernel
theorem dL_law_138 : decode cL_law 138 = .ok (.ifCond .ne 15, 3) := by decide +kernel
theorem dL_law_141 : decode cL_law 141 = .ok (.aload_n 3, 1) := by decide +kernel
theorem dL_law_142 : decode cL_law 142 = .ok (.iconst 0, 1) := by decide +kernel
theorem dL_law_143 : decode cL_law 143 = .ok (.laload, 1) := by decide +kernel
theorem dL_law_144 : decode cL_law 144 = .ok (.iload 6, 2) := by decide +kernel
theorem dL_law_146 : decode cL_law 146 = .ok (.i2l, 1) := by decide +kernel
theorem dL_law_147 : decode cL_law 147 = .ok (.lcmp, 1) := by decide +kernel
theorem dL_law_148 : decode cL_law 148 = .ok (.ifCond .eq 5, 3) := by decide +kernel
theorem dL_law_151 : decode cL_law 151 = .ok (.iconst 0, 1) := by decide +kernel
theorem dL_law_152 : decode cL_law 152 = .ok (.ireturn, 1) := by decide +kernel
theorem dL_law_153 : decode cL_law 153 = .ok (.goto 741, 3) := by decide +kernel
theorem dL_law_156 : decode cL_law 156 = .ok (.aload_n 1, 1) := by decide +kernel
theorem dL_law_157 : decode cL_law 157 = .ok (.aload_n 0, 1) := by decide +kernel
theorem dL_law_158 : decode cL_law 158 = .ok (.iload 4, 2) := by decide +kernel
theorem dL_law_160 : decode cL_law 160 = .ok (.iconst 1, 1) := by decide +kernel
theorem dL_law_161 : decode cL_law 161 = .ok (.iadd, 1) := by decide +kernel
theorem dL_law_162 : decode cL_law 162 = .ok (.iaload, 1) := by decide +kernel
theorem dL_law_163 : decode cL_law 163 = .ok (.aload_n 0, 1) := by decide +kernel
theorem dL_law_164 : decode cL_law 164 = .ok (.iload 4, 2) := by decide +kernel
theorem dL_law_166 : decode cL_law 166 = .ok (.iconst 2, 1) := by decide +kernel
theorem dL_law_167 : decode cL_law 167 = .ok (.iadd, 1) := by decide +kernel
theorem dL_law_168 : decode cL_law 168 = .ok (.iaload, 1) := by decide +kernel
theorem dL_law_169 : decode cL_law 169 = .ok (.aload_n 0, 1) := by decide +kernel
theorem dL_law_170 : decode cL_law 170 = .ok (.iload 4, 2) := by decide +kernel
theorem dL_law_172 : decode cL_law 172 = .ok (.iconst 3, 1) := by decide +kernel
theorem dL_law_173 : decode cL_law 173 = .ok (.iadd, 1) := by decide +kernel
theorem dL_law_174 : decode cL_law 174 = .ok (.iaload, 1) := by decide +kernel
theorem dL_law_175 : decode cL_law 175 = .ok (.aload_n 0, 1) := by decide +kernel
theorem dL_law_176 : decode cL_law 176 = .ok (.iload 4, 2) := by decide +kernel
theorem dL_law_178 : decode cL_law 178 = .ok (.iconst 4, 1) := by decide +kernel
theorem dL_law_179 : decode cL_law 179 = .ok (.iadd, 1) := by decide +kernel
theorem dL_law_180 : decode cL_law 180 = .ok (.iaload, 1) := by decide +kernel
theorem dL_law_181 : decode cL_law 181 = .ok (.aload_n 3, 1) := by decide +kernel
theorem dL_law_182 : decode cL_law 182 = .ok (.invokestatic 59, 3) := by decide +kernel
theorem dL_law_185 : decode cL_law 185 = .ok (.istore 5, 2) := by decide +kernel
theorem dL_law_187 : decode cL_law 187 = .ok (.aload_n 2, 1) := by decide +kernel
theorem dL_law_188 : decode cL_law 188 = .ok (.aload_n 0, 1) := by decide +kernel
theorem dL_law_189 : decode cL_law 189 = .ok (.iload 4, 2) := by decide +kernel
theorem dL_law_191 : decode cL_law 191 = .ok (.iconst 1, 1) := by decide +kernel
theorem dL_law_192 : decode cL_law 192 = .ok (.iadd, 1) := by decide +kernel
theorem dL_law_193 : decode cL_law 193 = .ok (.iaload, 1) := by decide +kernel
theorem dL_law_194 : decode cL_law 194 = .ok (.aload_n 0, 1) := by decide +kernel
theorem dL_law_195 : decode cL_law 195 = .ok (.iload 4, 2) := by decide +kernel
theorem dL_law_197 : decode cL_law 197 = .ok (.iconst 2, 1) := by decide +kernel
theorem dL_law_198 : decode cL_law 198 = .ok (.iadd, 1) := by decide +kernel
theorem dL_law_199 : decode cL_law 199 = .ok (.iaload, 1) := by decide +kernel
theorem dL_law_200 : decode cL_law 200 = .ok (.aload_n 0, 1) := by decide +kernel
theorem dL_law_201 : decode cL_law 201 = .ok (.iload 4, 2) := by decide +kernel
theorem dL_law_203 : decode cL_law 203 = .ok (.iconst 3, 1) := by decide +kernel
theorem dL_law_204 : decode cL_law 204 = .ok (.iadd, 1) := by decide +kernel
theorem dL_law_205 : decode cL_law 205 = .ok (.iaload, 1) := by decide +kernel
theorem dL_law_206 : decode cL_law 206 = .ok (.aload_n 0, 1) := by decide +kernel
theorem dL_law_207 : decode cL_law 207 = .ok (.iload 4, 2) := by decide +kernel
theorem dL_law_209 : decode cL_law 209 = .ok (.iconst 4, 1) := by decide +kernel
theorem dL_law_210 : decode cL_law 210 = .ok (.iadd, 1) := by decide +kernel
theorem dL_law_211 : decode cL_law 211 = .ok (.iaload, 1) := by decide +kernel
theorem dL_law_212 : decode cL_law 212 = .ok (.invokevirtual 62, 3) := by decide +kernel
theorem dL_law_215 : decode cL_law 215 = .ok (.istore 6, 2) := by decide +kernel
theorem dL_law_217 : decode cL_law 217 = .ok (.aload_n 2, 1) := by decide +kernel
theorem dL_law_218 : decode cL_law 218 = .ok (.invokevirtual 55, 3) := by decide +kernel
theorem dL_law_221 : decode cL_law 221 = .ok (.iload 5, 2) := by decide +kernel
theorem dL_law_223 : decode cL_law 223 = .ok (.if_icmp .eq 5, 3) := by decide +kernel
theorem dL_law_226 : decode cL_law 226 = .ok (.iconst 0, 1) := by decide +kernel
theorem dL_law_227 : decode cL_law 227 = .ok (.ireturn, 1) := by decide +kernel
theorem dL_law_228 : decode cL_law 228 = .ok (.iload 5, 2) := by decide +kernel
theorem dL_law_230 : decode cL_law 230 = .ok (.ifCond .ne 15, 3) := by decide +kernel
theorem dL_law_233 : decode cL_law 233 = .ok (.aload_n 3, 1) := by decide +kernel
theorem dL_law_234 : decode cL_law 234 = .ok (.iconst 0, 1) := by decide +kernel
theorem dL_law_235 : decode cL_law 235 = .ok (.laload, 1) := by decide +kernel
theorem dL_law_236 : decode cL_law 236 = .ok (.iload 6, 2) := by decide +kernel
theorem dL_law_238 : decode cL_law 238 = .ok (.i2l, 1) := by decide +kernel
theorem dL_law_239 : decode cL_law 239 = .ok (.lcmp, 1) := by decide +kernel
theorem dL_law_240 : decode cL_law 240 = .ok (.ifCond .eq 5, 3) := by decide +kernel
theorem dL_law_243 : decode cL_law 243 = .ok (.iconst 0, 1) := by decide +kernel
theorem dL_law_244 : decode cL_law 244 = .ok (.ireturn, 1) := by decide +kernel
theorem dL_law_245 : decode cL_law 245 = .ok (.goto 649, 3) := by decide +kernel
theorem dL_law_248 : decode cL_law 248 = .ok (.aload_n 1, 1) := by decide +kernel
theorem dL_law_249 : decode cL_law 249 = .ok (.aload_n 0, 1) := by decide +kernel
theorem dL_law_250 : decode cL_law 250 = .ok (.iload 4, 2) := by decide +kernel
theorem dL_law_252 : decode cL_law 252 = .ok (.iconst 1, 1) := by decide +kernel
theorem dL_law_253 : decode cL_law 253 = .ok (.iadd, 1) := by decide +kernel
theorem dL_law_254 : decode cL_law 254 = .ok (.iaload, 1) := by decide +kernel
theorem dL_law_255 : decode cL_law 255 = .ok (.aload_n 0, 1) := by decide +kernel
theorem dL_law_256 : decode cL_law 256 = .ok (.iload 4, 2) := by decide +kernel
theorem dL_law_258 : decode cL_law 258 = .ok (.iconst 2, 1) := by decide +kernel
theorem dL_law_259 : decode cL_law 259 = .ok (.iadd, 1) := by decide +kernel
theorem dL_law_260 : decode cL_law 260 = .ok (.iaload, 1) := by decide +kernel
theorem dL_law_261 : decode cL_law 261 = .ok (.aload_n 0, 1) := by decide +kernel
theorem dL_law_262 : decode cL_law 262 = .ok (.iload 4, 2) := by decide +kernel
theorem dL_law_264 : decode cL_law 264 = .ok (.iconst 3, 1) := by decide +kernel
theorem dL_law_265 : decode cL_law 265 = .ok (.iadd, 1) := by decide +kernel
theorem dL_law_266 : decode cL_law 266 = .ok (.iaload, 1) := by decide +kernel
theorem dL_law_267 : decode cL_law 267 = .ok (.aload_n 3, 1) := by decide +kernel
theorem dL_law_268 : decode cL_law 268 = .ok (.invokestatic 63, 3) := by decide +kernel
theorem dL_law_271 : decode cL_law 271 = .ok (.istore 5, 2) := by decide +kernel
theorem dL_law_273 : decode cL_law 273 = .ok (.aload_n 2, 1) := by decide +kernel
theorem dL_law_274 : decode cL_law 274 = .ok (.aload_n 0, 1) := by decide +kernel
theorem dL_law_275 : decode cL_law 275 = .ok (.iload 4, 2) := by decide +kernel
theorem dL_law_277 : decode cL_law 277 = .ok (.iconst 1, 1) := by decide +kernel
theorem dL_law_278 : decode cL_law 278 = .ok (.iadd, 1) := by decide +kernel
theorem dL_law_279 : decode cL_law 279 = .ok (.iaload, 1) := by decide +kernel
theorem dL_law_280 : decode cL_law 280 = .ok (.aload_n 0, 1) := by decide +kernel
theorem dL_law_281 : decode cL_law 281 = .ok (.iload 4, 2) := by decide +kernel
theorem dL_law_283 : decode cL_law 283 = .ok (.iconst 2, 1) := by decide +kernel
theorem dL_law_284 : decode cL_law 284 = .ok (.iadd, 1) := by decide +kernel
theorem dL_law_285 : decode cL_law 285 = .ok (.iaload, 1) := by decide +kernel
theorem dL_law_286 : decode cL_law 286 = .ok (.aload_n 0, 1) := by decide +kernel
theorem dL_law_287 : decode cL_law 287 = .ok (.iload 4, 2) := by decide +kernel
theorem dL_law_289 : decode cL_law 289 = .ok (.iconst 3, 1) := by decide +kernel
theorem dL_law_290 : decode cL_law 290 = .ok (.iadd, 1) := by decide +kernel
theorem dL_law_291 : decode cL_law 291 = .ok (.iaload, 1) := by decide +kernel
theorem dL_law_292 : decode cL_law 292 = .ok (.invokevirtual 66, 3) := by decide +kernel
theorem dL_law_295 : decode cL_law 295 = .ok (.istore 6, 2) := by decide +kernel
theorem dL_law_297 : decode cL_law 297 = .ok (.aload_n 2, 1) := by decide +kernel
theorem dL_law_298 : decode cL_law 298 = .ok (.invokevirtual 55, 3) := by decide +kernel
theorem dL_law_301 : decode cL_law 301 = .ok (.iload 5, 2) := by decide +kernel
theorem dL_law_303 : decode cL_law 303 = .ok (.if_icmp .eq 5, 3) := by decide +kernel
theorem dL_law_306 : decode cL_law 306 = .ok (.iconst 0, 1) := by decide +kernel
theorem dL_law_307 : decode cL_law 307 = .ok (.ireturn, 1) := by decide +kernel
theorem dL_law_308 : decode cL_law 308 = .ok (.iload 5, 2) := by decide +kernel
theorem dL_law_310 : decode cL_law 310 = .ok (.ifCond .ne 15, 3) := by decide +kernel
theorem dL_law_313 : decode cL_law 313 = .ok (.aload_n 3, 1) := by decide +kernel
theorem dL_law_314 : decode cL_law 314 = .ok (.iconst 0, 1) := by decide +kernel
theorem dL_law_315 : decode cL_law 315 = .ok (.laload, 1) := by decide +kernel
theorem dL_law_316 : decode cL_law 316 = .ok (.iload 6, 2) := by decide +kernel
theorem dL_law_318 : decode cL_law 318 = .ok (.i2l, 1) := by decide +kernel
theorem dL_law_319 : decode cL_law 319 = .ok (.lcmp, 1) := by decide +kernel
theorem dL_law_320 : decode cL_law 320 = .ok (.ifCond .eq 5, 3) := by decide +kernel
theorem dL_law_323 : decode cL_law 323 = .ok (.iconst 0, 1) := by decide +kernel
theorem dL_law_324 : decode cL_law 324 = .ok (.ireturn, 1) := by decide +kernel
theorem dL_law_325 : decode cL_law 325 = .ok (.goto 569, 3) := by decide +kernel
theorem dL_law_328 : decode cL_law 328 = .ok (.aload_n 1, 1) := by decide +kernel
theorem dL_law_329 : decode cL_law 329 = .ok (.aload_n 0, 1) := by decide +kernel
theorem dL_law_330 : decode cL_law 330 = .ok (.iload 4, 2) := by decide +kernel
theorem dL_law_332 : decode cL_law 332 = .ok (.iconst 1, 1) := by decide +kernel
theorem dL_law_333 : decode cL_law 333 = .ok (.iadd, 1) := by decide +kernel
theorem dL_law_334 : decode cL_law 334 = .ok (.iaload, 1) := by decide +kernel
theorem dL_law_335 : decode cL_law 335 = .ok (.aload_n 0, 1) := by decide +kernel
theorem dL_law_336 : decode cL_law 336 = .ok (.iload 4, 2) := by decide +kernel
theorem dL_law_338 : decode cL_law 338 = .ok (.iconst 2, 1) := by decide +kernel
theorem dL_law_339 : decode cL_law 339 = .ok (.iadd, 1) := by decide +kernel
theorem dL_law_340 : decode cL_law 340 = .ok (.iaload, 1) := by decide +kernel
theorem dL_law_341 : decode cL_law 341 = .ok (.aload_n 0, 1) := by decide +kernel
theorem dL_law_342 : decode cL_law 342 = .ok (.iload 4, 2) := by decide +kernel
theorem dL_law_344 : decode cL_law 344 = .ok (.iconst 3, 1) := by decide +kernel
theorem dL_law_345 : decode cL_law 345 = .ok (.iadd, 1) := by decide +kernel
theorem dL_law_346 : decode cL_law 346 = .ok (.iaload, 1) := by decide +kernel
theorem dL_law_347 : decode cL_law 347 = .ok (.ifCond .eq 7, 3) := by decide +kernel
theorem dL_law_350 : decode cL_law 350 = .ok (.iconst 1, 1) := by decide +kernel
theorem dL_law_351 : decode cL_law 351 = .ok (.goto 4, 3) := by decide +kernel
theorem dL_law_354 : decode cL_law 354 = .ok (.iconst 0, 1) := by decide +kernel
theorem dL_law_355 : decode cL_law 355 = .ok (.aload_n 3, 1) := by decide +kernel
theorem dL_law_356 : decode cL_law 356 = .ok (.invokestatic 67, 3) := by decide +kernel
theorem dL_law_359 : decode cL_law 359 = .ok (.istore 5, 2) := by decide +kernel
theorem dL_law_361 : decode cL_law 361 = .ok (.aload_n 2, 1) := by decide +kernel
theorem dL_law_362 : decode cL_law 362 = .ok (.aload_n 0, 1) := by decide +kernel
theorem dL_law_363 : decode cL_law 363 = .ok (.iload 4, 2) := by decide +kernel
theorem dL_law_365 : decode cL_law 365 = .ok (.iconst 1, 1) := by decide +kernel
theorem dL_law_366 : decode cL_law 366 = .ok (.iadd, 1) := by decide +kernel
theorem dL_law_367 : decode cL_law 367 = .ok (.iaload, 1) := by decide +kernel
theorem dL_law_368 : decode cL_law 368 = .ok (.aload_n 0, 1) := by decide +kernel
theorem dL_law_369 : decode cL_law 369 = .ok (.iload 4, 2) := by decide +kernel
theorem dL_law_371 : decode cL_law 371 = .ok (.iconst 2, 1) := by decide +kernel
theorem dL_law_372 : decode cL_law 372 = .ok (.iadd, 1) := by decide +kernel
theorem dL_law_373 : decode cL_law 373 = .ok (.iaload, 1) := by decide +kernel
theorem dL_law_374 : decode cL_law 374 = .ok (.aload_n 0, 1) := by decide +kernel
theorem dL_law_375 : decode cL_law 375 = .ok (.iload 4, 2) := by decide +kernel
theorem dL_law_377 : decode cL_law 377 = .ok (.iconst 3, 1) := by decide +kernel
theorem dL_law_378 : decode cL_law 378 = .ok (.iadd, 1) := by decide +kernel
theorem dL_law_379 : decode cL_law 379 = .ok (.iaload, 1) := by decide +kernel
theorem dL_law_380 : decode cL_law 380 = .ok (.ifCond .eq 7, 3) := by decide +kernel
theorem dL_law_383 : decode cL_law 383 = .ok (.iconst 1, 1) := by decide +kernel
theorem dL_law_384 : decode cL_law 384 = .ok (.goto 4, 3) := by decide +kernel
theorem dL_law_387 : decode cL_law 387 = .ok (.iconst 0, 1) := by decide +kernel
theorem dL_law_388 : decode cL_law 388 = .ok (.invokevirtual 70, 3) := by decide +kernel
theorem dL_law_391 : decode cL_law 391 = .ok (.istore 6, 2) := by decide +kernel
theorem dL_law_393 : decode cL_law 393 = .ok (.aload_n 2, 1) := by decide +kernel
theorem dL_law_394 : decode cL_law 394 = .ok (.invokevirtual 55, 3) := by decide +kernel
theorem dL_law_397 : decode cL_law 397 = .ok (.iload 5, 2) := by decide +kernel
theorem dL_law_399 : decode cL_law 399 = .ok (.if_icmp .eq 5, 3) := by decide +kernel
theorem dL_law_402 : decode cL_law 402 = .ok (.iconst 0, 1) := by decide +kernel
theorem dL_law_403 : decode cL_law 403 = .ok (.ireturn, 1) := by decide +kernel
theorem dL_law_404 : decode cL_law 404 = .ok (.iload 5, 2) := by decide +kernel
theorem dL_law_406 : decode cL_law 406 = .ok (.ifCond .ne 15, 3) := by decide +kernel
theorem dL_law_409 : decode cL_law 409 = .ok (.aload_n 3, 1) := by decide +kernel
theorem dL_law_410 : decode cL_law 410 = .ok (.iconst 0, 1) := by decide +kernel
theorem dL_law_411 : decode cL_law 411 = .ok (.laload, 1) := by decide +kernel
theorem dL_law_412 : decode cL_law 412 = .ok (.iload 6, 2) := by decide +kernel
theorem dL_law_414 : decode cL_law 414 = .ok (.i2l, 1) := by decide +kernel
theorem dL_law_415 : decode cL_law 415 = .ok (.lcmp, 1) := by decide +kernel
theorem dL_law_416 : decode cL_law 416 = .ok (.ifCond .eq 5, 3) := by decide +kernel
theorem dL_law_419 : decode cL_law 419 = .ok (.iconst 0, 1) := by decide +kernel
theorem dL_law_420 : decode cL_law 420 = .ok (.ireturn, 1) := by decide +kernel
theorem dL_law_421 : decode cL_law 421 = .ok (.goto 473, 3) := by decide +kernel
theorem dL_law_424 : decode cL_law 424 = .ok (.aload_n 1, 1) := by decide +kernel
theorem dL_law_425 : decode cL_law 425 = .ok (.aload_n 0, 1) := by decide +kernel
theorem dL_law_426 : decode cL_law 426 = .ok (.iload 4, 2) := by decide +kernel
theorem dL_law_428 : decode cL_law 428 = .ok (.iconst 1, 1) := by decide +kernel
theorem dL_law_429 : decode cL_law 429 = .ok (.iadd, 1) := by decide +kernel
theorem dL_law_430 : decode cL_law 430 = .ok (.iaload, 1) := by decide +kernel
theorem dL_law_431 : decode cL_law 431 = .ok (.aload_n 0, 1) := by decide +kernel
theorem dL_law_432 : decode cL_law 432 = .ok (.iload 4, 2) := by decide +kernel
theorem dL_law_434 : decode cL_law 434 = .ok (.iconst 2, 1) := by decide +kernel
theorem dL_law_435 : decode cL_law 435 = .ok (.iadd, 1) := by decide +kernel
theorem dL_law_436 : decode cL_law 436 = .ok (.iaload, 1) := by decide +kernel
theorem dL_law_437 : decode cL_law 437 = .ok (.aload_n 0, 1) := by decide +kernel
theorem dL_law_438 : decode cL_law 438 = .ok (.iload 4, 2) := by decide +kernel
theorem dL_law_440 : decode cL_law 440 = .ok (.iconst 3, 1) := by decide +kernel
theorem dL_law_441 : decode cL_law 441 = .ok (.iadd, 1) := by decide +kernel
theorem dL_law_442 : decode cL_law 442 = .ok (.iaload, 1) := by decide +kernel
theorem dL_law_443 : decode cL_law 443 = .ok (.aload_n 3, 1) := by decide +kernel
theorem dL_law_444 : decode cL_law 444 = .ok (.invokestatic 71, 3) := by decide +kernel
theorem dL_law_447 : decode cL_law 447 = .ok (.istore 5, 2) := by decide +kernel
theorem dL_law_449 : decode cL_law 449 = .ok (.aload_n 2, 1) := by decide +kernel
theorem dL_law_450 : decode cL_law 450 = .ok (.aload_n 0, 1) := by decide +kernel
theorem dL_law_451 : decode cL_law 451 = .ok (.iload 4, 2) := by decide +kernel
theorem dL_law_453 : decode cL_law 453 = .ok (.iconst 1, 1) := by decide +kernel
theorem dL_law_454 : decode cL_law 454 = .ok (.iadd, 1) := by decide +kernel
theorem dL_law_455 : decode cL_law 455 = .ok (.iaload, 1) := by decide +kernel
theorem dL_law_456 : decode cL_law 456 = .ok (.aload_n 0, 1) := by decide +kernel
theorem dL_law_457 : decode cL_law 457 = .ok (.iload 4, 2) := by decide +kernel
theorem dL_law_459 : decode cL_law 459 = .ok (.iconst 2, 1) := by decide +kernel
theorem dL_law_460 : decode cL_law 460 = .ok (.iadd, 1) := by decide +kernel
theorem dL_law_461 : decode cL_law 461 = .ok (.iaload, 1) := by decide +kernel
theorem dL_law_462 : decode cL_law 462 = .ok (.aload_n 0, 1) := by decide +kernel
theorem dL_law_463 : decode cL_law 463 = .ok (.iload 4, 2) := by decide +kernel
theorem dL_law_465 : decode cL_law 465 = .ok (.iconst 3, 1) := by decide +kernel
theorem dL_law_466 : decode cL_law 466 = .ok (.iadd, 1) := by decide +kernel
theorem dL_law_467 : decode cL_law 467 = .ok (.iaload, 1) := by decide +kernel
theorem dL_law_468 : decode cL_law 468 = .ok (.invokevirtual 73, 3) := by decide +kernel
theorem dL_law_471 : decode cL_law 471 = .ok (.istore 6, 2) := by decide +kernel
theorem dL_law_473 : decode cL_law 473 = .ok (.aload_n 2, 1) := by decide +kernel
theorem dL_law_474 : decode cL_law 474 = .ok (.invokevirtual 55, 3) := by decide +kernel
theorem dL_law_477 : decode cL_law 477 = .ok (.iload 5, 2) := by decide +kernel
theorem dL_law_479 : decode cL_law 479 = .ok (.if_icmp .eq 5, 3) := by decide +kernel
theorem dL_law_482 : decode cL_law 482 = .ok (.iconst 0, 1) := by decide +kernel
theorem dL_law_483 : decode cL_law 483 = .ok (.ireturn, 1) := by decide +kernel
theorem dL_law_484 : decode cL_law 484 = .ok (.iload 5, 2) := by decide +kernel
theorem dL_law_486 : decode cL_law 486 = .ok (.ifCond .ne 22, 3) := by decide +kernel
theorem dL_law_489 : decode cL_law 489 = .ok (.aload_n 3, 1) := by decide +kernel
theorem dL_law_490 : decode cL_law 490 = .ok (.iconst 0, 1) := by decide +kernel
theorem dL_law_491 : decode cL_law 491 = .ok (.laload, 1) := by decide +kernel
theorem dL_law_492 : decode cL_law 492 = .ok (.iload 6, 2) := by decide +kernel
theorem dL_law_494 : decode cL_law 494 = .ok (.ifCond .eq 7, 3) := by decide +kernel
theorem dL_law_497 : decode cL_law 497 = .ok (.lconst 1, 1) := by decide +kernel
theorem dL_law_498 : decode cL_law 498 = .ok (.goto 4, 3) := by decide +kernel
theorem dL_law_501 : decode cL_law 501 = .ok (.lconst 0, 1) := by decide +kernel
theorem dL_law_502 : decode cL_law 502 = .ok (.lcmp, 1) := by decide +kernel
theorem dL_law_503 : decode cL_law 503 = .ok (.ifCond .eq 5, 3) := by decide +kernel
theorem dL_law_506 : decode cL_law 506 = .ok (.iconst 0, 1) := by decide +kernel
theorem dL_law_507 : decode cL_law 507 = .ok (.ireturn, 1) := by decide +kernel
theorem dL_law_508 : decode cL_law 508 = .ok (.goto 386, 3) := by decide +kernel
theorem dL_law_511 : decode cL_law 511 = .ok (.aload_n 1, 1) := by decide +kernel
theorem dL_law_512 : decode cL_law 512 = .ok (.aload_n 0, 1) := by decide +kernel
theorem dL_law_513 : decode cL_law 513 = .ok (.iload 4, 2) := by decide +kernel
theorem dL_law_515 : decode cL_law 515 = .ok (.iconst 1, 1) := by decide +kernel
theorem dL_law_516 : decode cL_law 516 = .ok (.iadd, 1) := by decide +kernel
theorem dL_law_517 : decode cL_law 517 = .ok (.iaload, 1) := by decide +kernel
theorem dL_law_518 : decode cL_law 518 = .ok (.aload_n 0, 1) := by decide +kernel
theorem dL_law_519 : decode cL_law 519 = .ok (.iload 4, 2) := by decide +kernel
theorem dL_law_521 : decode cL_law 521 = .ok (.iconst 2, 1) := by decide +kernel
theorem dL_law_522 : decode cL_law 522 = .ok (.iadd, 1) := by decide +kernel
theorem dL_law_523 : decode cL_law 523 = .ok (.iaload, 1) := by decide +kernel
theorem dL_law_524 : decode cL_law 524 = .ok (.aload_n 3, 1) := by decide +kernel
theorem dL_law_525 : decode cL_law 525 = .ok (.invokestatic 74, 3) := by decide +kernel
theorem dL_law_528 : decode cL_law 528 = .ok (.istore 5, 2) := by decide +kernel
theorem dL_law_530 : decode cL_law 530 = .ok (.aload_n 2, 1) := by decide +kernel
theorem dL_law_531 : decode cL_law 531 = .ok (.aload_n 0, 1) := by decide +kernel
theorem dL_law_532 : decode cL_law 532 = .ok (.iload 4, 2) := by decide +kernel
theorem dL_law_534 : decode cL_law 534 = .ok (.iconst 1, 1) := by decide +kernel
theorem dL_law_535 : decode cL_law 535 = .ok (.iadd, 1) := by decide +kernel
theorem dL_law_536 : decode cL_law 536 = .ok (.iaload, 1) := by decide +kernel
theorem dL_law_537 : decode cL_law 537 = .ok (.aload_n 0, 1) := by decide +kernel
theorem dL_law_538 : decode cL_law 538 = .ok (.iload 4, 2) := by decide +kernel
end
section
theorem dL_law_540 : decode cL_law 540 = .ok (.iconst 2, 1) := by decide +kernel
theorem dL_law_541 : decode cL_law 541 = .ok (.iadd, 1) := by decide +kernel
theorem dL_law_542 : decode cL_law 542 = .ok (.iaload, 1) := by decide +kernel
theorem dL_law_543 : decode cL_law 543 = .ok (.invokevirtual 76, 3) := by decide +kernel
theorem dL_law_546 : decode cL_law 546 = .ok (.istore 6, 2) := by decide +kernel
theorem dL_law_548 : decode cL_law 548 = .ok (.aload_n 2, 1) := by decide +kernel
theorem dL_law_549 : decode cL_law 549 = .ok (.invokevirtual 55, 3) := by decide +kernel
theorem dL_law_552 : decode cL_law 552 = .ok (.iload 5, 2) := by decide +kernel
theorem dL_law_554 : decode cL_law 554 = .ok (.if_icmp .eq 5, 3) := by decide +kernel
theorem dL_law_557 : decode cL_law 557 = .ok (.iconst 0, 1) := by decide +kernel
theorem dL_law_558 : decode cL_law 558 = .ok (.ireturn, 1) := by decide +kernel
theorem dL_law_559 : decode cL_law 559 = .ok (.iload 5, 2) := by decide +kernel
theorem dL_law_561 : decode cL_law 561 = .ok (.ifCond .ne 22, 3) := by decide +kernel
theorem dL_law_564 : decode cL_law 564 = .ok (.aload_n 3, 1) := by decide +kernel
theorem dL_law_565 : decode cL_law 565 = .ok (.iconst 0, 1) := by decide +kernel
theorem dL_law_566 : decode cL_law 566 = .ok (.laload, 1) := by decide +kernel
theorem dL_law_567 : decode cL_law 567 = .ok (.iload 6, 2) := by decide +kernel
theorem dL_law_569 : decode cL_law 569 = .ok (.ifCond .eq 7, 3) := by decide +kernel
theorem dL_law_572 : decode cL_law 572 = .ok (.lconst 1, 1) := by decide +kernel
theorem dL_law_573 : decode cL_law 573 = .ok (.goto 4, 3) := by decide +kernel
theorem dL_law_576 : decode cL_law 576 = .ok (.lconst 0, 1) := by decide +kernel
theorem dL_law_577 : decode cL_law 577 = .ok (.lcmp, 1) := by decide +kernel
theorem dL_law_578 : decode cL_law 578 = .ok (.ifCond .eq 5, 3) := by decide +kernel
theorem dL_law_581 : decode cL_law 581 = .ok (.iconst 0, 1) := by decide +kernel
theorem dL_law_582 : decode cL_law 582 = .ok (.ireturn, 1) := by decide +kernel
theorem dL_law_583 : decode cL_law 583 = .ok (.goto 311, 3) := by decide +kernel
theorem dL_law_586 : decode cL_law 586 = .ok (.aload_n 1, 1) := by decide +kernel
theorem dL_law_587 : decode cL_law 587 = .ok (.aload_n 0, 1) := by decide +kernel
theorem dL_law_588 : decode cL_law 588 = .ok (.iload 4, 2) := by decide +kernel
theorem dL_law_590 : decode cL_law 590 = .ok (.iconst 1, 1) := by decide +kernel
theorem dL_law_591 : decode cL_law 591 = .ok (.iadd, 1) := by decide +kernel
theorem dL_law_592 : decode cL_law 592 = .ok (.iaload, 1) := by decide +kernel
theorem dL_law_593 : decode cL_law 593 = .ok (.aload_n 0, 1) := by decide +kernel
theorem dL_law_594 : decode cL_law 594 = .ok (.iload 4, 2) := by decide +kernel
theorem dL_law_596 : decode cL_law 596 = .ok (.iconst 2, 1) := by decide +kernel
theorem dL_law_597 : decode cL_law 597 = .ok (.iadd, 1) := by decide +kernel
theorem dL_law_598 : decode cL_law 598 = .ok (.iaload, 1) := by decide +kernel
theorem dL_law_599 : decode cL_law 599 = .ok (.aload_n 0, 1) := by decide +kernel
theorem dL_law_600 : decode cL_law 600 = .ok (.iload 4, 2) := by decide +kernel
theorem dL_law_602 : decode cL_law 602 = .ok (.iconst 3, 1) := by decide +kernel
theorem dL_law_603 : decode cL_law 603 = .ok (.iadd, 1) := by decide +kernel
theorem dL_law_604 : decode cL_law 604 = .ok (.iaload, 1) := by decide +kernel
theorem dL_law_605 : decode cL_law 605 = .ok (.aload_n 0, 1) := by decide +kernel
theorem dL_law_606 : decode cL_law 606 = .ok (.iload 4, 2) := by decide +kernel
theorem dL_law_608 : decode cL_law 608 = .ok (.iconst 4, 1) := by decide +kernel
theorem dL_law_609 : decode cL_law 609 = .ok (.iadd, 1) := by decide +kernel
theorem dL_law_610 : decode cL_law 610 = .ok (.iaload, 1) := by decide +kernel
theorem dL_law_611 : decode cL_law 611 = .ok (.aload_n 3, 1) := by decide +kernel
theorem dL_law_612 : decode cL_law 612 = .ok (.invokestatic 77, 3) := by decide +kernel
theorem dL_law_615 : decode cL_law 615 = .ok (.istore 5, 2) := by decide +kernel
theorem dL_law_617 : decode cL_law 617 = .ok (.aload_n 2, 1) := by decide +kernel
theorem dL_law_618 : decode cL_law 618 = .ok (.aload_n 0, 1) := by decide +kernel
theorem dL_law_619 : decode cL_law 619 = .ok (.iload 4, 2) := by decide +kernel
theorem dL_law_621 : decode cL_law 621 = .ok (.iconst 1, 1) := by decide +kernel
theorem dL_law_622 : decode cL_law 622 = .ok (.iadd, 1) := by decide +kernel
theorem dL_law_623 : decode cL_law 623 = .ok (.iaload, 1) := by decide +kernel
theorem dL_law_624 : decode cL_law 624 = .ok (.aload_n 0, 1) := by decide +kernel
theorem dL_law_625 : decode cL_law 625 = .ok (.iload 4, 2) := by decide +kernel
theorem dL_law_627 : decode cL_law 627 = .ok (.iconst 2, 1) := by decide +kernel
theorem dL_law_628 : decode cL_law 628 = .ok (.iadd, 1) := by decide +kernel
theorem dL_law_629 : decode cL_law 629 = .ok (.iaload, 1) := by decide +kernel
theorem dL_law_630 : decode cL_law 630 = .ok (.aload_n 0, 1) := by decide +kernel
theorem dL_law_631 : decode cL_law 631 = .ok (.iload 4, 2) := by decide +kernel
theorem dL_law_633 : decode cL_law 633 = .ok (.iconst 3, 1) := by decide +kernel
theorem dL_law_634 : decode cL_law 634 = .ok (.iadd, 1) := by decide +kernel
theorem dL_law_635 : decode cL_law 635 = .ok (.iaload, 1) := by decide +kernel
theorem dL_law_636 : decode cL_law 636 = .ok (.aload_n 0, 1) := by decide +kernel
theorem dL_law_637 : decode cL_law 637 = .ok (.iload 4, 2) := by decide +kernel
theorem dL_law_639 : decode cL_law 639 = .ok (.iconst 4, 1) := by decide +kernel
theorem dL_law_640 : decode cL_law 640 = .ok (.iadd, 1) := by decide +kernel
theorem dL_law_641 : decode cL_law 641 = .ok (.iaload, 1) := by decide +kernel
theorem dL_law_642 : decode cL_law 642 = .ok (.invokevirtual 79, 3) := by decide +kernel
theorem dL_law_645 : decode cL_law 645 = .ok (.istore 6, 2) := by decide +kernel
theorem dL_law_647 : decode cL_law 647 = .ok (.aload_n 2, 1) := by decide +kernel
theorem dL_law_648 : decode cL_law 648 = .ok (.invokevirtual 55, 3) := by decide +kernel
theorem dL_law_651 : decode cL_law 651 = .ok (.iload 5, 2) := by decide +kernel
theorem dL_law_653 : decode cL_law 653 = .ok (.if_icmp .eq 5, 3) := by decide +kernel
theorem dL_law_656 : decode cL_law 656 = .ok (.iconst 0, 1) := by decide +kernel
theorem dL_law_657 : decode cL_law 657 = .ok (.ireturn, 1) := by decide +kernel
theorem dL_law_658 : decode cL_law 658 = .ok (.iload 5, 2) := by decide +kernel
theorem dL_law_660 : decode cL_law 660 = .ok (.ifCond .ne 15, 3) := by decide +kernel
theorem dL_law_663 : decode cL_law 663 = .ok (.aload_n 3, 1) := by decide +kernel
theorem dL_law_664 : decode cL_law 664 = .ok (.iconst 0, 1) := by decide +kernel
theorem dL_law_665 : decode cL_law 665 = .ok (.laload, 1) := by decide +kernel
theorem dL_law_666 : decode cL_law 666 = .ok (.iload 6, 2) := by decide +kernel
theorem dL_law_668 : decode cL_law 668 = .ok (.i2l, 1) := by decide +kernel
theorem dL_law_669 : decode cL_law 669 = .ok (.lcmp, 1) := by decide +kernel
theorem dL_law_670 : decode cL_law 670 = .ok (.ifCond .eq 5, 3) := by decide +kernel
theorem dL_law_673 : decode cL_law 673 = .ok (.iconst 0, 1) := by decide +kernel
theorem dL_law_674 : decode cL_law 674 = .ok (.ireturn, 1) := by decide +kernel
theorem dL_law_675 : decode cL_law 675 = .ok (.goto 219, 3) := by decide +kernel
theorem dL_law_678 : decode cL_law 678 = .ok (.aload_n 1, 1) := by decide +kernel
theorem dL_law_679 : decode cL_law 679 = .ok (.aload_n 0, 1) := by decide +kernel
theorem dL_law_680 : decode cL_law 680 = .ok (.iload 4, 2) := by decide +kernel
theorem dL_law_682 : decode cL_law 682 = .ok (.iconst 1, 1) := by decide +kernel
theorem dL_law_683 : decode cL_law 683 = .ok (.iadd, 1) := by decide +kernel
theorem dL_law_684 : decode cL_law 684 = .ok (.iaload, 1) := by decide +kernel
theorem dL_law_685 : decode cL_law 685 = .ok (.aload_n 0, 1) := by decide +kernel
theorem dL_law_686 : decode cL_law 686 = .ok (.iload 4, 2) := by decide +kernel
theorem dL_law_688 : decode cL_law 688 = .ok (.iconst 2, 1) := by decide +kernel
theorem dL_law_689 : decode cL_law 689 = .ok (.iadd, 1) := by decide +kernel
theorem dL_law_690 : decode cL_law 690 = .ok (.iaload, 1) := by decide +kernel
theorem dL_law_691 : decode cL_law 691 = .ok (.aload_n 0, 1) := by decide +kernel
theorem dL_law_692 : decode cL_law 692 = .ok (.iload 4, 2) := by decide +kernel
theorem dL_law_694 : decode cL_law 694 = .ok (.iconst 3, 1) := by decide +kernel
theorem dL_law_695 : decode cL_law 695 = .ok (.iadd, 1) := by decide +kernel
theorem dL_law_696 : decode cL_law 696 = .ok (.iaload, 1) := by decide +kernel
theorem dL_law_697 : decode cL_law 697 = .ok (.aload_n 0, 1) := by decide +kernel
theorem dL_law_698 : decode cL_law 698 = .ok (.iload 4, 2) := by decide +kernel
theorem dL_law_700 : decode cL_law 700 = .ok (.iconst 4, 1) := by decide +kernel
theorem dL_law_701 : decode cL_law 701 = .ok (.iadd, 1) := by decide +kernel
theorem dL_law_702 : decode cL_law 702 = .ok (.iaload, 1) := by decide +kernel
theorem dL_law_703 : decode cL_law 703 = .ok (.ifCond .eq 7, 3) := by decide +kernel
theorem dL_law_706 : decode cL_law 706 = .ok (.iconst 1, 1) := by decide +kernel
theorem dL_law_707 : decode cL_law 707 = .ok (.goto 4, 3) := by decide +kernel
theorem dL_law_710 : decode cL_law 710 = .ok (.iconst 0, 1) := by decide +kernel
theorem dL_law_711 : decode cL_law 711 = .ok (.aload_n 3, 1) := by decide +kernel
theorem dL_law_712 : decode cL_law 712 = .ok (.invokestatic 80, 3) := by decide +kernel
theorem dL_law_715 : decode cL_law 715 = .ok (.istore 5, 2) := by decide +kernel
theorem dL_law_717 : decode cL_law 717 = .ok (.aload_n 2, 1) := by decide +kernel
theorem dL_law_718 : decode cL_law 718 = .ok (.aload_n 0, 1) := by decide +kernel
theorem dL_law_719 : decode cL_law 719 = .ok (.iload 4, 2) := by decide +kernel
theorem dL_law_721 : decode cL_law 721 = .ok (.iconst 1, 1) := by decide +kernel
theorem dL_law_722 : decode cL_law 722 = .ok (.iadd, 1) := by decide +kernel
theorem dL_law_723 : decode cL_law 723 = .ok (.iaload, 1) := by decide +kernel
theorem dL_law_724 : decode cL_law 724 = .ok (.aload_n 0, 1) := by decide +kernel
theorem dL_law_725 : decode cL_law 725 = .ok (.iload 4, 2) := by decide +kernel
theorem dL_law_727 : decode cL_law 727 = .ok (.iconst 2, 1) := by decide +kernel
theorem dL_law_728 : decode cL_law 728 = .ok (.iadd, 1) := by decide +kernel
theorem dL_law_729 : decode cL_law 729 = .ok (.iaload, 1) := by decide +kernel
theorem dL_law_730 : decode cL_law 730 = .ok (.aload_n 0, 1) := by decide +kernel
theorem dL_law_731 : decode cL_law 731 = .ok (.iload 4, 2) := by decide +kernel
theorem dL_law_733 : decode cL_law 733 = .ok (.iconst 3, 1) := by decide +kernel
theorem dL_law_734 : decode cL_law 734 = .ok (.iadd, 1) := by decide +kernel
theorem dL_law_735 : decode cL_law 735 = .ok (.iaload, 1) := by decide +kernel
theorem dL_law_736 : decode cL_law 736 = .ok (.aload_n 0, 1) := by decide +kernel
theorem dL_law_737 : decode cL_law 737 = .ok (.iload 4, 2) := by decide +kernel
theorem dL_law_739 : decode cL_law 739 = .ok (.iconst 4, 1) := by decide +kernel
theorem dL_law_740 : decode cL_law 740 = .ok (.iadd, 1) := by decide +kernel
theorem dL_law_741 : decode cL_law 741 = .ok (.iaload, 1) := by decide +kernel
theorem dL_law_742 : decode cL_law 742 = .ok (.ifCond .eq 7, 3) := by decide +kernel
theorem dL_law_745 : decode cL_law 745 = .ok (.iconst 1, 1) := by decide +kernel
theorem dL_law_746 : decode cL_law 746 = .ok (.goto 4, 3) := by decide +kernel
theorem dL_law_749 : decode cL_law 749 = .ok (.iconst 0, 1) := by decide +kernel
theorem dL_law_750 : decode cL_law 750 = .ok (.invokevirtual 83, 3) := by decide +kernel
theorem dL_law_753 : decode cL_law 753 = .ok (.istore 6, 2) := by decide +kernel
theorem dL_law_755 : decode cL_law 755 = .ok (.aload_n 2, 1) := by decide +kernel
theorem dL_law_756 : decode cL_law 756 = .ok (.invokevirtual 55, 3) := by decide +kernel
theorem dL_law_759 : decode cL_law 759 = .ok (.iload 5, 2) := by decide +kernel
theorem dL_law_761 : decode cL_law 761 = .ok (.if_icmp .eq 5, 3) := by decide +kernel
theorem dL_law_764 : decode cL_law 764 = .ok (.iconst 0, 1) := by decide +kernel
theorem dL_law_765 : decode cL_law 765 = .ok (.ireturn, 1) := by decide +kernel
theorem dL_law_766 : decode cL_law 766 = .ok (.iload 5, 2) := by decide +kernel
theorem dL_law_768 : decode cL_law 768 = .ok (.ifCond .ne 15, 3) := by decide +kernel
theorem dL_law_771 : decode cL_law 771 = .ok (.aload_n 3, 1) := by decide +kernel
theorem dL_law_772 : decode cL_law 772 = .ok (.iconst 0, 1) := by decide +kernel
theorem dL_law_773 : decode cL_law 773 = .ok (.laload, 1) := by decide +kernel
theorem dL_law_774 : decode cL_law 774 = .ok (.iload 6, 2) := by decide +kernel
theorem dL_law_776 : decode cL_law 776 = .ok (.i2l, 1) := by decide +kernel
theorem dL_law_777 : decode cL_law 777 = .ok (.lcmp, 1) := by decide +kernel
theorem dL_law_778 : decode cL_law 778 = .ok (.ifCond .eq 5, 3) := by decide +kernel
theorem dL_law_781 : decode cL_law 781 = .ok (.iconst 0, 1) := by decide +kernel
theorem dL_law_782 : decode cL_law 782 = .ok (.ireturn, 1) := by decide +kernel
theorem dL_law_783 : decode cL_law 783 = .ok (.goto 111, 3) := by decide +kernel
theorem dL_law_786 : decode cL_law 786 = .ok (.aload_n 1, 1) := by decide +kernel
theorem dL_law_787 : decode cL_law 787 = .ok (.aload_n 0, 1) := by decide +kernel
theorem dL_law_788 : decode cL_law 788 = .ok (.iload 4, 2) := by decide +kernel
theorem dL_law_790 : decode cL_law 790 = .ok (.iconst 1, 1) := by decide +kernel
theorem dL_law_791 : decode cL_law 791 = .ok (.iadd, 1) := by decide +kernel
theorem dL_law_792 : decode cL_law 792 = .ok (.iaload, 1) := by decide +kernel
theorem dL_law_793 : decode cL_law 793 = .ok (.aload_n 0, 1) := by decide +kernel
theorem dL_law_794 : decode cL_law 794 = .ok (.iload 4, 2) := by decide +kernel
theorem dL_law_796 : decode cL_law 796 = .ok (.iconst 2, 1) := by decide +kernel
theorem dL_law_797 : decode cL_law 797 = .ok (.iadd, 1) := by decide +kernel
theorem dL_law_798 : decode cL_law 798 = .ok (.iaload, 1) := by decide +kernel
theorem dL_law_799 : decode cL_law 799 = .ok (.aload_n 0, 1) := by decide +kernel
theorem dL_law_800 : decode cL_law 800 = .ok (.iload 4, 2) := by decide +kernel
theorem dL_law_802 : decode cL_law 802 = .ok (.iconst 3, 1) := by decide +kernel
theorem dL_law_803 : decode cL_law 803 = .ok (.iadd, 1) := by decide +kernel
theorem dL_law_804 : decode cL_law 804 = .ok (.iaload, 1) := by decide +kernel
theorem dL_law_805 : decode cL_law 805 = .ok (.aload_n 0, 1) := by decide +kernel
theorem dL_law_806 : decode cL_law 806 = .ok (.iload 4, 2) := by decide +kernel
theorem dL_law_808 : decode cL_law 808 = .ok (.iconst 4, 1) := by decide +kernel
theorem dL_law_809 : decode cL_law 809 = .ok (.iadd, 1) := by decide +kernel
theorem dL_law_810 : decode cL_law 810 = .ok (.iaload, 1) := by decide +kernel
theorem dL_law_811 : decode cL_law 811 = .ok (.ifCond .eq 7, 3) := by decide +kernel
theorem dL_law_814 : decode cL_law 814 = .ok (.iconst 1, 1) := by decide +kernel
theorem dL_law_815 : decode cL_law 815 = .ok (.goto 4, 3) := by decide +kernel
theorem dL_law_818 : decode cL_law 818 = .ok (.iconst 0, 1) := by decide +kernel
theorem dL_law_819 : decode cL_law 819 = .ok (.aload_n 3, 1) := by decide +kernel
theorem dL_law_820 : decode cL_law 820 = .ok (.invokestatic 84, 3) := by decide +kernel
theorem dL_law_823 : decode cL_law 823 = .ok (.istore 5, 2) := by decide +kernel
theorem dL_law_825 : decode cL_law 825 = .ok (.aload_n 2, 1) := by decide +kernel
theorem dL_law_826 : decode cL_law 826 = .ok (.aload_n 0, 1) := by decide +kernel
theorem dL_law_827 : decode cL_law 827 = .ok (.iload 4, 2) := by decide +kernel
theorem dL_law_829 : decode cL_law 829 = .ok (.iconst 1, 1) := by decide +kernel
theorem dL_law_830 : decode cL_law 830 = .ok (.iadd, 1) := by decide +kernel
theorem dL_law_831 : decode cL_law 831 = .ok (.iaload, 1) := by decide +kernel
theorem dL_law_832 : decode cL_law 832 = .ok (.aload_n 0, 1) := by decide +kernel
theorem dL_law_833 : decode cL_law 833 = .ok (.iload 4, 2) := by decide +kernel
theorem dL_law_835 : decode cL_law 835 = .ok (.iconst 2, 1) := by decide +kernel
theorem dL_law_836 : decode cL_law 836 = .ok (.iadd, 1) := by decide +kernel
theorem dL_law_837 : decode cL_law 837 = .ok (.iaload, 1) := by decide +kernel
theorem dL_law_838 : decode cL_law 838 = .ok (.aload_n 0, 1) := by decide +kernel
theorem dL_law_839 : decode cL_law 839 = .ok (.iload 4, 2) := by decide +kernel
theorem dL_law_841 : decode cL_law 841 = .ok (.iconst 3, 1) := by decide +kernel
theorem dL_law_842 : decode cL_law 842 = .ok (.iadd, 1) := by decide +kernel
theorem dL_law_843 : decode cL_law 843 = .ok (.iaload, 1) := by decide +kernel
theorem dL_law_844 : decode cL_law 844 = .ok (.aload_n 0, 1) := by decide +kernel
theorem dL_law_845 : decode cL_law 845 = .ok (.iload 4, 2) := by decide +kernel
theorem dL_law_847 : decode cL_law 847 = .ok (.iconst 4, 1) := by decide +kernel
theorem dL_law_848 : decode cL_law 848 = .ok (.iadd, 1) := by decide +kernel
theorem dL_law_849 : decode cL_law 849 = .ok (.iaload, 1) := by decide +kernel
theorem dL_law_850 : decode cL_law 850 = .ok (.ifCond .eq 7, 3) := by decide +kernel
theorem dL_law_853 : decode cL_law 853 = .ok (.iconst 1, 1) := by decide +kernel
theorem dL_law_854 : decode cL_law 854 = .ok (.goto 4, 3) := by decide +kernel
theorem dL_law_857 : decode cL_law 857 = .ok (.iconst 0, 1) := by decide +kernel
theorem dL_law_858 : decode cL_law 858 = .ok (.invokevirtual 86, 3) := by decide +kernel
theorem dL_law_861 : decode cL_law 861 = .ok (.istore 6, 2) := by decide +kernel
theorem dL_law_863 : decode cL_law 863 = .ok (.aload_n 2, 1) := by decide +kernel
theorem dL_law_864 : decode cL_law 864 = .ok (.invokevirtual 55, 3) := by decide +kernel
theorem dL_law_867 : decode cL_law 867 = .ok (.iload 5, 2) := by decide +kernel
theorem dL_law_869 : decode cL_law 869 = .ok (.if_icmp .eq 5, 3) := by decide +kernel
theorem dL_law_872 : decode cL_law 872 = .ok (.iconst 0, 1) := by decide +kernel
theorem dL_law_873 : decode cL_law 873 = .ok (.ireturn, 1) := by decide +kernel
theorem dL_law_874 : decode cL_law 874 = .ok (.iload 5, 2) := by decide +kernel
theorem dL_law_876 : decode cL_law 876 = .ok (.ifCond .ne 15, 3) := by decide +kernel
theorem dL_law_879 : decode cL_law 879 = .ok (.aload_n 3, 1) := by decide +kernel
theorem dL_law_880 : decode cL_law 880 = .ok (.iconst 0, 1) := by decide +kernel
theorem dL_law_881 : decode cL_law 881 = .ok (.laload, 1) := by decide +kernel
theorem dL_law_882 : decode cL_law 882 = .ok (.iload 6, 2) := by decide +kernel
theorem dL_law_884 : decode cL_law 884 = .ok (.i2l, 1) := by decide +kernel
theorem dL_law_885 : decode cL_law 885 = .ok (.lcmp, 1) := by decide +kernel
theorem dL_law_886 : decode cL_law 886 = .ok (.ifCond .eq 5, 3) := by decide +kernel
theorem dL_law_889 : decode cL_law 889 = .ok (.iconst 0, 1) := by decide +kernel
theorem dL_law_890 : decode cL_law 890 = .ok (.ireturn, 1) := by decide +kernel
theorem dL_law_891 : decode cL_law 891 = .ok (.goto 3, 3) := by decide +kernel
theorem dL_law_894 : decode cL_law 894 = .ok (.iinc 4 5, 3) := by decide +kernel
theorem dL_law_897 : decode cL_law 897 = .ok (.goto (-874), 3) := by decide +kernel
theorem dL_law_900 : decode cL_law 900 = .ok (.iconst 1, 1) := by decide +kernel
theorem dL_law_901 : decode cL_law 901 = .ok (.ireturn, 1) := by decide +kernel
end
section
/-! ROWS OF MY OWN over the kit's -/
/-- a boolean on the machine -/
def jb (b : Bool) : Int32 := cond b 1 0
theorem jb_n (b : Bool) : narrow .boolean (.int (jb b)) = .int (jb b) := by cases b <;> rfl
theorem jb_f (b : Bool) : fits .boolean (.int (jb b)) = true := by cases b <;> rfl
theorem jb_0 (b : Bool) : (jb b = 0) ↔ b = false := by cases b <;> decide
section FW
variable {p : Program} {l : Launch} {e : Env} {R : Room} {s : State} {m : MethodId} {args : Array Value} {below : List Frame} {meth : Method} {c : Code} {H : Heap} {locs : List Loc} {cells slots : Nat} {Q : State → Prop}
/-- the rest from a join on, taken once -/
theorem fw_join {pc j : Nat} {ls0 : Array Slot} {st0 : List Value} {ι : Type} {LS : ι → Array Slot → Prop} {ST : ι → List Value} (k : ∀ (i : ι) (ls : Array Slot), LS i ls → W p l e R s m args below meth c H locs cells slots Q (F0 m j ls (ST i)))
    (h : (∀ (i : ι) (ls : Array Slot), LS i ls → W p l e R s m args below meth c H locs cells slots Q (F0 m j ls (ST i))) → W p l e R s m args below meth c H locs cells slots Q (F0 m pc ls0 st0)) : W p l e R s m args below meth c H locs cells slots Q (F0 m pc ls0 st0) := h k
theorem fw_topi {pc : Nat} {ls : Array Slot} {rest : List Value} {x : Int32} (k : W p l e R s m args below meth c H locs cells slots Q (F0 m pc ls (.int x :: rest))) : W p l e R s m args below meth c H locs cells slots Q (F0 m pc ls (.int x :: rest)) := k
/-- a loop that counts up to N -/
theorem fw_up {head N : Nat} {LS : Nat → Array Slot → Prop} (kx : ∀ ls : Array Slot, LS N ls → W p l e R s m args below meth c H locs cells slots Q (F0 m head ls []))
    (ks : ∀ (k : Nat) (ls : Array Slot), k < N → LS k ls → (∀ ls' : Array Slot, LS (k + 1) ls' → W p l e R s m args below meth c H locs cells slots Q (F0 m head ls' [])) → W p l e R s m args below meth c H locs cells slots Q (F0 m head ls [])) {ls : Array Slot} (h0 : LS 0 ls) : W p l e R s m args below meth c H locs cells slots Q (F0 m head ls []) := by
  have key : ∀ (n k : Nat), k + n = N → ∀ ls : Array Slot, LS k ls → W p l e R s m args below meth c H locs cells slots Q (F0 m head ls []) := by
    intro n
    induction n with
    | zero =>
      intro k hk ls h
      have : k = N := hk
      subst this
      exact kx ls h
    | succ n ih =>
      intro k hk ls h
      exact ks k ls (by omega) h (fun ls' h' => ih (k + 1) (by omega) ls' h')
  exact key N 0 (by omega) ls h0
/-- a loop with n turns left, over a state -/
theorem fw_down {head : Nat} {σ : Type} {LS : Nat → σ → Array Slot → Prop} (kx : ∀ (a : σ) (ls : Array Slot), LS 0 a ls → W p l e R s m args below meth c H locs cells slots Q (F0 m head ls []))
    (ks : ∀ (n : Nat) (a : σ) (ls : Array Slot), LS (n + 1) a ls → (∀ (b : σ) (ls' : Array Slot), LS n b ls' → W p l e R s m args below meth c H locs cells slots Q (F0 m head ls' [])) → W p l e R s m args below meth c H locs cells slots Q (F0 m head ls [])) : ∀ (n : Nat) (a : σ) (ls : Array Slot), LS n a ls → W p l e R s m args below meth c H locs cells slots Q (F0 m head ls []) := by
  intro n
  induction n with
  | zero => exact kx
  | succ n ih => exact fun a ls h => ks n a ls h ih
/-- what a method that changes nothing answers -/
def fw_Q (v : Value) : Array Value → State → Outcome → State → Prop := fun _ st oc t => oc = .returned (some v) ∧ t.heap = st.heap
theorem fw_call {pc : Nat} {ls : Array Slot} {st0 rest : List Value} {v : Value} {a : Array Value} (hr : va_Run p l e R s m args below meth c H locs cells slots 0 0 (F0 m pc ls st0) rest (fw_Q v a) (fun _ => False))
    (kk : W p l e R s m args below meth c H locs cells slots Q (F0 m (pc + 3) ls (v :: rest))) : W p l e R s m args below meth c H locs cells slots Q (F0 m pc ls st0) := by
  intro T hT X
  obtain ⟨v', st₀, t, T', L, h0, X', hL, e1, -, ⟨hv, hh⟩, st⟩ := hr T hT X
  cases hv
  obtain ⟨t2, a1, b1⟩ := kk T' (by rw [e1, hh, h0]) (Stand.forget X' (fun q h => (hL q h).elim))
  exact ⟨t2, st t2 a1, b1⟩
end FW
theorem fw_ne {x y : Int32} (h : ¬ x = y) {v : Int} (hv : y.toInt = v) : x.toInt ≠ v := fun q => h (Int32.toInt_inj.mp (q.trans hv.symm))
theorem fw_out {a b : Prop} (h : a ∨ b) : a ∨ b := h
/-- a method that asks nothing of the state -/
def fw_P (av : List Value) : Array Value → State → Prop := va_Pc av (fun _ => True)
theorem fw_PS {s : State} {H : Heap} {av : List Value} : PreS s H (fw_P av) av := ⟨fun _ _ _ _ q => q, fun _ _ _ => ⟨rfl, trivial⟩⟩
/-- a method that reads the cells ws -/
def fw_R (D : va_G) (cl : List vw_C) (ws : va_W) (av : List Value) : Array Value → State → Prop := va_Pc av (fun U => va_P D cl ws U.heap ∧ va_K D cl [] U)
theorem fw_Rb {D : va_G} {cl : List vw_C} {ws : va_W} {av : List Value} : FrameBlind (fw_R D cl ws av) := fun a U g mk q => ⟨q.1, q.2.1, va_K.moved (u := U) (U := U.calling g mk a) (Vm.Alike.refl U.vm) q.2.2⟩
theorem fw_RS {s : State} {H : Heap} {D : va_G} {cl : List vw_C} {ws : va_W} {tys : List (ClassId × FieldType)} {av : List Value} (hP : va_P D cl ws H) (hK : va_K D cl tys s) : PreS s H (fw_R D cl ws av) av :=
  ⟨fw_Rb, fun U hU hW => ⟨rfl, by rw [hU]; exact hP, va_K.moved hW.alike (hK.sub (tys' := []) [] rfl)⟩⟩
theorem fw_RV {s : State} {H : Heap} {D : va_G} {cl : List vw_C} {ws : va_W} {tys : List (ClassId × FieldType)} {b : Nat} {As : List Value} {C : String} (hr : ∃ cell : Cell, H[b]? = some cell ∧ cell.vm.isStatics = false ∧ s.vm.findClass C = some cell.cls) (hP : va_P D cl ws H) (hK : va_K D cl tys s) : PreV s H C b (fw_R D cl ws (.ref b :: As)) As :=
  ⟨fw_Rb, hr, fun U hU hW => ⟨rfl, by rw [hU]; exact hP, va_K.moved hW.alike (hK.sub (tys' := []) [] rfl)⟩⟩
theorem fw_PV {s : State} {H : Heap} {b : Nat} {As : List Value} {C : String} (hr : ∃ cell : Cell, H[b]? = some cell ∧ cell.vm.isStatics = false ∧ s.vm.findClass C = some cell.cls) : PreV s H C b (fw_P (.ref b :: As)) As :=
  ⟨fun _ _ _ _ q => q, hr, fun _ _ _ => ⟨rfl, trivial⟩⟩
/-! the words of a call, out of the one list -/
theorem gd_S {own : String} {idx : Nat} {y : MethodName} {w0 : Cond} (h1 : Cond.methodLink own idx y ∈ fc_all) (h2 : Cond.static y ∈ fc_all) (h3 : Cond.initialized y.cls ∈ fc_all) (h4 : w0 ∈ fc_all) : GoodIn fc_all (va_wsS own idx y (w0 :: fc_all)) := by
  intro w hw
  refine fc_good w ?_
  unfold va_wsS at hw
  rcases List.mem_append.mp hw with h | h
  · simp only [List.mem_cons, List.not_mem_nil, or_false] at h
    rcases h with rfl | rfl | rfl <;> assumption
  · rcases List.mem_cons.mp h with rfl | h
    · exact h4
    · exact h
theorem gd_V {own C : String} {idx : Nat} {y : MethodName} {w0 : Cond} (h1 : Cond.methodLink own idx y ∈ fc_all) (h2 : Cond.instanceMethod y ∈ fc_all) (h3 : Cond.selects C y y ∈ fc_all) (h5 : Cond.initialized C ∈ fc_all) (h4 : w0 ∈ fc_all) : GoodIn fc_all (wsV own idx C y (w0 :: fc_all)) := by
  intro w hw
  refine fc_good w ?_
  unfold wsV at hw
  rcases List.mem_append.mp hw with h | h
  · simp only [List.mem_cons, List.not_mem_nil, or_false] at h
    rcases h with rfl | rfl | rfl | rfl <;> assumption
  · rcases List.mem_cons.mp h with rfl | h
    · exact h4
    · exact h
theorem fw_m1 (x : Int32) : x + Int32.ofInt (-1) = x - 1 := by rw [Int32.sub_eq_add_neg]; rfl
end
section
/-! ===== BEGIN exceptions that leave a method, and their catching by the caller (launches without stack traces) ===== -/
section VXA
/-! The laws vx_back, vx_callV, vx_callS, vx_callSW, vx_throw0, vx_throwS follow proofs of the library, with one case more: JvmDerived/Free/Laws.lean (Back.of_free), Shelf42/LK1.lean (callV, callS), Shelf/KitTraced.lean (throwNew0V, throwNewS). -/
/-- where a method has thrown q: the class by its name, the cell, what was written, the world -/
def vx_T (XC : String → State → State → Prop) (st : State) (q : Addr) (t : State) (mc ms : Nat) (free : Addr → Prop) : Prop :=
  ∃ (E : String) (ce : Cell) (L : List Loc), XC E st t ∧ t.heap[q]? = some ce ∧ ce.vm = .none ∧ st.vm.findClass E = some ce.cls ∧ st.WarmedH t.vm ∧ st.sameButNew ({ t with vm := st.vm } : State) L mc ms ∧ ∀ z ∈ L, free z.base
def vx_Q (Qc : Array Value → State → Outcome → State → Prop) (XC : String → State → State → Prop) (mc ms : Nat) (free : Addr → Prop) : Array Value → State → Outcome → State → Prop := fun a st o t =>
  (Qc a st o t ∧ ∃ L, FrameEnd st o t L mc ms ∧ ∀ q ∈ L, free q.base) ∨ ∃ q, o = .threw q ∧ vx_T XC st q t mc ms free
/-- a callee that returns or throws -/
def vx_Met (l : Launch) (y : MethodName) (ws : List Cond) (rm : Room) (Pc : Array Value → State → Prop) (Qc : Array Value → State → Outcome → State → Prop) (XC : String → State → State → Prop) (mc ms : Nat) (free : Addr → Prop) : Prop :=
  MetFree l y (headSpec ws rm) Pc (fun _ _ _ _ _ => True) (vx_Q Qc XC mc ms free)
def vx_Post (XC : String → State → State → Prop) (mc ms : Nat) (free : Addr → Prop) : Pt → Array Value → Addr → Pt → Prop := fun A a q B =>
  ∃ (g : JFrame) (mk : MethodId) (t : State) (L : List Loc) (E : String) (ce : Cell), B.U.heap = t.heap ∧ B.U.vm = t.vm ∧ XC E (A.U.calling g mk a) t ∧ t.heap[q]? = some ce ∧ ce.vm = .none ∧ A.U.vm.findClass E = some ce.cls ∧ B.locs = A.locs ++ L ∧ (∀ z ∈ L, free z.base) ∧ B.cells = A.cells + mc ∧ B.slots = A.slots + ms
def vx_Back (l : Launch) (R : Room) (p : Program) (e : Env) (below : List Frame) (s : State) (sargs : Array Value) (y : MethodName) (len W9 : Nat)
    (Pre : Pt → Array Value → Prop) (Post : Pt → Array Value → Option Value → Pt → Prop) (PostX : Pt → Array Value → Addr → Pt → Prop) : Prop :=
  ∀ (m : MethodId) (meth : Method) (c : Code) (A : Pt) (g : JFrame) (ig : Instr) (mk : MethodId) (a : Array Value),
    Stand p l e R s m sargs below meth c A.U A.locs A.cells A.slots → g.method = m → g.locals.size = c.maxLocals → decode c.code g.pc = .ok (ig, len) →
    2 * g.monitorRoom + (g.stack.map fun v => v.category).sum ≤ W9 → A.U.methodNamed? y = some mk → Pre A a →
    (∃ (v : Option Value) (B : Pt), Stand p l e R s m sargs below meth c B.U B.locs B.cells B.slots ∧ Post A a v B ∧
      Steps p.tables e below (doInvoke e (A.U.setTop g) [] mk a).1 (B.U.setTop { g with pc := g.pc + len, stack := v.toList ++ g.stack })) ∨
    (∃ (q : Addr) (B : Pt), Stand p l e R s m sargs below meth c B.U B.locs B.cells B.slots ∧ PostX A a q B ∧
      Steps p.tables e below (doInvoke e (A.U.setTop g) [] mk a).1 ((B.U.setTop g).pushFrame (.throwing q)))
section Payer
variable {l : Launch} {R : Room} {p : Program} {e : Env} {below : List Frame} {s : State} {sargs : Array Value} {y : MethodName} {len W9 : Nat}
theorem vx_back {ws : List Cond} {rm : Room} {Pc : Array Value → State → Prop} {Qc : Array Value → State → Outcome → State → Prop} {XC : String → State → State → Prop} {mc ms : Nat} {free : Addr → Prop} {bytes : ByteArray} {maxL : Nat} {ret : Option FieldType}
    (hM : vx_Met l y ws rm Pc Qc XC mc ms free) (hblind : FrameBlind Pc) (hrc : rm.cells = mc) (hrs : rm.slots = ms)
    (hframes : rm.frames + 1 ≤ R.frames) (hlocals : W9 + (maxL + 11) + rm.locals ≤ R.locals)
    (hws : ∀ w ∈ ws, ∀ a' U, s.WarmedH U.vm → w.before a' U = true) (hcode : Cond.code y bytes maxL ret ∈ ws) (hinit : ∀ a' U, s.WarmedH U.vm → (Cond.initialized y.cls).before a' U = true) :
    vx_Back l R p e below s sargs y len W9 (PreOf R mc ms Pc) (PostOf Qc mc ms free) (vx_Post XC mc ms free) := by
  intro m meth c A g ig mk a X hg hsize hdg hW hn hp
  have h1 : (headSpec ws rm).pre.before a A.U = true := atoms_intro fun w hw => hws w hw _ _ X.warmed
  have h2 : (Cond.code y bytes maxL ret).before a A.U = true := hws _ hcode _ _ X.warmed
  have h3 : (Cond.initialized y.cls).before a A.U = true := hinit _ _ X.warmed
  have h4 : A.cells + (headSpec ws rm).room.cells ≤ R.cells := by rw [show (headSpec ws rm).room.cells = mc from hrc]; exact hp.1
  have h5 : A.slots + (headSpec ws rm).room.slots ≤ R.slots := by rw [show (headSpec ws rm).room.slots = ms from hrs]; exact hp.2.1
  have hPc : Pc a (A.U.calling g mk a) := hblind _ _ _ _ hp.2.2
  obtain ⟨U, Ls, c0, s0⟩ := A
  dsimp only [Pt.U, Pt.locs, Pt.cells, Pt.slots] at h1 h2 h3 h4 h5 X hn hPc ⊢
  obtain ⟨methY, cY, hmY, hcY, -, hlY, -, -, -, -⟩ := Cond.code_spec hn h2
  obtain ⟨kY, hkY, -⟩ := className_of_methodNamed hn
  have hinitY : kY.init = .initialized := Cond.initialized_spec (findClass_of_methodNamed hn) hkY h3
  have h : At U g.method c below := by rw [hg]; exact X.here
  have hlocals9 : W9 + (maxL + 11) + (headSpec ws rm).room.locals ≤ R.locals := hlocals
  have happ : (headSpec ws rm).appliesLoose y e.platform (U.calling g mk a) = true :=
    Spec.appliesLoose_calling (g := g) h hdg hn hkY hinitY
      (X.room_calling (g := g) (R' := (headSpec ws rm).room) hsize hmY hcY hframes (by rw [hlY]; omega) h4 h5) h1
  obtain ⟨mid, hmid⟩ := h.above
  have hfr : (U.setTop g).frames = (.java g :: mid) ++ below := by rw [State.frames_setTop' g h.top, hmid]; rfl
  obtain ⟨o, s₂, hsteps, -, hend, hq⟩ := Steps.callFree hM p X.admits X.cas X.clock (acts := []) hfr happ hPc trivial
  have hq' : vx_Q Qc XC mc ms free a (U.calling g mk a) o s₂ := hq
  rw [State.frames_setTop' g h.top] at hend
  obtain ⟨g₀, hg0⟩ := Option.isSome_iff_exists.mp h.top
  obtain ⟨r, hr⟩ := State.topJava?_eq_some.mp hg0
  have hr' : (({ U with heap := s₂.heap, slotsUsed := s₂.slotsUsed } : State).setVm s₂.vm).frames = .java g₀ :: r := hr
  rcases hq' with ⟨hqc, L, hfe, hL⟩ | ⟨q, rfl, E, ce, L, hx, hce, hcv, hcl, hW₂, hsm, hL⟩
  · obtain ⟨⟨v, rfl⟩, hW₂, e2, q2, q3, q4, q5, q6⟩ := id hfe
    have e3 : s₂ = ({ (U.calling g mk a).setFrames s₂.frames with heap := s₂.heap, slotsUsed := s₂.slotsUsed } : State).setVm s₂.vm := by
      have : s₂ = ({ s₂ with vm := (U.calling g mk a).vm } : State).setVm s₂.vm := rfl
      rw [e2] at this
      exact this
    obtain ⟨c₂, i₂, len₂, hc₂, hd₂, hf₂⟩ := hend
    have hW' : U.WarmedH s₂.vm := hW₂
    have hcc : c₂ = c := by
      have h1 : s₂.code? g.method = U.code? g.method := by
        rw [State.code?_eq, State.code?_eq, hW'.alike.method?]
      exact Option.some.inj (hc₂.symm.trans (h1.trans h.code))
    subst hcc
    have hlen : len₂ = len := by rw [hdg] at hd₂; cases hd₂; rfl
    subst hlen
    have hs₂ : s₂ = (({ U with heap := s₂.heap, slotsUsed := s₂.slotsUsed } : State).setVm s₂.vm).setTop { g with pc := g.pc + len₂, stack := v.toList ++ g.stack } := by
      refine e3.trans ?_
      rw [hf₂, State.calling_eq h.top, State.setFrames_setFrames, State.setTop_of_frames _ hr', hr]
      rfl
    have hsame : U.sameButNew ({ U with heap := s₂.heap, slotsUsed := s₂.slotsUsed } : State) L mc ms := by
      refine ⟨?_, q2, q3, q4, q5, q6⟩
      obtain ⟨t, ht, -⟩ := State.frames_cons hr
      show ({ U with heap := s₂.heap, slotsUsed := s₂.slotsUsed } : State) = { U.setFrames U.frames with heap := s₂.heap, slotsUsed := s₂.slotsUsed }
      rw [State.setFrames_self ht]
    subst hg
    refine Or.inl ⟨v, ⟨(({ U with heap := s₂.heap, slotsUsed := s₂.slotsUsed } : State).setVm s₂.vm), Ls ++ L, c0 + mc, s0 + ms⟩,
      ⟨X.admits, X.cas, X.clock, X.frames, X.room, X.hears, X.method, X.code, (X.here.setHeapUsed s₂.heap s₂.slotsUsed).setVm hW'.alike, X.tail, State.WarmedH.trans X.warmed hW', X.limits, X.bytes, X.same.trans (hsame.setVm s.vm)⟩,
      ⟨g, mk, s₂, L, rfl, rfl, hqc, rfl, hL, rfl, rfl⟩, ?_⟩
    show Steps p.tables e below _ ((({ U with heap := s₂.heap, slotsUsed := s₂.slotsUsed } : State).setVm s₂.vm).setTop { g with pc := g.pc + len₂, stack := v.toList ++ g.stack })
    rw [← hs₂]
    exact hsteps
  · obtain ⟨e2, q2, q3, q4, q5, q6⟩ := id hsm
    have e3 : s₂ = ({ (U.calling g mk a).setFrames s₂.frames with heap := s₂.heap, slotsUsed := s₂.slotsUsed } : State).setVm s₂.vm := by
      have : s₂ = ({ s₂ with vm := (U.calling g mk a).vm } : State).setVm s₂.vm := rfl
      rw [e2] at this
      exact this
    have hf₂ : s₂.frames = .throwing q :: .java g :: U.frames.tail := hend
    have hW' : U.WarmedH s₂.vm := hW₂
    have hs₂ : s₂ = ((({ U with heap := s₂.heap, slotsUsed := s₂.slotsUsed } : State).setVm s₂.vm).setTop g).pushFrame (.throwing q) := by
      refine e3.trans ?_
      rw [hf₂, State.calling_eq h.top, State.setFrames_setFrames, State.pushFrame, State.frames_setTop _ hr', State.setTop_of_frames _ hr', State.setFrames_setFrames, hr]
      rfl
    have hsame : U.sameButNew ({ U with heap := s₂.heap, slotsUsed := s₂.slotsUsed } : State) L mc ms := by
      refine ⟨?_, q2, q3, q4, q5, q6⟩
      obtain ⟨t, ht, -⟩ := State.frames_cons hr
      show ({ U with heap := s₂.heap, slotsUsed := s₂.slotsUsed } : State) = { U.setFrames U.frames with heap := s₂.heap, slotsUsed := s₂.slotsUsed }
      rw [State.setFrames_self ht]
    subst hg
    refine Or.inr ⟨q, ⟨(({ U with heap := s₂.heap, slotsUsed := s₂.slotsUsed } : State).setVm s₂.vm), Ls ++ L, c0 + mc, s0 + ms⟩,
      ⟨X.admits, X.cas, X.clock, X.frames, X.room, X.hears, X.method, X.code, (X.here.setHeapUsed s₂.heap s₂.slotsUsed).setVm hW'.alike, X.tail, State.WarmedH.trans X.warmed hW', X.limits, X.bytes, X.same.trans (hsame.setVm s.vm)⟩,
      ⟨g, mk, s₂, L, E, ce, rfl, rfl, hx, hce, hcv, hcl, rfl, hL, rfl, rfl⟩, ?_⟩
    show Steps p.tables e below _ (((({ U with heap := s₂.heap, slotsUsed := s₂.slotsUsed } : State).setVm s₂.vm).setTop g).pushFrame (.throwing q))
    rw [← hs₂]
    exact hsteps
end Payer
section Calls
variable {p : Program} {l : Launch} {e : Env} {R : Room} {s : State} {m : MethodId} {args : Array Value} {below : List Frame} {meth : Method} {c : Code} {T : State} {locs : List Loc} {cells slots : Nat}
theorem vx_callV (X : Stand p l e R s m args below meth c T locs cells slots) (hexec : p.tables.exec = Jvm.exec) {own C : String} {index : Nat} {y : MethodName} {bytes : ByteArray} {maxL : Nat} {ret : Option FieldType}
    (hown : s.vm.findClass own = some m.cls) (hlink : (Cond.methodLink own index y).before args s = true) (hinst : (Cond.instanceMethod y).before args s = true) (hsel : (Cond.selects C y y).before args s = true)
    (hcode : (Cond.code y bytes maxL ret).before args s = true) (hy : y.cls ≠ "java/lang/invoke/MethodHandle" ∧ y.cls ≠ "java/lang/invoke/VarHandle")
    {W9 : Nat} {Pre : Pt → Array Value → Prop} {Post : Pt → Array Value → Option Value → Pt → Prop} {PostX : Pt → Array Value → Addr → Pt → Prop} (hK : vx_Back l R p e below s args y 3 W9 Pre Post PostX)
    {b : Addr} {cellB : Cell} (hcell : T.heap[b]? = some cellB) (hobj : cellB.vm.isStatics = false) (hcls : s.vm.findClass C = some cellB.cls)
    {g : JFrame} (hg : g.method = m) (hsize : g.locals.size = c.maxLocals) {argsL rest : List Value} (hlen : ∀ sig, parseMethodDescriptor y.desc = some sig → argsL.length = sig.parameters.length)
    (hstack : g.stack = argsL.reverse ++ .ref b :: rest) (hW : 2 * g.monitorRoom + (rest.map fun v => v.category).sum ≤ W9) (hdg : decode c.code g.pc = .ok (.invokevirtual index, 3))
    (hpre : ∀ vm₁, s.WarmedH vm₁ → Pre ⟨T.setVm vm₁, locs, cells, slots⟩ (Value.ref b :: argsL).toArray) :
    (∃ (v : Option Value) (vm₁ : Vm) (B : Pt), s.WarmedH vm₁ ∧ Stand p l e R s m args below meth c B.U B.locs B.cells B.slots ∧ Post ⟨T.setVm vm₁, locs, cells, slots⟩ (Value.ref b :: argsL).toArray v B ∧
      ∀ target, Steps p.tables e below (B.U.setTop { g with pc := g.pc + 3, stack := v.toList ++ rest }) target → Steps p.tables e below (T.setTop g) target) ∨
    (∃ (q : Addr) (vm₁ : Vm) (B : Pt), s.WarmedH vm₁ ∧ Stand p l e R s m args below meth c B.U B.locs B.cells B.slots ∧ PostX ⟨T.setVm vm₁, locs, cells, slots⟩ (Value.ref b :: argsL).toArray q B ∧
      Steps p.tables e below (T.setTop g) ((B.U.setTop { g with stack := rest }).pushFrame (.throwing q))) := by
  obtain ⟨mk, methM, hnamed, hmethM, hstM, habM⟩ := Cond.instanceMethod_spec hinst
  obtain ⟨methM', cM, hmethM', -, -, -, -, -, -, hsigM⟩ := Cond.code_spec hnamed hcode
  cases hmethM.symm.trans hmethM'
  obtain ⟨c2, r2, m2, q1, q2, q3, q4, kP, hkP, hkPi⟩ := Cond.selects_spec hsel
  cases hcls.symm.trans q1
  cases (State.methodFound?_of_named hnamed hy).symm.trans q2
  cases hnamed.symm.trans q3
  have hselP : selectMethod e.platform s.vm cellB.cls mk = .method mk := by rw [Launch.admits_selectMethod X.admits]; exact q4
  obtain ⟨vm₁, X₁, hstep₁⟩ := X.invokevirtual hexec hown hlink hnamed hmethM hstM hkP hkPi hy (a := b) (cell := cellB) hcell
    (fun z h => by rw [h] at hobj; cases hobj) hselP hmethM habM hkP hkPi (g := g) hg (argsL := argsL) (rest := rest) (hlen _ hsigM) hstack hdg
  rcases hK m meth c ⟨T.setVm vm₁, locs, cells, slots⟩ { g with stack := rest } (.invokevirtual index) mk (Value.ref b :: argsL).toArray X₁ hg hsize hdg hW (X₁.named hnamed) (hpre vm₁ X₁.warmed) with ⟨v, B, X', hpost, hsteps⟩ | ⟨q, B, X', hpost, hsteps⟩
  · exact Or.inl ⟨v, vm₁, B, X₁.warmed, X', hpost, fun target h => hstep₁ _ fun acts => by rw [doInvoke_state]; exact hsteps.trans h⟩
  · exact Or.inr ⟨q, vm₁, B, X₁.warmed, X', hpost, hstep₁ _ fun acts => by rw [doInvoke_state]; exact hsteps⟩
theorem vx_callS (X : Stand p l e R s m args below meth c T locs cells slots) (hexec : p.tables.exec = Jvm.exec) {own : String} {index : Nat} {y : MethodName} {bytes : ByteArray} {maxL : Nat} {ret : Option FieldType}
    (hown : s.vm.findClass own = some m.cls) (hlink : (Cond.methodLink own index y).before args s = true) (hstat : (Cond.static y).before args s = true) (hinit : (Cond.initialized y.cls).before args s = true)
    (hcode : (Cond.code y bytes maxL ret).before args s = true) (hy : y.cls ≠ "java/lang/invoke/MethodHandle" ∧ y.cls ≠ "java/lang/invoke/VarHandle")
    {W9 : Nat} {Pre : Pt → Array Value → Prop} {Post : Pt → Array Value → Option Value → Pt → Prop} {PostX : Pt → Array Value → Addr → Pt → Prop} (hK : vx_Back l R p e below s args y 3 W9 Pre Post PostX)
    {g : JFrame} (hg : g.method = m) (hsize : g.locals.size = c.maxLocals) {argsL rest : List Value} (hlen : ∀ sig, parseMethodDescriptor y.desc = some sig → argsL.length = sig.parameters.length)
    (hstack : g.stack = argsL.reverse ++ rest) (hW : 2 * g.monitorRoom + (rest.map fun v => v.category).sum ≤ W9) (hdg : decode c.code g.pc = .ok (.invokestatic index, 3))
    (hpre : ∀ vm₁, s.WarmedH vm₁ → Pre ⟨T.setVm vm₁, locs, cells, slots⟩ argsL.toArray) :
    (∃ (v : Option Value) (vm₁ : Vm) (B : Pt), s.WarmedH vm₁ ∧ Stand p l e R s m args below meth c B.U B.locs B.cells B.slots ∧ Post ⟨T.setVm vm₁, locs, cells, slots⟩ argsL.toArray v B ∧
      ∀ target, Steps p.tables e below (B.U.setTop { g with pc := g.pc + 3, stack := v.toList ++ rest }) target → Steps p.tables e below (T.setTop g) target) ∨
    (∃ (q : Addr) (vm₁ : Vm) (B : Pt), s.WarmedH vm₁ ∧ Stand p l e R s m args below meth c B.U B.locs B.cells B.slots ∧ PostX ⟨T.setVm vm₁, locs, cells, slots⟩ argsL.toArray q B ∧
      Steps p.tables e below (T.setTop g) ((B.U.setTop { g with stack := rest }).pushFrame (.throwing q))) := by
  obtain ⟨mk, hnamed⟩ := Cond.code_named hcode
  obtain ⟨methM, cM, hmethM, -, -, -, -, -, -, hsigM⟩ := Cond.code_spec hnamed hcode
  have hstatic : methM.isStatic = true := Cond.static_spec hnamed hmethM hstat
  obtain ⟨kP, hkP, -⟩ := className_of_methodNamed hnamed
  have hinitP : kP.init = .initialized := Cond.initialized_spec (findClass_of_methodNamed hnamed) hkP hinit
  obtain ⟨vm₁, X₁, hstep₁⟩ := X.invokestatic hexec hown hlink hnamed hmethM hstatic hkP hinitP hy (g := g) hg (argsL := argsL) (rest := rest) (hlen _ hsigM) hstack hdg
  rcases hK m meth c ⟨T.setVm vm₁, locs, cells, slots⟩ { g with stack := rest } (.invokestatic index) mk argsL.toArray X₁ hg hsize hdg hW (X₁.named hnamed) (hpre vm₁ X₁.warmed) with ⟨v, B, X', hpost, hsteps⟩ | ⟨q, B, X', hpost, hsteps⟩
  · exact Or.inl ⟨v, vm₁, B, X₁.warmed, X', hpost, fun target h => hstep₁ _ fun acts => by rw [doInvoke_state]; exact hsteps.trans h⟩
  · exact Or.inr ⟨q, vm₁, B, X₁.warmed, X', hpost, hstep₁ _ fun acts => by rw [doInvoke_state]; exact hsteps⟩
end Calls
theorem vx_cls {s : State} {T : State} {vm₁ : Vm} {E : String} {k : ClassId} (hW : s.WarmedH vm₁) (h : (T.setVm vm₁).vm.findClass E = some k) : s.vm.findClass E = some k := by
  have h1 : vm₁.findClass E = some k := h
  rw [hW.alike.findClass] at h1
  exact h1
/-- the method's frame g, with q thrown over it -/
def vx_W (p : Program) (l : Launch) (e : Env) (R : Room) (s : State) (m : MethodId) (args : Array Value) (below : List Frame) (meth : Method) (c : Code) (H : Heap) (locs : List Loc) (cells slots : Nat) (Q : State → Prop) (g : JFrame) (q : Addr) : Prop :=
  ∀ T : State, T.heap = H → Stand p l e R s m args below meth c T locs cells slots → ∃ t, Steps p.tables e below ((T.setTop g).pushFrame (.throwing q)) t ∧ Q t
def vx_Run (p : Program) (l : Launch) (e : Env) (R : Room) (s : State) (m : MethodId) (args : Array Value) (below : List Frame) (meth : Method) (c : Code) (H : Heap) (locs : List Loc) (cells slots mc ms : Nat) (g : JFrame) (rest : List Value) (Qa : State → Outcome → State → Prop) (XC : String → State → State → Prop) (free : Addr → Prop) : Prop :=
  ∀ T : State, T.heap = H → Stand p l e R s m args below meth c T locs cells slots →
    (∃ (v : Option Value) (st₀ t T' : State) (L : List Loc), st₀.heap = H ∧ Stand p l e R s m args below meth c T' (locs ++ L) (cells + mc) (slots + ms) ∧ (∀ q ∈ L, free q.base) ∧ T'.heap = t.heap ∧ T'.vm = t.vm ∧ Qa st₀ (.returned v) t ∧
      Goes p e below T g T' { g with pc := g.pc + 3, stack := v.toList ++ rest }) ∨
    (∃ (q : Addr) (st₀ t T' : State) (L : List Loc) (E : String) (ce : Cell), st₀.heap = H ∧ Stand p l e R s m args below meth c T' (locs ++ L) (cells + mc) (slots + ms) ∧ (∀ z ∈ L, free z.base) ∧ T'.heap = t.heap ∧ T'.vm = t.vm ∧ XC E st₀ t ∧ t.heap[q]? = some ce ∧ ce.vm = .none ∧ s.vm.findClass E = some ce.cls ∧
      Steps p.tables e below (T.setTop g) ((T'.setTop { g with stack := rest }).pushFrame (.throwing q)))
def vx_X {S : Type} (px : S → Prop) (B : String → S → State → Prop) (A : Nat → Prop) : String → State → State → Prop := fun E st t => ∃ u : S, px u ∧ B E u t ∧ va_F A st t
section Runs
variable {p : Program} {l : Launch} {e : Env} {R : Room} {s : State} {m : MethodId} {args : Array Value} {below : List Frame} {meth : Method} {c : Code} {H : Heap} {locs : List Loc} {cells slots : Nat}
variable {y : MethodName} {bytes cc : ByteArray} {maxL nL mc ms n index : Nat} {ret : Option FieldType} {ws : List Cond} {rm : Room} {Pc : Array Value → State → Prop} {Qc : Array Value → State → Outcome → State → Prop} {XC : String → State → State → Prop} {free : Addr → Prop} {Ts : List Cond} {own C : String} {b : Addr} {As rest : List Value} {g : JFrame}
theorem vx_callBack (cb : CallB R s args own index y bytes maxL ret ws rm mc ms n) (hM : vx_Met l y ws rm Pc Qc XC mc ms free) (hbl : FrameBlind Pc) : vx_Back l R p e below s args y 3 8 (PreOf R mc ms Pc) (PostOf Qc mc ms free) (vx_Post XC mc ms free) := by
  obtain ⟨hrc, hrs, hfr, hlo, hws, hcw, -, hini, -⟩ := cb
  exact vx_back (bytes := bytes) (maxL := maxL) (ret := ret) hM hbl hrc hrs hfr hlo hws hcw (fun a' U hW => word_at hW (Or.inl (by first | rfl | simp [Cond.onTables, Cond.keeps, Cond.steady])) hini)
theorem vx_runV (S : CallFix p m c cc nL s args Ts own) (hM : vx_Met l y ws rm Pc Qc XC mc ms free) (cw : CallW R s args own C index y bytes maxL ret ws rm mc ms n) (hp : PreV s H C b Pc As)
    (hg : g.method = m) (hn : As.length = n) (hsize : g.locals.size = nL) (hstack : g.stack = As.reverse ++ .ref b :: rest) (hW : 2 * g.monitorRoom + (rest.map fun v => v.category).sum ≤ 8) (hdg : decode cc g.pc = .ok (.invokevirtual index, 3)) (hf : cells + mc ≤ R.cells ∧ slots + ms ≤ R.slots) :
    vx_Run p l e R s m args below meth c H locs cells slots mc ms g rest (Qc (Value.ref b :: As).toArray) XC free := by
  have hK : vx_Back l R p e below s args y 3 8 (PreOf R mc ms Pc) (PostOf Qc mc ms free) (vx_Post XC mc ms free) := vx_callBack cw.1 hM hp.1
  obtain ⟨⟨-, -, -, -, -, -, hcode, -, hy, hlen, hl⟩, hin, hse⟩ := cw
  obtain ⟨hx, hb, hml, ho, -⟩ := S
  obtain ⟨-, ⟨cellB, hcB, hoB, hclB⟩, hPc⟩ := hp
  intro T hT X
  rcases vx_callV X hx (C := C) (bytes := bytes) (maxL := maxL) (ret := ret) ho hl hin hse hcode hy hK (by rw [hT]; exact hcB) hoB hclB hg (hsize.trans hml.symm) (argsL := As) (rest := rest) (fun sig h => hn.trans (hlen sig h)) hstack hW (by rw [hb]; exact hdg)
    (fun vm₁ hW₁ => ⟨hf.1, hf.2, hPc (T.setVm vm₁) hT hW₁⟩) with ⟨v, vm₁, ⟨U', l2, c2, s2⟩, hW₁, X', ⟨g', mk, t, L, e1, e2, hq, h1, hL, h2, h3⟩, st⟩ | ⟨q, vm₁, ⟨U', l2, c2, s2⟩, hW₁, X', ⟨g', mk, t, L, E, ce, e1, e2, hq, hce, hcv, hcl, h1, hL, h2, h3⟩, st⟩
  · dsimp only [Pt.U, Pt.locs, Pt.cells, Pt.slots] at X' e1 e2 h1 h2 h3 st
    subst h1; subst h2; subst h3
    exact Or.inl ⟨v, (T.setVm vm₁).calling g' mk (Value.ref b :: As).toArray, t, U', L, hT, X', hL, e1, e2, hq, st⟩
  · dsimp only [Pt.U, Pt.locs, Pt.cells, Pt.slots] at X' e1 e2 h1 h2 h3 st hcl
    subst h1; subst h2; subst h3
    exact Or.inr ⟨q, (T.setVm vm₁).calling g' mk (Value.ref b :: As).toArray, t, U', L, E, ce, hT, X', hL, e1, e2, hq, hce, hcv, vx_cls hW₁ hcl, st⟩
theorem vx_runS (S : CallFix p m c cc nL s args Ts own) (hM : vx_Met l y ws rm Pc Qc XC mc ms free) (cw : CallB R s args own index y bytes maxL ret ws rm mc ms n ∧ (Cond.static y).before args s = true) (hp : PreS s H Pc As)
    (hg : g.method = m) (hn : As.length = n) (hsize : g.locals.size = nL) (hstack : g.stack = As.reverse ++ rest) (hW : 2 * g.monitorRoom + (rest.map fun v => v.category).sum ≤ 8) (hdg : decode cc g.pc = .ok (.invokestatic index, 3)) (hf : cells + mc ≤ R.cells ∧ slots + ms ≤ R.slots) :
    vx_Run p l e R s m args below meth c H locs cells slots mc ms g rest (Qc As.toArray) XC free := by
  have hK : vx_Back l R p e below s args y 3 8 (PreOf R mc ms Pc) (PostOf Qc mc ms free) (vx_Post XC mc ms free) := vx_callBack cw.1 hM hp.1
  obtain ⟨⟨-, -, -, -, -, -, hcode, hini, hy, hlen, hl⟩, hstt⟩ := cw
  obtain ⟨hx, hb, hml, ho, -⟩ := S
  intro T hT X
  rcases vx_callS X hx (bytes := bytes) (maxL := maxL) (ret := ret) ho hl hstt hini hcode hy hK hg (hsize.trans hml.symm) (argsL := As) (rest := rest) (fun sig h => hn.trans (hlen sig h)) hstack hW (by rw [hb]; exact hdg)
    (fun vm₁ hW₁ => ⟨hf.1, hf.2, hp.2 (T.setVm vm₁) hT hW₁⟩) with ⟨v, vm₁, ⟨U', l2, c2, s2⟩, hW₁, X', ⟨g', mk, t, L, e1, e2, hq, h1, hL, h2, h3⟩, st⟩ | ⟨q, vm₁, ⟨U', l2, c2, s2⟩, hW₁, X', ⟨g', mk, t, L, E, ce, e1, e2, hq, hce, hcv, hcl, h1, hL, h2, h3⟩, st⟩
  · dsimp only [Pt.U, Pt.locs, Pt.cells, Pt.slots] at X' e1 e2 h1 h2 h3 st
    subst h1; subst h2; subst h3
    exact Or.inl ⟨v, (T.setVm vm₁).calling g' mk As.toArray, t, U', L, hT, X', hL, e1, e2, hq, st⟩
  · dsimp only [Pt.U, Pt.locs, Pt.cells, Pt.slots] at X' e1 e2 h1 h2 h3 st hcl
    subst h1; subst h2; subst h3
    exact Or.inr ⟨q, (T.setVm vm₁).calling g' mk As.toArray, t, U', L, E, ce, hT, X', hL, e1, e2, hq, hce, hcv, vx_cls hW₁ hcl, st⟩
end Runs
section Rows
variable {p : Program} {l : Launch} {e : Env} {R : Room} {s : State} {m : MethodId} {args : Array Value} {below : List Frame} {meth : Method} {c : Code} {H : Heap} {locs : List Loc} {cells slots : Nat} {Q : State → Prop}
variable {mc ms : Nat} {free : Addr → Prop} {A0 A1 : Nat → Prop} {H0 : Heap} {a : Array Value} {pc : Nat} {ls : Array Slot} {st0 rest : List Value}
theorem vx_keep {st₀ t T' : State} {L : List Loc} (h0 : st₀.heap = H) (e1 : T'.heap = t.heap) (hS : va_S A0 H0 H locs) (hA : ∀ q, q < H.size → A1 q → A0 q) (hf : ∀ q, free q → A0 q) (hL : ∀ q ∈ L, free q.base) (hF : va_F A1 st₀ t) :
    H.size ≤ T'.heap.size ∧ (∀ q : Nat, q < H.size → ¬ A1 q → T'.heap[q]? = H[q]?) ∧ va_S A0 H0 T'.heap (locs ++ L) := by
  obtain ⟨hz, hk⟩ := hF
  rw [h0] at hz hk
  exact ⟨by rw [e1]; exact hz, fun q h1 h2 => by rw [e1]; exact hk q h1 h2,
    ⟨Nat.le_trans hS.1 (by rw [e1]; exact hz), fun q h1 h2 => by rw [e1, hk q (Nat.lt_of_lt_of_le h1 hS.1) (fun z => h2 (hA q (Nat.lt_of_lt_of_le h1 hS.1) z))]; exact hS.2.1 q h1 h2, fun q hq => by
      rcases List.mem_append.mp hq with h | h
      · exact hS.2.2 q h
      · exact hf _ (hL q h)⟩⟩
theorem vx_calli {S SX : Type} {post : Int32 → S → Prop} {px : SX → Prop} {B : S → State → Prop} {BX : String → SX → State → Prop} {AX : Nat → Prop} (hr : vx_Run p l e R s m args below meth c H locs cells slots mc ms (F0 m pc ls st0) rest (va_Qi post B A1 a) (vx_X px BX AX) free) (hS : va_S A0 H0 H locs) (hA : ∀ q, q < H.size → A1 q → A0 q) (hf : ∀ q, free q → A0 q) (hAX : ∀ q, q < H.size → AX q → A0 q)
    (kx : ∀ (E : String) (ce : Cell) (q9 : Addr) (u : SX) (t : State) (H1 : Heap) (locs1 : List Loc), t.heap = H1 → s.vm.Alike t.vm → px u → BX E u t → H.size ≤ H1.size → (∀ q : Nat, q < H.size → ¬ AX q → H1[q]? = H[q]?) → va_S A0 H0 H1 locs1 → H1[q9]? = some ce → ce.vm = .none → s.vm.findClass E = some ce.cls → vx_W p l e R s m args below meth c H1 locs1 (cells + mc) (slots + ms) Q (F0 m pc ls rest) q9)
    (kk : ∀ (r : Int32) (u : S) (t : State) (H1 : Heap) (locs1 : List Loc), t.heap = H1 → s.vm.Alike t.vm → post r u → B u t → H.size ≤ H1.size → (∀ q : Nat, q < H.size → ¬ A1 q → H1[q]? = H[q]?) → va_S A0 H0 H1 locs1 → W p l e R s m args below meth c H1 locs1 (cells + mc) (slots + ms) Q (F0 m (pc + 3) ls (.int r :: rest))) : W p l e R s m args below meth c H locs cells slots Q (F0 m pc ls st0) := by
  intro T hT X
  rcases hr T hT X with ⟨v, st₀, t, T', L, h0, X', hL, e1, e2, ⟨⟨r, u, hv, hp, hb⟩, hF⟩, st⟩ | ⟨q, st₀, t, T', L, E, ce, h0, X', hL, e1, e2, ⟨u, hp, hb, hF⟩, hce, hcv, hcl, st⟩
  · cases hv
    obtain ⟨k1, k2, k3⟩ := vx_keep h0 e1 hS hA hf hL hF
    obtain ⟨t2, a1, b1⟩ := kk r u t T'.heap (locs ++ L) e1.symm (by rw [← e2]; exact X'.warmed.alike) hp hb k1 k2 k3 T' rfl X'
    exact ⟨t2, st t2 a1, b1⟩
  · obtain ⟨k1, k2, k3⟩ := vx_keep h0 e1 hS hAX hf hL hF
    obtain ⟨t2, a1, b1⟩ := kx E ce q u t T'.heap (locs ++ L) e1.symm (by rw [← e2]; exact X'.warmed.alike) hp hb k1 k2 k3 (by rw [e1]; exact hce) hcv hcl T' rfl X'
    exact ⟨t2, st.trans a1, b1⟩
theorem vx_calll {S SX : Type} {post : Int64 → S → Prop} {px : SX → Prop} {B : S → State → Prop} {BX : String → SX → State → Prop} {AX : Nat → Prop} (hr : vx_Run p l e R s m args below meth c H locs cells slots mc ms (F0 m pc ls st0) rest (va_Ql post B A1 a) (vx_X px BX AX) free) (hS : va_S A0 H0 H locs) (hA : ∀ q, q < H.size → A1 q → A0 q) (hf : ∀ q, free q → A0 q) (hAX : ∀ q, q < H.size → AX q → A0 q)
    (kx : ∀ (E : String) (ce : Cell) (q9 : Addr) (u : SX) (t : State) (H1 : Heap) (locs1 : List Loc), t.heap = H1 → s.vm.Alike t.vm → px u → BX E u t → H.size ≤ H1.size → (∀ q : Nat, q < H.size → ¬ AX q → H1[q]? = H[q]?) → va_S A0 H0 H1 locs1 → H1[q9]? = some ce → ce.vm = .none → s.vm.findClass E = some ce.cls → vx_W p l e R s m args below meth c H1 locs1 (cells + mc) (slots + ms) Q (F0 m pc ls rest) q9)
    (kk : ∀ (r : Int64) (u : S) (t : State) (H1 : Heap) (locs1 : List Loc), t.heap = H1 → s.vm.Alike t.vm → post r u → B u t → H.size ≤ H1.size → (∀ q : Nat, q < H.size → ¬ A1 q → H1[q]? = H[q]?) → va_S A0 H0 H1 locs1 → W p l e R s m args below meth c H1 locs1 (cells + mc) (slots + ms) Q (F0 m (pc + 3) ls (.long r :: rest))) : W p l e R s m args below meth c H locs cells slots Q (F0 m pc ls st0) := by
  intro T hT X
  rcases hr T hT X with ⟨v, st₀, t, T', L, h0, X', hL, e1, e2, ⟨⟨r, u, hv, hp, hb⟩, hF⟩, st⟩ | ⟨q, st₀, t, T', L, E, ce, h0, X', hL, e1, e2, ⟨u, hp, hb, hF⟩, hce, hcv, hcl, st⟩
  · cases hv
    obtain ⟨k1, k2, k3⟩ := vx_keep h0 e1 hS hA hf hL hF
    obtain ⟨t2, a1, b1⟩ := kk r u t T'.heap (locs ++ L) e1.symm (by rw [← e2]; exact X'.warmed.alike) hp hb k1 k2 k3 T' rfl X'
    exact ⟨t2, st t2 a1, b1⟩
  · obtain ⟨k1, k2, k3⟩ := vx_keep h0 e1 hS hAX hf hL hF
    obtain ⟨t2, a1, b1⟩ := kx E ce q u t T'.heap (locs ++ L) e1.symm (by rw [← e2]; exact X'.warmed.alike) hp hb k1 k2 k3 (by rw [e1]; exact hce) hcv hcl T' rfl X'
    exact ⟨t2, st.trans a1, b1⟩
theorem vx_callf {S SX : Type} {post : UInt32 → S → Prop} {px : SX → Prop} {B : S → State → Prop} {BX : String → SX → State → Prop} {AX : Nat → Prop} (hr : vx_Run p l e R s m args below meth c H locs cells slots mc ms (F0 m pc ls st0) rest (va_Qf post B A1 a) (vx_X px BX AX) free) (hS : va_S A0 H0 H locs) (hA : ∀ q, q < H.size → A1 q → A0 q) (hf : ∀ q, free q → A0 q) (hAX : ∀ q, q < H.size → AX q → A0 q)
    (kx : ∀ (E : String) (ce : Cell) (q9 : Addr) (u : SX) (t : State) (H1 : Heap) (locs1 : List Loc), t.heap = H1 → s.vm.Alike t.vm → px u → BX E u t → H.size ≤ H1.size → (∀ q : Nat, q < H.size → ¬ AX q → H1[q]? = H[q]?) → va_S A0 H0 H1 locs1 → H1[q9]? = some ce → ce.vm = .none → s.vm.findClass E = some ce.cls → vx_W p l e R s m args below meth c H1 locs1 (cells + mc) (slots + ms) Q (F0 m pc ls rest) q9)
    (kk : ∀ (r : UInt32) (u : S) (t : State) (H1 : Heap) (locs1 : List Loc), t.heap = H1 → s.vm.Alike t.vm → post r u → B u t → H.size ≤ H1.size → (∀ q : Nat, q < H.size → ¬ A1 q → H1[q]? = H[q]?) → va_S A0 H0 H1 locs1 → W p l e R s m args below meth c H1 locs1 (cells + mc) (slots + ms) Q (F0 m (pc + 3) ls (.float r :: rest))) : W p l e R s m args below meth c H locs cells slots Q (F0 m pc ls st0) := by
  intro T hT X
  rcases hr T hT X with ⟨v, st₀, t, T', L, h0, X', hL, e1, e2, ⟨⟨r, u, hv, hp, hb⟩, hF⟩, st⟩ | ⟨q, st₀, t, T', L, E, ce, h0, X', hL, e1, e2, ⟨u, hp, hb, hF⟩, hce, hcv, hcl, st⟩
  · cases hv
    obtain ⟨k1, k2, k3⟩ := vx_keep h0 e1 hS hA hf hL hF
    obtain ⟨t2, a1, b1⟩ := kk r u t T'.heap (locs ++ L) e1.symm (by rw [← e2]; exact X'.warmed.alike) hp hb k1 k2 k3 T' rfl X'
    exact ⟨t2, st t2 a1, b1⟩
  · obtain ⟨k1, k2, k3⟩ := vx_keep h0 e1 hS hAX hf hL hF
    obtain ⟨t2, a1, b1⟩ := kx E ce q u t T'.heap (locs ++ L) e1.symm (by rw [← e2]; exact X'.warmed.alike) hp hb k1 k2 k3 (by rw [e1]; exact hce) hcv hcl T' rfl X'
    exact ⟨t2, st.trans a1, b1⟩
theorem vx_calld {S SX : Type} {post : UInt64 → S → Prop} {px : SX → Prop} {B : S → State → Prop} {BX : String → SX → State → Prop} {AX : Nat → Prop} (hr : vx_Run p l e R s m args below meth c H locs cells slots mc ms (F0 m pc ls st0) rest (va_Qd post B A1 a) (vx_X px BX AX) free) (hS : va_S A0 H0 H locs) (hA : ∀ q, q < H.size → A1 q → A0 q) (hf : ∀ q, free q → A0 q) (hAX : ∀ q, q < H.size → AX q → A0 q)
    (kx : ∀ (E : String) (ce : Cell) (q9 : Addr) (u : SX) (t : State) (H1 : Heap) (locs1 : List Loc), t.heap = H1 → s.vm.Alike t.vm → px u → BX E u t → H.size ≤ H1.size → (∀ q : Nat, q < H.size → ¬ AX q → H1[q]? = H[q]?) → va_S A0 H0 H1 locs1 → H1[q9]? = some ce → ce.vm = .none → s.vm.findClass E = some ce.cls → vx_W p l e R s m args below meth c H1 locs1 (cells + mc) (slots + ms) Q (F0 m pc ls rest) q9)
    (kk : ∀ (r : UInt64) (u : S) (t : State) (H1 : Heap) (locs1 : List Loc), t.heap = H1 → s.vm.Alike t.vm → post r u → B u t → H.size ≤ H1.size → (∀ q : Nat, q < H.size → ¬ A1 q → H1[q]? = H[q]?) → va_S A0 H0 H1 locs1 → W p l e R s m args below meth c H1 locs1 (cells + mc) (slots + ms) Q (F0 m (pc + 3) ls (.double r :: rest))) : W p l e R s m args below meth c H locs cells slots Q (F0 m pc ls st0) := by
  intro T hT X
  rcases hr T hT X with ⟨v, st₀, t, T', L, h0, X', hL, e1, e2, ⟨⟨r, u, hv, hp, hb⟩, hF⟩, st⟩ | ⟨q, st₀, t, T', L, E, ce, h0, X', hL, e1, e2, ⟨u, hp, hb, hF⟩, hce, hcv, hcl, st⟩
  · cases hv
    obtain ⟨k1, k2, k3⟩ := vx_keep h0 e1 hS hA hf hL hF
    obtain ⟨t2, a1, b1⟩ := kk r u t T'.heap (locs ++ L) e1.symm (by rw [← e2]; exact X'.warmed.alike) hp hb k1 k2 k3 T' rfl X'
    exact ⟨t2, st t2 a1, b1⟩
  · obtain ⟨k1, k2, k3⟩ := vx_keep h0 e1 hS hAX hf hL hF
    obtain ⟨t2, a1, b1⟩ := kx E ce q u t T'.heap (locs ++ L) e1.symm (by rw [← e2]; exact X'.warmed.alike) hp hb k1 k2 k3 (by rw [e1]; exact hce) hcv hcl T' rfl X'
    exact ⟨t2, st.trans a1, b1⟩
theorem vx_callv {S SX : Type} {post : S → Prop} {px : SX → Prop} {B : S → State → Prop} {BX : String → SX → State → Prop} {AX : Nat → Prop} (hr : vx_Run p l e R s m args below meth c H locs cells slots mc ms (F0 m pc ls st0) rest (va_Qv post B A1 a) (vx_X px BX AX) free) (hS : va_S A0 H0 H locs) (hA : ∀ q, q < H.size → A1 q → A0 q) (hf : ∀ q, free q → A0 q) (hAX : ∀ q, q < H.size → AX q → A0 q)
    (kx : ∀ (E : String) (ce : Cell) (q9 : Addr) (u : SX) (t : State) (H1 : Heap) (locs1 : List Loc), t.heap = H1 → s.vm.Alike t.vm → px u → BX E u t → H.size ≤ H1.size → (∀ q : Nat, q < H.size → ¬ AX q → H1[q]? = H[q]?) → va_S A0 H0 H1 locs1 → H1[q9]? = some ce → ce.vm = .none → s.vm.findClass E = some ce.cls → vx_W p l e R s m args below meth c H1 locs1 (cells + mc) (slots + ms) Q (F0 m pc ls rest) q9)
    (kk : ∀ (u : S) (t : State) (H1 : Heap) (locs1 : List Loc), t.heap = H1 → s.vm.Alike t.vm → post u → B u t → H.size ≤ H1.size → (∀ q : Nat, q < H.size → ¬ A1 q → H1[q]? = H[q]?) → va_S A0 H0 H1 locs1 → W p l e R s m args below meth c H1 locs1 (cells + mc) (slots + ms) Q (F0 m (pc + 3) ls (rest))) : W p l e R s m args below meth c H locs cells slots Q (F0 m pc ls st0) := by
  intro T hT X
  rcases hr T hT X with ⟨v, st₀, t, T', L, h0, X', hL, e1, e2, ⟨⟨u, hv, hp, hb⟩, hF⟩, st⟩ | ⟨q, st₀, t, T', L, E, ce, h0, X', hL, e1, e2, ⟨u, hp, hb, hF⟩, hce, hcv, hcl, st⟩
  · cases hv
    obtain ⟨k1, k2, k3⟩ := vx_keep h0 e1 hS hA hf hL hF
    obtain ⟨t2, a1, b1⟩ := kk u t T'.heap (locs ++ L) e1.symm (by rw [← e2]; exact X'.warmed.alike) hp hb k1 k2 k3 T' rfl X'
    exact ⟨t2, st t2 a1, b1⟩
  · obtain ⟨k1, k2, k3⟩ := vx_keep h0 e1 hS hAX hf hL hF
    obtain ⟨t2, a1, b1⟩ := kx E ce q u t T'.heap (locs ++ L) e1.symm (by rw [← e2]; exact X'.warmed.alike) hp hb k1 k2 k3 (by rw [e1]; exact hce) hcv hcl T' rfl X'
    exact ⟨t2, st.trans a1, b1⟩
/-- caught by the row x of this method's table; the rows ahead don't take it -/
theorem vx_catch {own name : String} {E : String} {ce : Cell} {q : Addr} (hown : s.vm.findClass own = some m.cls) (pre : List ExceptionTableEntry) (x : ExceptionTableEntry) (suf : List ExceptionTableEntry) (hsplit : c.exceptionTable.toList = pre ++ x :: suf)
    (hpass : ∀ z ∈ pre, covers z pc = false ∨ (z.catchType ≠ 0 ∧ ∃ nm : String, (Cond.classLink own z.catchType nm).before args s = true ∧ va_Nc E nm s)) (hx : covers x pc = true) (h0 : x.catchType ≠ 0)
    (hlink : (Cond.classLink own x.catchType name).before args s = true) (hcast : (Cond.castable E name).before args s = true) (hcell : H[q]? = some ce) (hv : ce.vm = .none) (hcl : s.vm.findClass E = some ce.cls)
    (kk : W p l e R s m args below meth c H locs cells slots Q (F0 m x.handlerPc ls [.ref q])) : vx_W p l e R s m args below meth c H locs cells slots Q (F0 m pc ls rest) q := by
  intro T hT X
  have hpl : e.platform.magicAccessors = ({} : Platform).magicAccessors := by rw [X.admits.platform]
  obtain ⟨c3, c4, hc3, hc4, hasg⟩ := Cond.castable_spec hcast
  cases Option.some.inj (hc3.symm.trans hcl)
  obtain ⟨c5, hc5, hcl5⟩ := Cond.classLink_spec hown hlink e.platform hpl
  cases Option.some.inj (hc4.symm.trans hc5)
  obtain ⟨vm', X', st⟩ := X.thenCaughtThrough q (g := F0 m pc ls rest) rfl (Steps.refl _) (by rw [hT]; exact hcell) (by rw [hv]; rfl) (by obtain ⟨k9, h9, -⟩ := Vm.findClass_spec hcl; exact ⟨k9, h9⟩) pre x suf hsplit
    (fun z hz => by
      rcases hpass z hz with h | ⟨hz0, nm, hl1, hn1⟩
      · exact Or.inl h
      · obtain ⟨c6, hc6, hcl6⟩ := Cond.classLink_spec hown hl1 e.platform hpl
        obtain ⟨a8, b8, h1, h2, h3⟩ := hn1
        cases Option.some.inj (h1.symm.trans hcl)
        cases Option.some.inj (h2.symm.trans hc6)
        exact Or.inr ⟨hz0, _, hcl6, h3⟩) hx (Or.inr ⟨h0, c4, hcl5, hasg⟩)
  obtain ⟨t, a1, b1⟩ := kk (T.setVm vm') hT X'
  exact ⟨t, st.trans a1, b1⟩
end Rows
section Ends
variable {p : Program} {l : Launch} {e : Env} {R : Room} {s : State} {m : MethodId} {args : Array Value} {below : List Frame} {meth : Method} {c : Code} {H : Heap} {locs : List Loc} {cells slots : Nat} {Q : State → Prop}
variable {mc ms : Nat} {free : Addr → Prop} {A0 A1 : Nat → Prop} {H0 : Heap} {a : Array Value} {ls : Array Slot} {st0 rest : List Value}
variable {Qc : Array Value → State → Outcome → State → Prop} {XC : String → State → State → Prop}
/-- what a body that may throw owes at its end -/
def vx_MQ (below : List Frame) (Qc : Array Value → State → Outcome → State → Prop) (XC : String → State → State → Prop) (a : Array Value) (s : State) (mc ms : Nat) (free : Addr → Prop) : State → Prop := fun t =>
  ∃ o, t.status = .running ∧ Ended t below o ∧ vx_Q Qc XC mc ms free a s o t
theorem vx_ret {g : JFrame} {mc ms : Nat} (k : W p l e R s m args below meth c H locs cells slots (MQ below Qc args s mc ms free) g) : W p l e R s m args below meth c H locs cells slots (vx_MQ below Qc XC args s mc ms free) g := by
  intro T hT X
  obtain ⟨t, a1, o, b1, b2, b3, b4⟩ := k T hT X
  exact ⟨t, a1, o, b1, b2, Or.inl ⟨b3, b4⟩⟩
/-- not caught here: it goes on to the caller -/
theorem vx_widen {g : JFrame} {q : Addr} {k n : Nat} (h1 : cells ≤ k) (h2 : slots ≤ n) (kk : vx_W p l e R s m args below meth c H locs k n Q g q) : vx_W p l e R s m args below meth c H locs cells slots Q g q := fun T hT X => kk T hT (stand_widen X h1 h2)
theorem vx_out {pc : Nat} {E : String} {ce : Cell} {q : Addr} {mc ms : Nat} (hout : ∀ x ∈ c.exceptionTable.toList, covers x pc = false) (hlocks : meth.locks = false) (hcell : H[q]? = some ce) (hv : ce.vm = .none) (hcl : s.vm.findClass E = some ce.cls)
    (hx : ∀ t : State, t.heap = H → s.vm.Alike t.vm → XC E s t) (hf : ∀ z ∈ locs, free z.base) (hc : cells ≤ mc) (hs : slots ≤ ms) :
    vx_W p l e R s m args below meth c H locs cells slots (vx_MQ below Qc XC args s mc ms free) (F0 m pc ls rest) q := by
  intro T hT X
  obtain ⟨st1, hrun, hend, hW, hsm⟩ := X.leaveThrown q (g := F0 m pc ls rest) rfl rfl rfl hout hlocks
  have hcell9 : (T.setFrames (.throwing q :: below)).heap[q]? = some ce := by
    show T.heap[q]? = some ce
    rw [hT]; exact hcell
  exact ⟨_, st1, .threw q, hrun, hend, Or.inr ⟨q, rfl, E, ce, locs, hx _ hT hW.alike, hcell9, hv, hcl, hW, hsm.mono hc hs, hf⟩⟩
theorem vx_frame {U : State} {k n : Nat} (h : s.sameButNew ({ U with vm := s.vm } : State) locs k n) : s.heap.size ≤ U.heap.size ∧ ∀ q : Nat, q < s.heap.size → (∀ z ∈ locs, z.base ≠ q) → U.heap[q]? = s.heap[q]? := by
  obtain ⟨-, h2, -, -, -, h6⟩ := h
  refine ⟨h2, fun q hq hz => ?_⟩
  obtain ⟨c9, e1, e2, e3, e4⟩ := h6 q _ (Array.getElem?_eq_getElem hq)
  have hs : c9.slots = (s.heap[q]).slots := Array.ext_getElem? fun i => e4 i fun hm => hz _ hm rfl
  have h9 : c9 = s.heap[q] := by
    rw [hs] at e2
    exact e2
  have e5 : U.heap[q]? = some c9 := e1
  rw [e5, h9, Array.getElem?_eq_getElem hq]
/-- the words of a throw but the four that speak of the heap -/
def vx_no (w : Cond) : Bool := decide (w ≠ .isRef (.static Bundle.tN "UNASSIGNED_STACK" Bundle.steD)) && decide (w ≠ .isRef (.static Bundle.tN "SUPPRESSED_SENTINEL" Bundle.listD)) && decide (w ≠ .laysStatic Bundle.tN "UNASSIGNED_STACK" Bundle.steD) && decide (w ≠ .laysStatic Bundle.tN "SUPPRESSED_SENTINEL" Bundle.listD)
def vx_at0 (own : String) (ic : Nat) (X : String) (names : List String) : List Cond := (Bundle.ownAtoms0 own ic X names).filter vx_no
def vx_atS (own : String) (ic : Nat) (X : String) (names : List String) : List Cond := (Bundle.ownAtoms own ic X names).filter vx_no
/-- a word that the tables alone decide, or a good one -/
def vx_ot (w : Cond) : Bool := w.onTables || goodWord w
theorem vx_ot_at {args a' : Array Value} {s U : State} {w : Cond} (hW : s.WarmedH U.vm) (hvm : s.vm = U.vm) (hg : vx_ot w = true) (h : w.before args s = true) : w.before a' U = true := by
  simp only [vx_ot, Bool.or_eq_true] at hg
  rcases hg with hg | hg
  · exact va_tabs hg hvm h
  · exact word_at hW (good_of_word hg) h
/-- a list's words: the good ones out of the method's own list, the others by premises of their own -/
theorem vx_hat {args : Array Value} {s : State} {L B : List Cond} (h1 : ∀ w ∈ L.filter goodWord, w.before args s = true) (h2 : ∀ w ∈ L.filter (fun w => !goodWord w), w ∈ B) (h3 : ∀ w ∈ B, w.before args s = true) : ∀ w ∈ L, w.before args s = true := by
  intro w hw
  by_cases g : goodWord w = true
  · exact h1 w (List.mem_filter.mpr ⟨hw, g⟩)
  · refine h3 w (h2 w (List.mem_filter.mpr ⟨hw, ?_⟩))
    show (!goodWord w) = true
    cases hgw : goodWord w
    · rfl
    · exact absurd hgw g
theorem vx_c {args : Array Value} {s : State} {w : Cond} {B : List Cond} (h : w.before args s = true) (t : ∀ w ∈ B, w.before args s = true) : ∀ w' ∈ w :: B, w'.before args s = true := fun w' h' => (List.mem_cons.mp h').elim (fun e => by rw [e]; exact h) (t w')
theorem vx_n {args : Array Value} {s : State} : ∀ w ∈ ([] : List Cond), w.before args s = true := fun _ h => nomatch h
theorem vx_own {args : Array Value} {s : State} {L : List Cond} (h1 : ∀ w ∈ L.filter vx_no, w.before args s = true)
    (hU : (Cond.isRef (.static Bundle.tN "UNASSIGNED_STACK" Bundle.steD)).before args s = true) (hN : (Cond.isRef (.static Bundle.tN "SUPPRESSED_SENTINEL" Bundle.listD)).before args s = true)
    (lU : (Cond.laysStatic Bundle.tN "UNASSIGNED_STACK" Bundle.steD).before args s = true) (lN : (Cond.laysStatic Bundle.tN "SUPPRESSED_SENTINEL" Bundle.listD).before args s = true) : ∀ w ∈ L, w.before args s = true := by
  intro w hw
  by_cases e1 : w = .isRef (.static Bundle.tN "UNASSIGNED_STACK" Bundle.steD)
  · rw [e1]; exact hU
  · by_cases e2 : w = .isRef (.static Bundle.tN "SUPPRESSED_SENTINEL" Bundle.listD)
    · rw [e2]; exact hN
    · by_cases e3 : w = .laysStatic Bundle.tN "UNASSIGNED_STACK" Bundle.steD
      · rw [e3]; exact lU
      · by_cases e4 : w = .laysStatic Bundle.tN "SUPPRESSED_SENTINEL" Bundle.listD
        · rw [e4]; exact lN
        · exact h1 w (List.mem_filter.mpr ⟨hw, by unfold vx_no; rw [decide_eq_true e1, decide_eq_true e2, decide_eq_true e3, decide_eq_true e4]; rfl⟩)
/-- where a static field lies, its class's statics cell in H -/
def vx_L (C n d : String) (A : Nat → Prop) (U : State) (H : Heap) : Prop := ∃ (c : ClassId) (k : Class) (i : Nat) (f : Field) (a : Nat) (cell : Cell), U.vm.findClass C = some c ∧ U.fieldFound? C n d = some (c, k, i, f) ∧ f.isStatic = true ∧ k.statics = some a ∧ H[a]? = some cell ∧ cell.vm.isStatics = true ∧ cell.cls = c ∧ f.slot < cell.slots.size ∧ k.staticTypes[f.slot]? = some f.type ∧ ¬ A a
theorem vx_L.moved {C n d : String} {A : Nat → Prop} {u U : State} {H : Heap} (hvm : u.vm.Alike U.vm) (h : vx_L C n d A u H) : vx_L C n d A U H := by
  obtain ⟨c, k, i, f, a, cell, h1, h2, h3, h4, h5, h6, h7, h8, h9, h10⟩ := h
  obtain ⟨k', hi', he⟩ := State.fieldFound?_setVm hvm h2
  exact ⟨c, k', i, f, a, cell, by rw [hvm.findClass]; exact h1, hi', h3, by rw [he]; exact h4, h5, h6, h7, h8, by rw [he]; exact h9, h10⟩
theorem vx_L.kept {C n d : String} {A : Nat → Prop} {U : State} {H H1 : Heap} (h : vx_L C n d A U H) (hq : ∀ a : Nat, a < H.size → ¬ A a → H1[a]? = H[a]?) : vx_L C n d A U H1 := by
  obtain ⟨c, k, i, f, a, cell, h1, h2, h3, h4, h5, h6, h7, h8, h9, h10⟩ := h
  exact ⟨c, k, i, f, a, cell, h1, h2, h3, h4, by rw [hq a (Array.getElem?_eq_some_iff.mp h5).1 h10]; exact h5, h6, h7, h8, h9, h10⟩
theorem vx_L.narrow {C n d : String} {A B : Nat → Prop} {U : State} {H : Heap} (h : vx_L C n d A U H) (hAB : ∀ q, B q → A q) : vx_L C n d B U H := by
  obtain ⟨c, k, i, f, a, cell, h1, h2, h3, h4, h5, h6, h7, h8, h9, h10⟩ := h
  exact ⟨c, k, i, f, a, cell, h1, h2, h3, h4, h5, h6, h7, h8, h9, fun z => h10 (hAB _ z)⟩
theorem vx_L.word {C n d : String} {A : Nat → Prop} {s : State} {args : Array Value} (h : vx_L C n d A s s.heap) : (Cond.laysStatic C n d).before args s = true := by
  obtain ⟨c, k, i, f, a, cell, h1, h2, h3, h4, h5, h6, h7, h8, h9, -⟩ := h
  show (Cond.laysStatic C n d).holds args s none s [] = true
  exact Cond.laysStatic_of h1 h2 h3 h4 h5 h6 h7 h8 h9
/-- .. and what it holds: null or some reference -/
def vx_Zq (C n d : String) (A : Nat → Prop) (U : State) (H : Heap) : Prop := va_Zq C n d A U H ∧ vx_L C n d A U H
theorem vx_Zq.moved {C n d : String} {A : Nat → Prop} {u U : State} {H : Heap} (hvm : u.vm.Alike U.vm) (h : vx_Zq C n d A u H) : vx_Zq C n d A U H := ⟨va_Zq.moved hvm h.1, vx_L.moved hvm h.2⟩
theorem vx_Zq.kept {C n d : String} {A : Nat → Prop} {U : State} {H H1 : Heap} (h : vx_Zq C n d A U H) (hq : ∀ a : Nat, a < H.size → ¬ A a → H1[a]? = H[a]?) : vx_Zq C n d A U H1 := ⟨va_Zq.kept h.1 hq, vx_L.kept h.2 hq⟩
theorem vx_Zq.narrow {C n d : String} {A B : Nat → Prop} {U : State} {H : Heap} (h : vx_Zq C n d A U H) (hAB : ∀ q, B q → A q) : vx_Zq C n d B U H := ⟨va_Zq.narrow h.1 hAB, vx_L.narrow h.2 hAB⟩
theorem vx_Zqof {args : Array Value} {s : State} {C n d : String} {A : Nat → Prop} (hl : (Cond.laysStatic C n d).before args s = true) (hini : (Cond.initialized C).before args s = true) (h : (Cond.isRef (.static C n d)).before args s = true) (hA : ∀ a : Nat, a < s.heap.size → ¬ A a) : vx_Zq C n d A s s.heap := by
  refine ⟨va_Zqof hl hini h hA, ?_⟩
  obtain ⟨c, k, i, f, a, cell, h1, h2, h3, h4, h5, h6, h7, h8, h9⟩ := Cond.laysStatic_spec hl
  exact ⟨c, k, i, f, a, cell, h1, h2, h3, h4, h5, h6, h7, h8, h9, hA a (Array.getElem?_eq_some_iff.mp h5).1⟩
theorem vx_isRef {C n d : String} {v : Value} {A : Nat → Prop} {s : State} {args : Array Value} (h : va_Z C n d v A s s.heap) (hv : v.isRef = true) : (Cond.isRef (.static C n d)).before args s = true := by
  obtain ⟨cf, kf, fi, f, a, cell, h1, h2, h3, h4, h5, h6, h7, -⟩ := h
  have he : (Term.static C n d).eval args s none [] s = some v := by
    simp [Term.eval, State.fieldNamed?, h1, h2, h4, h5, h6, h7]
  simp only [Cond.before, Cond.holds, Cond.value, he]
  cases v <;> simp_all [Value.isRef]
theorem vx_isRefq {C n d : String} {A : Nat → Prop} {s : State} {args : Array Value} (h : va_Zq C n d A s s.heap) : (Cond.isRef (.static C n d)).before args s = true := by
  rcases h with h | ⟨t, h⟩
  · exact vx_isRef h rfl
  · exact vx_isRef h rfl
/-- the same frame, seen from here: as if the method were called anew in this heap -/
theorem vx_rebase {T : State} (X : Stand p l e R s m args below meth c T locs cells slots) {R' : Room} (hf : R'.frames ≤ R.frames) (hl : R'.locals ≤ R.locals) (hc : cells + R'.cells ≤ R.cells) (hs : slots + R'.slots ≤ R.slots) :
    Stand p l e R' ((T.setVm s.vm).setFrames (.invoking m args :: below)) m args below meth c T [] 0 0 := by
  have htop : (T.setVm s.vm).topJava?.isSome := X.here.top
  have hF : ((T.setVm s.vm).setFrames (.invoking m args :: below)).frames = .invoking m args :: below := State.frames_setFrames _ (State.cur_lt_of_top htop)
  obtain ⟨g₀, hg0⟩ := Option.isSome_iff_exists.mp htop
  obtain ⟨r, hr⟩ := State.topJava?_eq_some.mp hg0
  have hl9 : e.platform.stackLimits (T.setVm s.vm).me = e.platform.stackLimits s.me := X.limits
  have hb9 : (T.setVm s.vm).me.stackBytes = s.me.stackBytes := X.bytes
  refine ⟨X.admits, X.cas, X.clock, hF, ?_, X.hears, X.method, X.code, X.here, X.tail, X.warmed, ?_, ?_, ?_⟩
  · have h := X.room
    have hU : ((T.setVm s.vm).setFrames (.invoking m args :: below)).localsInUse = s.localsInUse := by
      rw [State.localsInUse_invoking hF (meth := meth) (c := c) X.method X.code, State.localsInUse_invoking X.frames X.method X.code]
    simp only [State.hasRoom, Bool.and_eq_true, decide_eq_true_eq] at h ⊢
    obtain ⟨⟨⟨⟨h1, h2, h3, h4, h5, h6⟩, h7⟩, h8⟩, h9⟩ := h
    rw [X.frames, List.length_cons] at h2 h3
    have q1 := X.heapSize
    have q2 := X.used
    simp only [hF, hU, List.length_cons, State.stackLimits_setFrames, State.stackBytes_setFrames, hl9, hb9]
    refine ⟨⟨⟨⟨by omega, by omega, by omega, by omega, by omega, h6⟩, ?_⟩, ?_⟩, X.book⟩
    · show T.heap.size + R'.cells ≤ e.platform.maxCells
      omega
    · show T.slotsUsed + R'.slots ≤ e.platform.maxSlots
      omega
  · rw [State.stackLimits_setFrames]; rfl
  · rw [State.stackBytes_setFrames]; rfl
  · refine ⟨?_, Nat.le_refl _, Nat.le_refl _, ?_, ?_, fun a c9 h9 => ⟨c9, h9, rfl, rfl, fun _ _ => rfl⟩⟩
    · obtain ⟨t, ht, -⟩ := State.frames_cons hr
      show T.setVm s.vm = { ((T.setVm s.vm).setFrames (.invoking m args :: below)).setFrames (T.setVm s.vm).frames with heap := T.heap, slotsUsed := T.slotsUsed }
      rw [State.setFrames_setFrames, State.setFrames_self ht]
      rfl
    · show T.slotsUsed = T.slotsUsed + ((T.heap.toList.drop T.heap.size).map (·.slots.size)).sum
      rw [List.drop_eq_nil_of_le (Nat.le_of_eq Array.length_toList)]
      rfl
    · show ((T.heap.toList.drop T.heap.size).map (·.slots.size)).sum ≤ 0
      rw [List.drop_eq_nil_of_le (Nat.le_of_eq Array.length_toList)]
      exact Nat.le_refl _
/-- 'throw new E()': new; dup; invokespecial; athrow -/
theorem vx_throw0 {cc : ByteArray} {pc : Nat} (hexec : p.tables.exec = Jvm.exec) (hb : c.code = cc) (hl : l.stackTraces = false) {own cls : String} {names : List String} {ik ic mc ms : Nat} {A : Nat → Prop}
    (hown : s.vm.findClass own = some m.cls) (hcls : Bundle.fit cls = true) (hnames : ∀ n ∈ names, Bundle.fit n = true)
    (hk : (Cond.classLink own ik cls).before args s = true) (hini : (Cond.initialized cls).before args s = true) (hat : ∀ w ∈ vx_at0 own ic cls names, w.before args s = true)
    (hgood : ∀ w ∈ Cond.classLink own ik cls :: Cond.initialized cls :: vx_at0 own ic cls names, vx_ot w = true)
    (hU : vx_Zq Bundle.tN "UNASSIGNED_STACK" Bundle.steD A s s.heap) (hN : vx_Zq Bundle.tN "SUPPRESSED_SENTINEL" Bundle.listD A s s.heap) (hS : va_S A s.heap H locs) (hsize : ls.size = c.maxLocals)
    (d0 : decode cc pc = .ok (.new ik, 3)) (d3 : decode cc (pc + 3) = .ok (.dup, 1)) (d4 : decode cc (pc + 4) = .ok (.invokespecial ic, 3)) (d7 : decode cc (pc + 7) = .ok (.athrow, 1))
    (hout : ∀ x ∈ c.exceptionTable.toList, covers x (pc + 7) = false)
    (hRframes : names.length + 3 < R.frames) (hRlocals : (rest.map fun v => v.category).sum + (13 * (names.length + 1) + 42) ≤ R.locals) (hRcells : cells + 1 ≤ R.cells) (hRslots : slots + 6 ≤ R.slots) (hlocks : meth.locks = false)
    (hx : ∀ t : State, s.vm.Alike t.vm → H.size ≤ t.heap.size → (∀ q : Nat, q < H.size → t.heap[q]? = H[q]?) → XC cls s t)
    (hf : ∀ z ∈ locs, free z.base) (hc : cells + 1 ≤ mc) (hs : slots + 6 ≤ ms) :
    W p l e R s m args below meth c H locs cells slots (vx_MQ below Qc XC args s mc ms free) (F0 m pc ls rest) := by
  intro T hT X
  have htr : e.platform.stackTraces = false := (show e.platform.stackTraces = l.stackTraces by rw [X.admits.platform]).trans hl
  have Y := vx_rebase X (R' := { frames := R.frames, locals := R.locals, cells := 1, slots := 6 }) (Nat.le_refl _) (Nat.le_refl _) hRcells hRslots
  obtain ⟨s', hA⟩ : ∃ z, z = (T.setVm s.vm).setFrames (.invoking m args :: below) := ⟨_, rfl⟩
  rw [← hA] at Y
  have hvm : s'.vm = s.vm := by rw [hA]; rfl
  have hhp : s'.heap = H := by rw [hA]; exact hT
  have hW0 : s.WarmedH s'.vm := by rw [hvm]; exact State.WarmedH.refl s
  have hat' : ∀ w ∈ vx_at0 own ic cls names, w.before args s' = true := fun w hw => vx_ot_at hW0 hvm.symm (hgood w (List.mem_cons_of_mem _ (List.mem_cons_of_mem _ hw))) (hat w hw)
  have hk' : (Cond.classLink own ik cls).before args s' = true := vx_ot_at hW0 hvm.symm (hgood _ List.mem_cons_self) hk
  have hini' : (Cond.initialized cls).before args s' = true := vx_ot_at hW0 hvm.symm (hgood _ (List.mem_cons_of_mem _ List.mem_cons_self)) hini
  have hU' : vx_Zq Bundle.tN "UNASSIGNED_STACK" Bundle.steD A s' s'.heap := by rw [hhp]; exact vx_Zq.moved hW0.alike (hU.kept hS.2.1)
  have hN' : vx_Zq Bundle.tN "SUPPRESSED_SENTINEL" Bundle.listD A s' s'.heap := by rw [hhp]; exact vx_Zq.moved hW0.alike (hN.kept hS.2.1)
  have h : ∀ w ∈ Bundle.ownAtoms0 own ic cls names, w.before args s' = true := vx_own hat' (vx_isRefq hU'.1) (vx_isRefq hN'.1) hU'.2.word hN'.2.word
  have hown' : s'.vm.findClass own = some m.cls := by rw [hvm]; exact hown
  have hins : (Cond.instantiable cls 6).before args s' = true := h _ (by simp [Bundle.ownAtoms0])
  obtain ⟨vm₁, cX, kX, hfX, hkX, -, -, X₁, st1⟩ := Y.newCold hexec (own := own) (C := cls) (index := ik) (n := 6) hown' hk' hins hini'
    (g := F0 m pc ls rest) rfl (by rw [hb]; exact d0) (Nat.le_refl _) (Nat.le_refl _)
  generalize hT1 : (T.setVm vm₁).pushCell { cls := cX, slots := kX.instanceTypes.map defaultValue, vm := .none } = T1 at X₁ st1
  have hcat : (Value.ref T.heap.size).category = 1 := rfl
  have hcellA : T1.heap[T.heap.size]? = some (freshCell cX kX) := by rw [← hT1]; exact State.heap_pushCell_size _ _
  have d3' : decode c.code (pc + 3) = .ok (.dup, 1) := by rw [hb]; exact d3
  obtain ⟨U, hsteps, hrun, hend, hW, hsame, ce, hce, hO⟩ := X₁.ctorThrow0 hexec htr (own := own) (cls := cls) (names := names) (ic := ic) hown' hcls hnames h (fun x hx => nomatch hx) hfX hkX hcellA (by rw [hhp, hT]; exact Nat.le_refl _)
    (g := { method := m, pc := pc + 4, locals := ls, stack := .ref T.heap.size :: .ref T.heap.size :: rest, locked := none }) rfl hsize rfl rfl (rest := rest) rfl
    (by rw [hb]; exact d4) (by rw [hb]; exact d7) hout hRframes (by simp only [List.map_cons, List.sum_cons, hcat]; omega) hlocks
  obtain ⟨f1, f2⟩ := vx_frame hsame
  rw [hhp] at f1 f2
  have hWs : s.WarmedH U.vm := State.WarmedH.trans hW0 hW
  have hcl : s.vm.findClass cls = some ce.cls := by
    have h9 := hO.cls
    rw [hvm] at h9
    exact h9
  have hall : s.sameButNew ({ U with vm := s.vm } : State) locs mc ms := by
    subst hA
    obtain ⟨e1, e2⟩ := hsame
    rw [State.setFrames_setFrames] at e1
    have h2 : (T.setVm s.vm).sameButNew ({ U with vm := s.vm } : State) [] (0 + 1) (0 + 6) := ⟨e1, e2⟩
    have h3 := X.same.trans h2
    rw [List.append_nil] at h3
    exact h3.mono hc hs
  refine ⟨U, ?_, .threw T.heap.size, hrun, hend, Or.inr ⟨T.heap.size, rfl, cls, ce, locs, hx U hWs.alike f1 (fun q hq => f2 q hq (fun z hz => nomatch hz)), hce, hO.vm, hcl, hWs, hall, hf⟩⟩
  refine st1 _ ?_
  show Steps p.tables e below (T1.setTop { method := m, pc := pc + 3, locals := ls, stack := .ref T.heap.size :: rest, locked := none }) _
  jvm_step X₁.here [X₁.here.top, hexec, d3', Value.category]
  exact hsteps
/-- 'throw new E("text")': new; dup; ldc; invokespecial; athrow -/
theorem vx_throwS {cc : ByteArray} {pc : Nat} (hexec : p.tables.exec = Jvm.exec) (hb : c.code = cc) (hl : l.stackTraces = false) {own cls text : String} {names : List String} {ik is ic mc ms sa : Nat} {A : Nat → Prop}
    (hown : s.vm.findClass own = some m.cls) (hcls : Bundle.fit cls = true) (hnames : ∀ n ∈ names, Bundle.fit n = true)
    (hk : (Cond.classLink own ik cls).before args s = true) (hini : (Cond.initialized cls).before args s = true) (hstr : vk_R own is text sa s) (hat : ∀ w ∈ vx_atS own ic cls names, w.before args s = true)
    (hgood : ∀ w ∈ Cond.classLink own ik cls :: Cond.initialized cls :: vx_atS own ic cls names, vx_ot w = true)
    (hU : vx_Zq Bundle.tN "UNASSIGNED_STACK" Bundle.steD A s s.heap) (hN : vx_Zq Bundle.tN "SUPPRESSED_SENTINEL" Bundle.listD A s s.heap) (hS : va_S A s.heap H locs) (hsize : ls.size = c.maxLocals)
    (d0 : decode cc pc = .ok (.new ik, 3)) (d3 : decode cc (pc + 3) = .ok (.dup, 1)) (d4 : decode cc (pc + 4) = .ok (.ldc is, 2)) (d6 : decode cc (pc + 6) = .ok (.invokespecial ic, 3)) (d9 : decode cc (pc + 9) = .ok (.athrow, 1))
    (hout : ∀ x ∈ c.exceptionTable.toList, covers x (pc + 9) = false)
    (hRframes : names.length + 3 < R.frames) (hRlocals : (rest.map fun v => v.category).sum + (13 * (names.length + 1) + 43) ≤ R.locals) (hRcells : cells + 1 ≤ R.cells) (hRslots : slots + 6 ≤ R.slots) (hlocks : meth.locks = false)
    (hx : ∀ t : State, s.vm.Alike t.vm → H.size ≤ t.heap.size → (∀ q : Nat, q < H.size → t.heap[q]? = H[q]?) → XC cls s t)
    (hf : ∀ z ∈ locs, free z.base) (hc : cells + 1 ≤ mc) (hs : slots + 6 ≤ ms) :
    W p l e R s m args below meth c H locs cells slots (vx_MQ below Qc XC args s mc ms free) (F0 m pc ls rest) := by
  intro T hT X
  have htr : e.platform.stackTraces = false := (show e.platform.stackTraces = l.stackTraces by rw [X.admits.platform]).trans hl
  have Y := vx_rebase X (R' := { frames := R.frames, locals := R.locals, cells := 1, slots := 6 }) (Nat.le_refl _) (Nat.le_refl _) hRcells hRslots
  obtain ⟨s', hA⟩ : ∃ z, z = (T.setVm s.vm).setFrames (.invoking m args :: below) := ⟨_, rfl⟩
  rw [← hA] at Y
  have hvm : s'.vm = s.vm := by rw [hA]; rfl
  have hhp : s'.heap = H := by rw [hA]; exact hT
  have hW0 : s.WarmedH s'.vm := by rw [hvm]; exact State.WarmedH.refl s
  have hat' : ∀ w ∈ vx_atS own ic cls names, w.before args s' = true := fun w hw => vx_ot_at hW0 hvm.symm (hgood w (List.mem_cons_of_mem _ (List.mem_cons_of_mem _ hw))) (hat w hw)
  have hk' : (Cond.classLink own ik cls).before args s' = true := vx_ot_at hW0 hvm.symm (hgood _ List.mem_cons_self) hk
  have hini' : (Cond.initialized cls).before args s' = true := vx_ot_at hW0 hvm.symm (hgood _ (List.mem_cons_of_mem _ List.mem_cons_self)) hini
  have hU' : vx_Zq Bundle.tN "UNASSIGNED_STACK" Bundle.steD A s' s'.heap := by rw [hhp]; exact vx_Zq.moved hW0.alike (hU.kept hS.2.1)
  have hN' : vx_Zq Bundle.tN "SUPPRESSED_SENTINEL" Bundle.listD A s' s'.heap := by rw [hhp]; exact vx_Zq.moved hW0.alike (hN.kept hS.2.1)
  have h : ∀ w ∈ Bundle.ownAtoms own ic cls names, w.before args s' = true := vx_own hat' (vx_isRefq hU'.1) (vx_isRefq hN'.1) hU'.2.word hN'.2.word
  have hown' : s'.vm.findClass own = some m.cls := by rw [hvm]; exact hown
  have hins : (Cond.instantiable cls 6).before args s' = true := h _ (by simp [Bundle.ownAtoms])
  obtain ⟨vm₁, cX, kX, hfX, hkX, -, -, X₁, st1⟩ := Y.newCold hexec (own := own) (C := cls) (index := ik) (n := 6) hown' hk' hins hini'
    (g := F0 m pc ls rest) rfl (by rw [hb]; exact d0) (Nat.le_refl _) (Nat.le_refl _)
  generalize hT1 : (T.setVm vm₁).pushCell { cls := cX, slots := kX.instanceTypes.map defaultValue, vm := .none } = T1 at X₁ st1
  have hcat : (Value.ref T.heap.size).category = 1 := rfl
  have hcellA : T1.heap[T.heap.size]? = some (freshCell cX kX) := by rw [← hT1]; exact State.heap_pushCell_size _ _
  have d3' : decode c.code (pc + 3) = .ok (.dup, 1) := by rw [hb]; exact d3
  have d4' : decode c.code (pc + 4) = .ok (.ldc is, 2) := by rw [hb]; exact d4
  have hstr' : vk_R own is text sa s' := vk_R.warm hW0 hstr
  obtain ⟨U, hsteps, hrun, hend, hW, hsame, ce, hce, hO⟩ := X₁.ctorThrowS hexec htr (own := own) (cls := cls) (names := names) (ic := ic) hown' hcls hnames h (fun x hx => nomatch hx) hfX hkX hcellA (by rw [hhp, hT]; exact Nat.le_refl _) (msg := .ref sa) rfl
    (g := { method := m, pc := pc + 6, locals := ls, stack := .ref sa :: .ref T.heap.size :: .ref T.heap.size :: rest, locked := none }) rfl hsize rfl rfl (rest := rest) rfl
    (by rw [hb]; exact d6) (by rw [hb]; exact d9) hout hRframes (by simp only [List.map_cons, List.sum_cons, hcat]; omega) hlocks
  obtain ⟨f1, f2⟩ := vx_frame hsame
  rw [hhp] at f1 f2
  have hWs : s.WarmedH U.vm := State.WarmedH.trans hW0 hW
  have hcl : s.vm.findClass cls = some ce.cls := by
    have h9 := hO.cls
    rw [hvm] at h9
    exact h9
  have hall : s.sameButNew ({ U with vm := s.vm } : State) locs mc ms := by
    subst hA
    obtain ⟨e1, e2⟩ := hsame
    rw [State.setFrames_setFrames] at e1
    have h2 : (T.setVm s.vm).sameButNew ({ U with vm := s.vm } : State) [] (0 + 1) (0 + 6) := ⟨e1, e2⟩
    have h3 := X.same.trans h2
    rw [List.append_nil] at h3
    exact h3.mono hc hs
  refine ⟨U, ?_, .threw T.heap.size, hrun, hend, Or.inr ⟨T.heap.size, rfl, cls, ce, locs, hx U hWs.alike f1 (fun q hq => f2 q hq (fun z hz => nomatch hz)), hce, hO.vm, hcl, hWs, hall, hf⟩⟩
  refine st1 _ ?_
  show Steps p.tables e below (T1.setTop { method := m, pc := pc + 3, locals := ls, stack := .ref T.heap.size :: rest, locked := none }) _
  jvm_step X₁.here [X₁.here.top, hexec, d3', Value.category]
  exact X₁.ldcString hexec (own := own) (text := text) (index := is) (a := sa) hown' hstr'.1 hstr'.2
    (g := { method := m, pc := pc + 4, locals := ls, stack := .ref T.heap.size :: .ref T.heap.size :: rest, locked := none }) rfl d4' _ hsteps
/-- 'throw new E("text")', the text by a wide index -/
theorem vx_throwSW {cc : ByteArray} {pc : Nat} (hexec : p.tables.exec = Jvm.exec) (hb : c.code = cc) (hl : l.stackTraces = false) {own cls text : String} {names : List String} {ik is ic mc ms sa : Nat} {A : Nat → Prop}
    (hown : s.vm.findClass own = some m.cls) (hcls : Bundle.fit cls = true) (hnames : ∀ n ∈ names, Bundle.fit n = true)
    (hk : (Cond.classLink own ik cls).before args s = true) (hini : (Cond.initialized cls).before args s = true) (hstr : vk_R own is text sa s) (hat : ∀ w ∈ vx_atS own ic cls names, w.before args s = true)
    (hgood : ∀ w ∈ Cond.classLink own ik cls :: Cond.initialized cls :: vx_atS own ic cls names, vx_ot w = true)
    (hU : vx_Zq Bundle.tN "UNASSIGNED_STACK" Bundle.steD A s s.heap) (hN : vx_Zq Bundle.tN "SUPPRESSED_SENTINEL" Bundle.listD A s s.heap) (hS : va_S A s.heap H locs) (hsize : ls.size = c.maxLocals)
    (d0 : decode cc pc = .ok (.new ik, 3)) (d3 : decode cc (pc + 3) = .ok (.dup, 1)) (d4 : decode cc (pc + 4) = .ok (.ldc_w is, 3)) (d7 : decode cc (pc + 7) = .ok (.invokespecial ic, 3)) (d10 : decode cc (pc + 10) = .ok (.athrow, 1))
    (hout : ∀ x ∈ c.exceptionTable.toList, covers x (pc + 10) = false)
    (hRframes : names.length + 3 < R.frames) (hRlocals : (rest.map fun v => v.category).sum + (13 * (names.length + 1) + 43) ≤ R.locals) (hRcells : cells + 1 ≤ R.cells) (hRslots : slots + 6 ≤ R.slots) (hlocks : meth.locks = false)
    (hx : ∀ t : State, s.vm.Alike t.vm → H.size ≤ t.heap.size → (∀ q : Nat, q < H.size → t.heap[q]? = H[q]?) → XC cls s t)
    (hf : ∀ z ∈ locs, free z.base) (hc : cells + 1 ≤ mc) (hs : slots + 6 ≤ ms) :
    W p l e R s m args below meth c H locs cells slots (vx_MQ below Qc XC args s mc ms free) (F0 m pc ls rest) := by
  intro T hT X
  have htr : e.platform.stackTraces = false := (show e.platform.stackTraces = l.stackTraces by rw [X.admits.platform]).trans hl
  have Y := vx_rebase X (R' := { frames := R.frames, locals := R.locals, cells := 1, slots := 6 }) (Nat.le_refl _) (Nat.le_refl _) hRcells hRslots
  obtain ⟨s', hA⟩ : ∃ z, z = (T.setVm s.vm).setFrames (.invoking m args :: below) := ⟨_, rfl⟩
  rw [← hA] at Y
  have hvm : s'.vm = s.vm := by rw [hA]; rfl
  have hhp : s'.heap = H := by rw [hA]; exact hT
  have hW0 : s.WarmedH s'.vm := by rw [hvm]; exact State.WarmedH.refl s
  have hat' : ∀ w ∈ vx_atS own ic cls names, w.before args s' = true := fun w hw => vx_ot_at hW0 hvm.symm (hgood w (List.mem_cons_of_mem _ (List.mem_cons_of_mem _ hw))) (hat w hw)
  have hk' : (Cond.classLink own ik cls).before args s' = true := vx_ot_at hW0 hvm.symm (hgood _ List.mem_cons_self) hk
  have hini' : (Cond.initialized cls).before args s' = true := vx_ot_at hW0 hvm.symm (hgood _ (List.mem_cons_of_mem _ List.mem_cons_self)) hini
  have hU' : vx_Zq Bundle.tN "UNASSIGNED_STACK" Bundle.steD A s' s'.heap := by rw [hhp]; exact vx_Zq.moved hW0.alike (hU.kept hS.2.1)
  have hN' : vx_Zq Bundle.tN "SUPPRESSED_SENTINEL" Bundle.listD A s' s'.heap := by rw [hhp]; exact vx_Zq.moved hW0.alike (hN.kept hS.2.1)
  have h : ∀ w ∈ Bundle.ownAtoms own ic cls names, w.before args s' = true := vx_own hat' (vx_isRefq hU'.1) (vx_isRefq hN'.1) hU'.2.word hN'.2.word
  have hown' : s'.vm.findClass own = some m.cls := by rw [hvm]; exact hown
  have hins : (Cond.instantiable cls 6).before args s' = true := h _ (by simp [Bundle.ownAtoms])
  obtain ⟨vm₁, cX, kX, hfX, hkX, -, -, X₁, st1⟩ := Y.newCold hexec (own := own) (C := cls) (index := ik) (n := 6) hown' hk' hins hini'
    (g := F0 m pc ls rest) rfl (by rw [hb]; exact d0) (Nat.le_refl _) (Nat.le_refl _)
  generalize hT1 : (T.setVm vm₁).pushCell { cls := cX, slots := kX.instanceTypes.map defaultValue, vm := .none } = T1 at X₁ st1
  have hcat : (Value.ref T.heap.size).category = 1 := rfl
  have hcellA : T1.heap[T.heap.size]? = some (freshCell cX kX) := by rw [← hT1]; exact State.heap_pushCell_size _ _
  have d3' : decode c.code (pc + 3) = .ok (.dup, 1) := by rw [hb]; exact d3
  have d4' : decode c.code (pc + 4) = .ok (.ldc_w is, 3) := by rw [hb]; exact d4
  have hstr' : vk_R own is text sa s' := vk_R.warm hW0 hstr
  obtain ⟨U, hsteps, hrun, hend, hW, hsame, ce, hce, hO⟩ := X₁.ctorThrowS hexec htr (own := own) (cls := cls) (names := names) (ic := ic) hown' hcls hnames h (fun x hx => nomatch hx) hfX hkX hcellA (by rw [hhp, hT]; exact Nat.le_refl _) (msg := .ref sa) rfl
    (g := { method := m, pc := pc + 7, locals := ls, stack := .ref sa :: .ref T.heap.size :: .ref T.heap.size :: rest, locked := none }) rfl hsize rfl rfl (rest := rest) rfl
    (by rw [hb]; exact d7) (by rw [hb]; exact d10) hout hRframes (by simp only [List.map_cons, List.sum_cons, hcat]; omega) hlocks
  obtain ⟨f1, f2⟩ := vx_frame hsame
  rw [hhp] at f1 f2
  have hWs : s.WarmedH U.vm := State.WarmedH.trans hW0 hW
  have hcl : s.vm.findClass cls = some ce.cls := by
    have h9 := hO.cls
    rw [hvm] at h9
    exact h9
  have hall : s.sameButNew ({ U with vm := s.vm } : State) locs mc ms := by
    subst hA
    obtain ⟨e1, e2⟩ := hsame
    rw [State.setFrames_setFrames] at e1
    have h2 : (T.setVm s.vm).sameButNew ({ U with vm := s.vm } : State) [] (0 + 1) (0 + 6) := ⟨e1, e2⟩
    have h3 := X.same.trans h2
    rw [List.append_nil] at h3
    exact h3.mono hc hs
  refine ⟨U, ?_, .threw T.heap.size, hrun, hend, Or.inr ⟨T.heap.size, rfl, cls, ce, locs, hx U hWs.alike f1 (fun q hq => f2 q hq (fun z hz => nomatch hz)), hce, hO.vm, hcl, hWs, hall, hf⟩⟩
  refine st1 _ ?_
  show Steps p.tables e below (T1.setTop { method := m, pc := pc + 3, locals := ls, stack := .ref T.heap.size :: rest, locked := none }) _
  jvm_step X₁.here [X₁.here.top, hexec, d3', Value.category]
  exact X₁.ldcStringW hexec (own := own) (text := text) (index := is) (a := sa) hown' hstr'.1 hstr'.2
    (g := { method := m, pc := pc + 4, locals := ls, stack := .ref T.heap.size :: .ref T.heap.size :: rest, locked := none }) rfl d4' _ hsteps
end Ends
section Bodies
variable {l : Launch}
theorem vx_ofW {y : MethodName} {ws ws' : List Cond} {rm : Room} {Pc : Array Value → State → Prop} {Qc : Array Value → State → Outcome → State → Prop} {XC : String → State → State → Prop} {mc ms : Nat} {free : Addr → Prop} {cc : ByteArray} {maxL : Nat} {ret : Option FieldType}
    (hy : plainName y.cls = true) (hw : ws = Cond.code y cc maxL ret :: ws')
    (body : ∀ p e s m args below meth c s₁, BodyLoose p l y (headSpec ws rm) cc maxL ret e s m args below meth c s₁ → c.maxLocals = maxL → (∀ x ∈ c.exceptionTable.toList, False) → Pc args s →
      W p l e (headSpec ws rm).room s m args below meth c s.heap [] 0 0 (vx_MQ below Qc XC args s mc ms free) (entryFrame m args maxL)) : vx_Met l y ws rm Pc Qc XC mc ms free := by
  refine MetFree.of_bodyS (code := cc) (maxLocals := maxL) (ret := ret) hy ?_ ?_
  · intro args s m h hn
    obtain ⟨meth, c, h1, h2, h3, h4, h5, h6, -, -⟩ := Cond.code_spec hn (atoms_spec (ws := ws) h _ (by rw [hw]; exact List.mem_cons_self))
    exact ⟨meth, c, h1, h2, h3, h4, h5, h6⟩
  · intro p e s m args below meth c s₁ B hml hP _
    have hh0 : s₁.heap = s.heap := by rw [B.state]; rfl
    have ht : ∀ x ∈ c.exceptionTable.toList, False := by
      obtain ⟨meth9, c9, h1, h2, -, -, -, -, h7, -⟩ := Cond.code_spec B.named (atoms_spec (ws := ws) B.pre _ (by rw [hw]; exact List.mem_cons_self))
      cases Option.some.inj (h1.symm.trans B.method)
      cases Option.some.inj (h2.symm.trans (Stand.of_body B).code)
      intro x hx
      rw [Array.isEmpty_iff.mp h7] at hx
      cases hx
    obtain ⟨t, a1, o, b1, b2, b3⟩ := body p e s m args below meth c s₁ B hml ht hP s₁ hh0 (Stand.of_body B)
    exact ⟨t, o, a1, b1, b2, b3⟩
/-- the table of a body with handlers -/
theorem vx_table {p : Program} {x y : MethodName} {S : Spec} {cc bytes : ByteArray} {maxL maxL' : Nat} {ret ret' : Option FieldType} {e : Env} {s s₁ : State} {m : MethodId} {args : Array Value} {below : List Frame} {meth : Method} {c : Code} {hh : List (Nat × Nat × Nat × Nat)}
    (B : BodyLoose p l y S cc maxL ret e s m args below meth c s₁) (h : (Cond.codeWith y bytes maxL' ret' hh).before args s = true) : c.exceptionTable.toList = tableOf hh := by
  obtain ⟨m9, meth9, c9, hn9, h1, h2, -, -, h6, -⟩ := Cond.codeWith_spec h
  cases Option.some.inj (hn9.symm.trans B.named)
  cases Option.some.inj (h1.symm.trans B.method)
  cases Option.some.inj (h2.symm.trans (Stand.of_body B).code)
  rw [← h6, table_eq]
end Bodies
end VXA
/-! ===== END ===== -/
/-! ===== BEGIN a static call of a method with an exception table ===== -/
section VXS
variable {p : Program} {l : Launch} {e : Env} {R : Room} {s : State} {m : MethodId} {args : Array Value} {below : List Frame} {meth : Method} {c : Code} {T : State} {H : Heap} {locs : List Loc} {cells slots : Nat}
abbrev vx_CSW (R : Room) (s : State) (args : Array Value) (own : String) (index : Nat) (y : MethodName) (bytes : ByteArray) (maxL : Nat) (ret : Option FieldType) (hh : List (Nat × Nat × Nat × Nat)) (ws : List Cond) (rm : Room) (mc ms n : Nat) : Prop :=
  (rm.cells = mc ∧ rm.slots = ms ∧ rm.frames + 1 ≤ R.frames ∧ 8 + (maxL + 11) + rm.locals ≤ R.locals ∧ (∀ w ∈ ws, ∀ (a' : Array Value) (U : State), s.WarmedH U.vm → w.before a' U = true) ∧ Cond.codeWith y bytes maxL ret hh ∈ ws) ∧
  (Cond.codeWith y bytes maxL ret hh).before args s = true ∧ (Cond.initialized y.cls).before args s = true ∧ (y.cls ≠ "java/lang/invoke/MethodHandle" ∧ y.cls ≠ "java/lang/invoke/VarHandle") ∧
  (∀ sig, parseMethodDescriptor y.desc = some sig → n = sig.parameters.length) ∧ (Cond.methodLink own index y).before args s = true ∧ (Cond.static y).before args s = true
theorem vx_cwSW {own : String} {index maxL mc ms : Nat} {y : MethodName} {bytes : ByteArray} {ret : Option FieldType} {hh : List (Nat × Nat × Nat × Nat)} {Ts ws ws' : List Cond} {rm : Room} (n : Nat) (ht : ∀ w ∈ Ts, w.before args s = true) (hT : GoodIn Ts (va_wsS own index y ws)) (hw : ws = Cond.codeWith y bytes maxL ret hh :: ws') (hrc : rm.cells = mc) (hrs : rm.slots = ms)
    (hd : y.cls ≠ "java/lang/invoke/MethodHandle" ∧ y.cls ≠ "java/lang/invoke/VarHandle" ∧ (parseMethodDescriptor y.desc).map (fun d => d.parameters.length) = some n) (hR : rm.frames + 1 ≤ R.frames ∧ 8 + (maxL + 11) + rm.locals ≤ R.locals) :
    vx_CSW R s args own index y bytes maxL ret hh ws rm mc ms n := by
  have ok : ∀ w ∈ va_wsS own index y ws, w.before args s = true := fun w h => ht w (hT w h).1
  have hG : GoodIn Ts ws := fun w h => hT w (by unfold va_wsS; exact List.mem_append_right _ h)
  have hc : Cond.codeWith y bytes maxL ret hh ∈ ws := by rw [hw]; exact List.mem_cons_self
  refine ⟨⟨hrc, hrs, hR.1, hR.2, pay_in ht hG, hc⟩, ht _ (hG _ hc).1, ok _ (by simp [va_wsS]), ⟨hd.1, hd.2.1⟩, fun sig h => ?_, ok _ (by simp [va_wsS]), ok _ (by simp [va_wsS])⟩
  have h2 := hd.2.2
  rw [h] at h2
  exact (Option.some.inj h2).symm
theorem vx_callSW (X : Stand p l e R s m args below meth c T locs cells slots) (hexec : p.tables.exec = Jvm.exec) {own : String} {index : Nat} {y : MethodName} {bytes : ByteArray} {maxL : Nat} {ret : Option FieldType} {hh : List (Nat × Nat × Nat × Nat)}
    (hown : s.vm.findClass own = some m.cls) (hlink : (Cond.methodLink own index y).before args s = true) (hstat : (Cond.static y).before args s = true) (hinit : (Cond.initialized y.cls).before args s = true)
    (hcode : (Cond.codeWith y bytes maxL ret hh).before args s = true) (hy : y.cls ≠ "java/lang/invoke/MethodHandle" ∧ y.cls ≠ "java/lang/invoke/VarHandle")
    {W9 : Nat} {Pre : Pt → Array Value → Prop} {Post : Pt → Array Value → Option Value → Pt → Prop} (hK : Back l R p e below s args y 3 W9 Pre Post)
    {g : JFrame} (hg : g.method = m) (hsize : g.locals.size = c.maxLocals) {argsL rest : List Value} (hlen : ∀ sig, parseMethodDescriptor y.desc = some sig → argsL.length = sig.parameters.length)
    (hstack : g.stack = argsL.reverse ++ rest) (hW : 2 * g.monitorRoom + (rest.map fun v => v.category).sum ≤ W9) (hdg : decode c.code g.pc = .ok (.invokestatic index, 3))
    (hpre : ∀ vm₁, s.WarmedH vm₁ → Pre ⟨T.setVm vm₁, locs, cells, slots⟩ argsL.toArray) :
    ∃ (v : Option Value) (vm₁ : Vm) (B : Pt), s.WarmedH vm₁ ∧ Stand p l e R s m args below meth c B.U B.locs B.cells B.slots ∧ Post ⟨T.setVm vm₁, locs, cells, slots⟩ argsL.toArray v B ∧
      ∀ target, Steps p.tables e below (B.U.setTop { g with pc := g.pc + 3, stack := v.toList ++ rest }) target → Steps p.tables e below (T.setTop g) target := by
  obtain ⟨mk, methM, cM, hnamed, hmethM, -, -, -, -, -, -, hsigM⟩ := Cond.codeWith_spec hcode
  have hstatic : methM.isStatic = true := Cond.static_spec hnamed hmethM hstat
  obtain ⟨kP, hkP, -⟩ := className_of_methodNamed hnamed
  have hinitP : kP.init = .initialized := Cond.initialized_spec (findClass_of_methodNamed hnamed) hkP hinit
  obtain ⟨vm₁, X₁, hstep₁⟩ := X.invokestatic hexec hown hlink hnamed hmethM hstatic hkP hinitP hy (g := g) hg (argsL := argsL) (rest := rest) (hlen _ hsigM) hstack hdg
  obtain ⟨v, B, X', hpost, hsteps⟩ := hK m meth c ⟨T.setVm vm₁, locs, cells, slots⟩ { g with stack := rest } (.invokestatic index) mk argsL.toArray X₁ hg hsize hdg hW (X₁.named hnamed) (hpre vm₁ X₁.warmed)
  exact ⟨v, vm₁, B, X₁.warmed, X', hpost, fun target h => hstep₁ _ fun acts => by rw [doInvoke_state]; exact hsteps.trans h⟩
theorem vx_runSW {y : MethodName} {bytes cc : ByteArray} {maxL nL mc ms n index : Nat} {ret : Option FieldType} {hh : List (Nat × Nat × Nat × Nat)} {ws : List Cond} {rm : Room} {Pc : Array Value → State → Prop} {Qc : Array Value → State → Outcome → State → Prop} {free : Addr → Prop} {Ts : List Cond} {own : String} {As rest : List Value} {g : JFrame}
    (S : CallFix p m c cc nL s args Ts own) (hM : Met l y ws rm Pc Qc mc ms free) (cw : vx_CSW R s args own index y bytes maxL ret hh ws rm mc ms n) (hp : PreS s H Pc As)
    (hg : g.method = m) (hn : As.length = n) (hsize : g.locals.size = nL) (hstack : g.stack = As.reverse ++ rest) (hW : 2 * g.monitorRoom + (rest.map fun v => v.category).sum ≤ 8) (hdg : decode cc g.pc = .ok (.invokestatic index, 3)) (hf : cells + mc ≤ R.cells ∧ slots + ms ≤ R.slots) :
    va_Run p l e R s m args below meth c H locs cells slots mc ms g rest (Qc As.toArray) (free) := by
  obtain ⟨⟨hrc, hrs, hfr, hlo, hws, hcw⟩, hcode, hini, hy, hlen, hl, hstt⟩ := cw
  have hK : Back l R p e below s args y 3 8 (PreOf R mc ms Pc) (PostOf Qc mc ms free) := va_backW (hh := hh) (bytes := bytes) (maxL := maxL) (ret := ret) hM hp.1 hrc hrs hfr hlo hws hcw (fun a' U hW => word_at hW (Or.inl (by first | rfl | simp [Cond.onTables, Cond.keeps, Cond.steady])) hini)
  obtain ⟨hx, hb, hml, ho, -⟩ := S
  intro T hT X
  obtain ⟨v, vm₁, ⟨U', l2, c2, s2⟩, hW₁, X', ⟨g', mk, t, L, e1, e2, hq, h1, hL, h2, h3⟩, st⟩ := vx_callSW X hx (hh := hh) (bytes := bytes) (maxL := maxL) (ret := ret) ho hl hstt hini hcode hy hK hg (hsize.trans hml.symm) (argsL := As) (rest := rest) (fun sig h => hn.trans (hlen sig h)) hstack hW (by rw [hb]; exact hdg)
    (fun vm₁ hW₁ => ⟨hf.1, hf.2, hp.2 (T.setVm vm₁) hT hW₁⟩)
  dsimp only [Pt.U, Pt.locs, Pt.cells, Pt.slots] at X' e1 e2 h1 h2 h3 st
  subst h1; subst h2; subst h3
  exact ⟨v, (T.setVm vm₁).calling g' mk As.toArray, t, U', L, hT, X', hL, e1, e2, hq, st⟩
/-- not caught here, past rows that name other classes: it goes on to the caller -/
theorem vx_lt {D : va_G} {cl : List vw_C} {ws : va_W} {H1 : Heap} (h : va_P D cl ws H1) {k : Nat} {q : Nat × va_E} (hk : ws[k]? = some q) : q.1 < H1.size := (h k q hk).lt
end VXS
/-! ===== END ===== -/
/-! ===== BEGIN methods with a table of their own: called by a name, returning or throwing ===== -/
section VXH
/-! vx_backW, vx_callVX, vx_callSX, vx_callVW, vx_runVW, vx_runVX, vx_runSX, vx_ofWH follow the same proofs as their sisters above (Free/Laws.lean, Shelf42/LK1.lean); vx_outP calls Shelf42/NT130.lean (outThrough). -/
section
variable {l : Launch} {R : Room} {p : Program} {e : Env} {below : List Frame} {s : State} {sargs : Array Value} {y : MethodName} {len W9 : Nat}
theorem vx_backW {ws : List Cond} {rm : Room} {Pc : Array Value → State → Prop} {Qc : Array Value → State → Outcome → State → Prop} {XC : String → State → State → Prop} {mc ms : Nat} {free : Addr → Prop} {bytes : ByteArray} {maxL : Nat} {ret : Option FieldType} {hh : List (Nat × Nat × Nat × Nat)}
    (hM : vx_Met l y ws rm Pc Qc XC mc ms free) (hblind : FrameBlind Pc) (hrc : rm.cells = mc) (hrs : rm.slots = ms)
    (hframes : rm.frames + 1 ≤ R.frames) (hlocals : W9 + (maxL + 11) + rm.locals ≤ R.locals)
    (hws : ∀ w ∈ ws, ∀ a' U, s.WarmedH U.vm → w.before a' U = true) (hcode : Cond.codeWith y bytes maxL ret hh ∈ ws) (hinit : ∀ a' U, s.WarmedH U.vm → (Cond.initialized y.cls).before a' U = true) :
    vx_Back l R p e below s sargs y len W9 (PreOf R mc ms Pc) (PostOf Qc mc ms free) (vx_Post XC mc ms free) := by
  intro m meth c A g ig mk a X hg hsize hdg hW hn hp
  have h1 : (headSpec ws rm).pre.before a A.U = true := atoms_intro fun w hw => hws w hw _ _ X.warmed
  have h2 : (Cond.codeWith y bytes maxL ret hh).before a A.U = true := hws _ hcode _ _ X.warmed
  have h3 : (Cond.initialized y.cls).before a A.U = true := hinit _ _ X.warmed
  have h4 : A.cells + (headSpec ws rm).room.cells ≤ R.cells := by rw [show (headSpec ws rm).room.cells = mc from hrc]; exact hp.1
  have h5 : A.slots + (headSpec ws rm).room.slots ≤ R.slots := by rw [show (headSpec ws rm).room.slots = ms from hrs]; exact hp.2.1
  have hPc : Pc a (A.U.calling g mk a) := hblind _ _ _ _ hp.2.2
  obtain ⟨U, Ls, c0, s0⟩ := A
  dsimp only [Pt.U, Pt.locs, Pt.cells, Pt.slots] at h1 h2 h3 h4 h5 X hn hPc ⊢
  obtain ⟨m9, methY, cY, hn9, hmY, hcY, -, hlY, -⟩ := Cond.codeWith_spec h2
  cases Option.some.inj (hn9.symm.trans hn)
  obtain ⟨kY, hkY, -⟩ := className_of_methodNamed hn
  have hinitY : kY.init = .initialized := Cond.initialized_spec (findClass_of_methodNamed hn) hkY h3
  have h : At U g.method c below := by rw [hg]; exact X.here
  have hlocals9 : W9 + (maxL + 11) + (headSpec ws rm).room.locals ≤ R.locals := hlocals
  have happ : (headSpec ws rm).appliesLoose y e.platform (U.calling g mk a) = true :=
    Spec.appliesLoose_calling (g := g) h hdg hn hkY hinitY
      (X.room_calling (g := g) (R' := (headSpec ws rm).room) hsize hmY hcY hframes (by rw [hlY]; omega) h4 h5) h1
  obtain ⟨mid, hmid⟩ := h.above
  have hfr : (U.setTop g).frames = (.java g :: mid) ++ below := by rw [State.frames_setTop' g h.top, hmid]; rfl
  obtain ⟨o, s₂, hsteps, -, hend, hq⟩ := Steps.callFree hM p X.admits X.cas X.clock (acts := []) hfr happ hPc trivial
  have hq' : vx_Q Qc XC mc ms free a (U.calling g mk a) o s₂ := hq
  rw [State.frames_setTop' g h.top] at hend
  obtain ⟨g₀, hg0⟩ := Option.isSome_iff_exists.mp h.top
  obtain ⟨r, hr⟩ := State.topJava?_eq_some.mp hg0
  have hr' : (({ U with heap := s₂.heap, slotsUsed := s₂.slotsUsed } : State).setVm s₂.vm).frames = .java g₀ :: r := hr
  rcases hq' with ⟨hqc, L, hfe, hL⟩ | ⟨q, rfl, E, ce, L, hx, hce, hcv, hcl, hW₂, hsm, hL⟩
  · obtain ⟨⟨v, rfl⟩, hW₂, e2, q2, q3, q4, q5, q6⟩ := id hfe
    have e3 : s₂ = ({ (U.calling g mk a).setFrames s₂.frames with heap := s₂.heap, slotsUsed := s₂.slotsUsed } : State).setVm s₂.vm := by
      have : s₂ = ({ s₂ with vm := (U.calling g mk a).vm } : State).setVm s₂.vm := rfl
      rw [e2] at this
      exact this
    obtain ⟨c₂, i₂, len₂, hc₂, hd₂, hf₂⟩ := hend
    have hW' : U.WarmedH s₂.vm := hW₂
    have hcc : c₂ = c := by
      have h1 : s₂.code? g.method = U.code? g.method := by
        rw [State.code?_eq, State.code?_eq, hW'.alike.method?]
      exact Option.some.inj (hc₂.symm.trans (h1.trans h.code))
    subst hcc
    have hlen : len₂ = len := by rw [hdg] at hd₂; cases hd₂; rfl
    subst hlen
    have hs₂ : s₂ = (({ U with heap := s₂.heap, slotsUsed := s₂.slotsUsed } : State).setVm s₂.vm).setTop { g with pc := g.pc + len₂, stack := v.toList ++ g.stack } := by
      refine e3.trans ?_
      rw [hf₂, State.calling_eq h.top, State.setFrames_setFrames, State.setTop_of_frames _ hr', hr]
      rfl
    have hsame : U.sameButNew ({ U with heap := s₂.heap, slotsUsed := s₂.slotsUsed } : State) L mc ms := by
      refine ⟨?_, q2, q3, q4, q5, q6⟩
      obtain ⟨t, ht, -⟩ := State.frames_cons hr
      show ({ U with heap := s₂.heap, slotsUsed := s₂.slotsUsed } : State) = { U.setFrames U.frames with heap := s₂.heap, slotsUsed := s₂.slotsUsed }
      rw [State.setFrames_self ht]
    subst hg
    refine Or.inl ⟨v, ⟨(({ U with heap := s₂.heap, slotsUsed := s₂.slotsUsed } : State).setVm s₂.vm), Ls ++ L, c0 + mc, s0 + ms⟩,
      ⟨X.admits, X.cas, X.clock, X.frames, X.room, X.hears, X.method, X.code, (X.here.setHeapUsed s₂.heap s₂.slotsUsed).setVm hW'.alike, X.tail, State.WarmedH.trans X.warmed hW', X.limits, X.bytes, X.same.trans (hsame.setVm s.vm)⟩,
      ⟨g, mk, s₂, L, rfl, rfl, hqc, rfl, hL, rfl, rfl⟩, ?_⟩
    show Steps p.tables e below _ ((({ U with heap := s₂.heap, slotsUsed := s₂.slotsUsed } : State).setVm s₂.vm).setTop { g with pc := g.pc + len₂, stack := v.toList ++ g.stack })
    rw [← hs₂]
    exact hsteps
  · obtain ⟨e2, q2, q3, q4, q5, q6⟩ := id hsm
    have e3 : s₂ = ({ (U.calling g mk a).setFrames s₂.frames with heap := s₂.heap, slotsUsed := s₂.slotsUsed } : State).setVm s₂.vm := by
      have : s₂ = ({ s₂ with vm := (U.calling g mk a).vm } : State).setVm s₂.vm := rfl
      rw [e2] at this
      exact this
    have hf₂ : s₂.frames = .throwing q :: .java g :: U.frames.tail := hend
    have hW' : U.WarmedH s₂.vm := hW₂
    have hs₂ : s₂ = ((({ U with heap := s₂.heap, slotsUsed := s₂.slotsUsed } : State).setVm s₂.vm).setTop g).pushFrame (.throwing q) := by
      refine e3.trans ?_
      rw [hf₂, State.calling_eq h.top, State.setFrames_setFrames, State.pushFrame, State.frames_setTop _ hr', State.setTop_of_frames _ hr', State.setFrames_setFrames, hr]
      rfl
    have hsame : U.sameButNew ({ U with heap := s₂.heap, slotsUsed := s₂.slotsUsed } : State) L mc ms := by
      refine ⟨?_, q2, q3, q4, q5, q6⟩
      obtain ⟨t, ht, -⟩ := State.frames_cons hr
      show ({ U with heap := s₂.heap, slotsUsed := s₂.slotsUsed } : State) = { U.setFrames U.frames with heap := s₂.heap, slotsUsed := s₂.slotsUsed }
      rw [State.setFrames_self ht]
    subst hg
    refine Or.inr ⟨q, ⟨(({ U with heap := s₂.heap, slotsUsed := s₂.slotsUsed } : State).setVm s₂.vm), Ls ++ L, c0 + mc, s0 + ms⟩,
      ⟨X.admits, X.cas, X.clock, X.frames, X.room, X.hears, X.method, X.code, (X.here.setHeapUsed s₂.heap s₂.slotsUsed).setVm hW'.alike, X.tail, State.WarmedH.trans X.warmed hW', X.limits, X.bytes, X.same.trans (hsame.setVm s.vm)⟩,
      ⟨g, mk, s₂, L, E, ce, rfl, rfl, hx, hce, hcv, hcl, rfl, hL, rfl, rfl⟩, ?_⟩
    show Steps p.tables e below _ (((({ U with heap := s₂.heap, slotsUsed := s₂.slotsUsed } : State).setVm s₂.vm).setTop g).pushFrame (.throwing q))
    rw [← hs₂]
    exact hsteps
end
variable {p : Program} {l : Launch} {e : Env} {R : Room} {s : State} {m : MethodId} {args : Array Value} {below : List Frame} {meth : Method} {c : Code} {T : State} {H : Heap} {locs : List Loc} {cells slots : Nat}
theorem vx_callVX (X : Stand p l e R s m args below meth c T locs cells slots) (hexec : p.tables.exec = Jvm.exec) {own C : String} {index : Nat} {y : MethodName} {bytes : ByteArray} {maxL : Nat} {ret : Option FieldType} {hh : List (Nat × Nat × Nat × Nat)}
    (hown : s.vm.findClass own = some m.cls) (hlink : (Cond.methodLink own index y).before args s = true) (hinst : (Cond.instanceMethod y).before args s = true) (hsel : (Cond.selects C y y).before args s = true)
    (hcode : (Cond.codeWith y bytes maxL ret hh).before args s = true) (hy : y.cls ≠ "java/lang/invoke/MethodHandle" ∧ y.cls ≠ "java/lang/invoke/VarHandle")
    {W9 : Nat} {Pre : Pt → Array Value → Prop} {Post : Pt → Array Value → Option Value → Pt → Prop} {PostX : Pt → Array Value → Addr → Pt → Prop} (hK : vx_Back l R p e below s args y 3 W9 Pre Post PostX)
    {b : Addr} {cellB : Cell} (hcell : T.heap[b]? = some cellB) (hobj : cellB.vm.isStatics = false) (hcls : s.vm.findClass C = some cellB.cls)
    {g : JFrame} (hg : g.method = m) (hsize : g.locals.size = c.maxLocals) {argsL rest : List Value} (hlen : ∀ sig, parseMethodDescriptor y.desc = some sig → argsL.length = sig.parameters.length)
    (hstack : g.stack = argsL.reverse ++ .ref b :: rest) (hW : 2 * g.monitorRoom + (rest.map fun v => v.category).sum ≤ W9) (hdg : decode c.code g.pc = .ok (.invokevirtual index, 3))
    (hpre : ∀ vm₁, s.WarmedH vm₁ → Pre ⟨T.setVm vm₁, locs, cells, slots⟩ (Value.ref b :: argsL).toArray) :
    (∃ (v : Option Value) (vm₁ : Vm) (B : Pt), s.WarmedH vm₁ ∧ Stand p l e R s m args below meth c B.U B.locs B.cells B.slots ∧ Post ⟨T.setVm vm₁, locs, cells, slots⟩ (Value.ref b :: argsL).toArray v B ∧
      ∀ target, Steps p.tables e below (B.U.setTop { g with pc := g.pc + 3, stack := v.toList ++ rest }) target → Steps p.tables e below (T.setTop g) target) ∨
    (∃ (q : Addr) (vm₁ : Vm) (B : Pt), s.WarmedH vm₁ ∧ Stand p l e R s m args below meth c B.U B.locs B.cells B.slots ∧ PostX ⟨T.setVm vm₁, locs, cells, slots⟩ (Value.ref b :: argsL).toArray q B ∧
      Steps p.tables e below (T.setTop g) ((B.U.setTop { g with stack := rest }).pushFrame (.throwing q))) := by
  obtain ⟨mk, methM, hnamed, hmethM, hstM, habM⟩ := Cond.instanceMethod_spec hinst
  obtain ⟨m8, methM', cM, hn8, hmethM', -, -, -, -, -, -, hsigM⟩ := Cond.codeWith_spec hcode
  cases Option.some.inj (hn8.symm.trans hnamed)
  cases hmethM.symm.trans hmethM'
  obtain ⟨c2, r2, m2, q1, q2, q3, q4, kP, hkP, hkPi⟩ := Cond.selects_spec hsel
  cases hcls.symm.trans q1
  cases (State.methodFound?_of_named hnamed hy).symm.trans q2
  cases hnamed.symm.trans q3
  have hselP : selectMethod e.platform s.vm cellB.cls mk = .method mk := by rw [Launch.admits_selectMethod X.admits]; exact q4
  obtain ⟨vm₁, X₁, hstep₁⟩ := X.invokevirtual hexec hown hlink hnamed hmethM hstM hkP hkPi hy (a := b) (cell := cellB) hcell
    (fun z h => by rw [h] at hobj; cases hobj) hselP hmethM habM hkP hkPi (g := g) hg (argsL := argsL) (rest := rest) (hlen _ hsigM) hstack hdg
  rcases hK m meth c ⟨T.setVm vm₁, locs, cells, slots⟩ { g with stack := rest } (.invokevirtual index) mk (Value.ref b :: argsL).toArray X₁ hg hsize hdg hW (X₁.named hnamed) (hpre vm₁ X₁.warmed) with ⟨v, B, X', hpost, hsteps⟩ | ⟨q, B, X', hpost, hsteps⟩
  · exact Or.inl ⟨v, vm₁, B, X₁.warmed, X', hpost, fun target h => hstep₁ _ fun acts => by rw [doInvoke_state]; exact hsteps.trans h⟩
  · exact Or.inr ⟨q, vm₁, B, X₁.warmed, X', hpost, hstep₁ _ fun acts => by rw [doInvoke_state]; exact hsteps⟩
theorem vx_callSX (X : Stand p l e R s m args below meth c T locs cells slots) (hexec : p.tables.exec = Jvm.exec) {own : String} {index : Nat} {y : MethodName} {bytes : ByteArray} {maxL : Nat} {ret : Option FieldType} {hh : List (Nat × Nat × Nat × Nat)}
    (hown : s.vm.findClass own = some m.cls) (hlink : (Cond.methodLink own index y).before args s = true) (hstat : (Cond.static y).before args s = true) (hinit : (Cond.initialized y.cls).before args s = true)
    (hcode : (Cond.codeWith y bytes maxL ret hh).before args s = true) (hy : y.cls ≠ "java/lang/invoke/MethodHandle" ∧ y.cls ≠ "java/lang/invoke/VarHandle")
    {W9 : Nat} {Pre : Pt → Array Value → Prop} {Post : Pt → Array Value → Option Value → Pt → Prop} {PostX : Pt → Array Value → Addr → Pt → Prop} (hK : vx_Back l R p e below s args y 3 W9 Pre Post PostX)
    {g : JFrame} (hg : g.method = m) (hsize : g.locals.size = c.maxLocals) {argsL rest : List Value} (hlen : ∀ sig, parseMethodDescriptor y.desc = some sig → argsL.length = sig.parameters.length)
    (hstack : g.stack = argsL.reverse ++ rest) (hW : 2 * g.monitorRoom + (rest.map fun v => v.category).sum ≤ W9) (hdg : decode c.code g.pc = .ok (.invokestatic index, 3))
    (hpre : ∀ vm₁, s.WarmedH vm₁ → Pre ⟨T.setVm vm₁, locs, cells, slots⟩ argsL.toArray) :
    (∃ (v : Option Value) (vm₁ : Vm) (B : Pt), s.WarmedH vm₁ ∧ Stand p l e R s m args below meth c B.U B.locs B.cells B.slots ∧ Post ⟨T.setVm vm₁, locs, cells, slots⟩ argsL.toArray v B ∧
      ∀ target, Steps p.tables e below (B.U.setTop { g with pc := g.pc + 3, stack := v.toList ++ rest }) target → Steps p.tables e below (T.setTop g) target) ∨
    (∃ (q : Addr) (vm₁ : Vm) (B : Pt), s.WarmedH vm₁ ∧ Stand p l e R s m args below meth c B.U B.locs B.cells B.slots ∧ PostX ⟨T.setVm vm₁, locs, cells, slots⟩ argsL.toArray q B ∧
      Steps p.tables e below (T.setTop g) ((B.U.setTop { g with stack := rest }).pushFrame (.throwing q))) := by
  obtain ⟨mk, methM, cM, hnamed, hmethM, -, -, -, -, -, -, hsigM⟩ := Cond.codeWith_spec hcode
  have hstatic : methM.isStatic = true := Cond.static_spec hnamed hmethM hstat
  obtain ⟨kP, hkP, -⟩ := className_of_methodNamed hnamed
  have hinitP : kP.init = .initialized := Cond.initialized_spec (findClass_of_methodNamed hnamed) hkP hinit
  obtain ⟨vm₁, X₁, hstep₁⟩ := X.invokestatic hexec hown hlink hnamed hmethM hstatic hkP hinitP hy (g := g) hg (argsL := argsL) (rest := rest) (hlen _ hsigM) hstack hdg
  rcases hK m meth c ⟨T.setVm vm₁, locs, cells, slots⟩ { g with stack := rest } (.invokestatic index) mk argsL.toArray X₁ hg hsize hdg hW (X₁.named hnamed) (hpre vm₁ X₁.warmed) with ⟨v, B, X', hpost, hsteps⟩ | ⟨q, B, X', hpost, hsteps⟩
  · exact Or.inl ⟨v, vm₁, B, X₁.warmed, X', hpost, fun target h => hstep₁ _ fun acts => by rw [doInvoke_state]; exact hsteps.trans h⟩
  · exact Or.inr ⟨q, vm₁, B, X₁.warmed, X', hpost, hstep₁ _ fun acts => by rw [doInvoke_state]; exact hsteps⟩
theorem vx_callVW (X : Stand p l e R s m args below meth c T locs cells slots) (hexec : p.tables.exec = Jvm.exec) {own C : String} {index : Nat} {y : MethodName} {bytes : ByteArray} {maxL : Nat} {ret : Option FieldType} {hh : List (Nat × Nat × Nat × Nat)}
    (hown : s.vm.findClass own = some m.cls) (hlink : (Cond.methodLink own index y).before args s = true) (hinst : (Cond.instanceMethod y).before args s = true) (hsel : (Cond.selects C y y).before args s = true)
    (hcode : (Cond.codeWith y bytes maxL ret hh).before args s = true) (hy : y.cls ≠ "java/lang/invoke/MethodHandle" ∧ y.cls ≠ "java/lang/invoke/VarHandle")
    {W9 : Nat} {Pre : Pt → Array Value → Prop} {Post : Pt → Array Value → Option Value → Pt → Prop} (hK : Back l R p e below s args y 3 W9 Pre Post)
    {b : Addr} {cellB : Cell} (hcell : T.heap[b]? = some cellB) (hobj : cellB.vm.isStatics = false) (hcls : s.vm.findClass C = some cellB.cls)
    {g : JFrame} (hg : g.method = m) (hsize : g.locals.size = c.maxLocals) {argsL rest : List Value} (hlen : ∀ sig, parseMethodDescriptor y.desc = some sig → argsL.length = sig.parameters.length)
    (hstack : g.stack = argsL.reverse ++ .ref b :: rest) (hW : 2 * g.monitorRoom + (rest.map fun v => v.category).sum ≤ W9) (hdg : decode c.code g.pc = .ok (.invokevirtual index, 3))
    (hpre : ∀ vm₁, s.WarmedH vm₁ → Pre ⟨T.setVm vm₁, locs, cells, slots⟩ (Value.ref b :: argsL).toArray) :
    ∃ (v : Option Value) (vm₁ : Vm) (B : Pt), s.WarmedH vm₁ ∧ Stand p l e R s m args below meth c B.U B.locs B.cells B.slots ∧ Post ⟨T.setVm vm₁, locs, cells, slots⟩ (Value.ref b :: argsL).toArray v B ∧
      ∀ target, Steps p.tables e below (B.U.setTop { g with pc := g.pc + 3, stack := v.toList ++ rest }) target → Steps p.tables e below (T.setTop g) target := by
  obtain ⟨mk, methM, hnamed, hmethM, hstM, habM⟩ := Cond.instanceMethod_spec hinst
  obtain ⟨m8, methM', cM, hn8, hmethM', -, -, -, -, -, -, hsigM⟩ := Cond.codeWith_spec hcode
  cases Option.some.inj (hn8.symm.trans hnamed)
  cases hmethM.symm.trans hmethM'
  obtain ⟨c2, r2, m2, q1, q2, q3, q4, kP, hkP, hkPi⟩ := Cond.selects_spec hsel
  cases hcls.symm.trans q1
  cases (State.methodFound?_of_named hnamed hy).symm.trans q2
  cases hnamed.symm.trans q3
  have hselP : selectMethod e.platform s.vm cellB.cls mk = .method mk := by rw [Launch.admits_selectMethod X.admits]; exact q4
  obtain ⟨vm₁, X₁, hstep₁⟩ := X.invokevirtual hexec hown hlink hnamed hmethM hstM hkP hkPi hy (a := b) (cell := cellB) hcell
    (fun z h => by rw [h] at hobj; cases hobj) hselP hmethM habM hkP hkPi (g := g) hg (argsL := argsL) (rest := rest) (hlen _ hsigM) hstack hdg
  obtain ⟨v, B, X', hpost, hsteps⟩ := hK m meth c ⟨T.setVm vm₁, locs, cells, slots⟩ { g with stack := rest } (.invokevirtual index) mk (Value.ref b :: argsL).toArray X₁ hg hsize hdg hW (X₁.named hnamed) (hpre vm₁ X₁.warmed)
  exact ⟨v, vm₁, B, X₁.warmed, X', hpost, fun target h => hstep₁ _ fun acts => by rw [doInvoke_state]; exact hsteps.trans h⟩
abbrev vx_CVW (R : Room) (s : State) (args : Array Value) (own C : String) (index : Nat) (y : MethodName) (bytes : ByteArray) (maxL : Nat) (ret : Option FieldType) (hh : List (Nat × Nat × Nat × Nat)) (ws : List Cond) (rm : Room) (mc ms n : Nat) : Prop :=
  (rm.cells = mc ∧ rm.slots = ms ∧ rm.frames + 1 ≤ R.frames ∧ 8 + (maxL + 11) + rm.locals ≤ R.locals ∧ (∀ w ∈ ws, ∀ (a' : Array Value) (U : State), s.WarmedH U.vm → w.before a' U = true) ∧ Cond.codeWith y bytes maxL ret hh ∈ ws) ∧
  (Cond.codeWith y bytes maxL ret hh).before args s = true ∧ (Cond.initialized y.cls).before args s = true ∧ (y.cls ≠ "java/lang/invoke/MethodHandle" ∧ y.cls ≠ "java/lang/invoke/VarHandle") ∧
  (∀ sig, parseMethodDescriptor y.desc = some sig → n = sig.parameters.length) ∧ (Cond.methodLink own index y).before args s = true ∧ (Cond.instanceMethod y).before args s = true ∧ (Cond.selects C y y).before args s = true
theorem vx_cwVW {own C : String} {index maxL mc ms : Nat} {y : MethodName} {bytes : ByteArray} {ret : Option FieldType} {hh : List (Nat × Nat × Nat × Nat)} {Ts ws ws' : List Cond} {rm : Room} (n : Nat) (ht : ∀ w ∈ Ts, w.before args s = true) (hT : GoodIn Ts (wsV own index C y ws)) (hw : ws = Cond.codeWith y bytes maxL ret hh :: ws') (hrc : rm.cells = mc) (hrs : rm.slots = ms)
    (hd : y.cls = C ∧ y.cls ≠ "java/lang/invoke/MethodHandle" ∧ y.cls ≠ "java/lang/invoke/VarHandle" ∧ (parseMethodDescriptor y.desc).map (fun d => d.parameters.length) = some n) (hR : rm.frames + 1 ≤ R.frames ∧ 8 + (maxL + 11) + rm.locals ≤ R.locals) :
    vx_CVW R s args own C index y bytes maxL ret hh ws rm mc ms n := by
  obtain ⟨hC, hd⟩ := hd
  subst hC
  have ok : ∀ w ∈ wsV own index y.cls y ws, w.before args s = true := fun w h => ht w (hT w h).1
  have hG : GoodIn Ts ws := fun w h => hT w (by unfold wsV; exact List.mem_append_right _ h)
  have hc : Cond.codeWith y bytes maxL ret hh ∈ ws := by rw [hw]; exact List.mem_cons_self
  refine ⟨⟨hrc, hrs, hR.1, hR.2, pay_in ht hG, hc⟩, ht _ (hG _ hc).1, ok _ (by simp [wsV]), ⟨hd.1, hd.2.1⟩, fun sig h => ?_, ok _ (by simp [wsV]), ok _ (by simp [wsV]), ok _ (by simp [wsV])⟩
  have h2 := hd.2.2
  rw [h] at h2
  exact (Option.some.inj h2).symm
theorem vx_runVW {y : MethodName} {bytes cc : ByteArray} {maxL nL mc ms n index : Nat} {ret : Option FieldType} {hh : List (Nat × Nat × Nat × Nat)} {ws : List Cond} {rm : Room} {Pc : Array Value → State → Prop} {Qc : Array Value → State → Outcome → State → Prop} {free : Addr → Prop} {Ts : List Cond} {own C : String} {b : Addr} {As rest : List Value} {g : JFrame}
    (S : CallFix p m c cc nL s args Ts own) (hM : Met l y ws rm Pc Qc mc ms free) (cw : vx_CVW R s args own C index y bytes maxL ret hh ws rm mc ms n) (hp : PreV s H C b Pc As)
    (hg : g.method = m) (hn : As.length = n) (hsize : g.locals.size = nL) (hstack : g.stack = As.reverse ++ .ref b :: rest) (hW : 2 * g.monitorRoom + (rest.map fun v => v.category).sum ≤ 8) (hdg : decode cc g.pc = .ok (.invokevirtual index, 3)) (hf : cells + mc ≤ R.cells ∧ slots + ms ≤ R.slots) :
    va_Run p l e R s m args below meth c H locs cells slots mc ms g rest (Qc (Value.ref b :: As).toArray) free := by
  obtain ⟨⟨hrc, hrs, hfr, hlo, hws, hcw⟩, hcode, hini, hy, hlen, hl, hin, hse⟩ := cw
  have hK : Back l R p e below s args y 3 8 (PreOf R mc ms Pc) (PostOf Qc mc ms free) := va_backW (hh := hh) (bytes := bytes) (maxL := maxL) (ret := ret) hM hp.1 hrc hrs hfr hlo hws hcw (fun a' U hW => word_at hW (Or.inl (by first | rfl | simp [Cond.onTables, Cond.keeps, Cond.steady])) hini)
  obtain ⟨hx, hb, hml, ho, -⟩ := S
  obtain ⟨-, ⟨cellB, hcB, hoB, hclB⟩, hPc⟩ := hp
  intro T hT X
  obtain ⟨v, vm₁, ⟨U', l2, c2, s2⟩, hW₁, X', ⟨g', mk, t, L, e1, e2, hq, h1, hL, h2, h3⟩, st⟩ := vx_callVW X hx (C := C) (hh := hh) (bytes := bytes) (maxL := maxL) (ret := ret) ho hl hin hse hcode hy hK (by rw [hT]; exact hcB) hoB hclB hg (hsize.trans hml.symm) (argsL := As) (rest := rest) (fun sig h => hn.trans (hlen sig h)) hstack hW (by rw [hb]; exact hdg)
    (fun vm₁ hW₁ => ⟨hf.1, hf.2, hPc (T.setVm vm₁) hT hW₁⟩)
  dsimp only [Pt.U, Pt.locs, Pt.cells, Pt.slots] at X' e1 e2 h1 h2 h3 st
  subst h1; subst h2; subst h3
  exact ⟨v, (T.setVm vm₁).calling g' mk (Value.ref b :: As).toArray, t, U', L, hT, X', hL, e1, e2, hq, st⟩
section
variable {y : MethodName} {bytes cc : ByteArray} {maxL nL mc ms n index : Nat} {ret : Option FieldType} {ws : List Cond} {rm : Room} {Pc : Array Value → State → Prop} {Qc : Array Value → State → Outcome → State → Prop} {XC : String → State → State → Prop} {free : Addr → Prop} {Ts : List Cond} {own C : String} {b : Addr} {As rest : List Value} {g : JFrame}
theorem vx_runVX {hh : List (Nat × Nat × Nat × Nat)} (S : CallFix p m c cc nL s args Ts own) (hM : vx_Met l y ws rm Pc Qc XC mc ms free) (cw : vx_CVW R s args own C index y bytes maxL ret hh ws rm mc ms n) (hp : PreV s H C b Pc As)
    (hg : g.method = m) (hn : As.length = n) (hsize : g.locals.size = nL) (hstack : g.stack = As.reverse ++ .ref b :: rest) (hW : 2 * g.monitorRoom + (rest.map fun v => v.category).sum ≤ 8) (hdg : decode cc g.pc = .ok (.invokevirtual index, 3)) (hf : cells + mc ≤ R.cells ∧ slots + ms ≤ R.slots) :
    vx_Run p l e R s m args below meth c H locs cells slots mc ms g rest (Qc (Value.ref b :: As).toArray) XC free := by
  obtain ⟨⟨hrc, hrs, hfr, hlo, hws, hcw⟩, hcode, hini, hy, hlen, hl, hin, hse⟩ := cw
  have hK : vx_Back l R p e below s args y 3 8 (PreOf R mc ms Pc) (PostOf Qc mc ms free) (vx_Post XC mc ms free) := vx_backW (hh := hh) (bytes := bytes) (maxL := maxL) (ret := ret) hM hp.1 hrc hrs hfr hlo hws hcw (fun a' U hW => word_at hW (Or.inl (by first | rfl | simp [Cond.onTables, Cond.keeps, Cond.steady])) hini)
  obtain ⟨hx, hb, hml, ho, -⟩ := S
  obtain ⟨-, ⟨cellB, hcB, hoB, hclB⟩, hPc⟩ := hp
  intro T hT X
  rcases vx_callVX X hx (C := C) (hh := hh) (bytes := bytes) (maxL := maxL) (ret := ret) ho hl hin hse hcode hy hK (by rw [hT]; exact hcB) hoB hclB hg (hsize.trans hml.symm) (argsL := As) (rest := rest) (fun sig h => hn.trans (hlen sig h)) hstack hW (by rw [hb]; exact hdg)
    (fun vm₁ hW₁ => ⟨hf.1, hf.2, hPc (T.setVm vm₁) hT hW₁⟩) with ⟨v, vm₁, ⟨U', l2, c2, s2⟩, hW₁, X', ⟨g', mk, t, L, e1, e2, hq, h1, hL, h2, h3⟩, st⟩ | ⟨q, vm₁, ⟨U', l2, c2, s2⟩, hW₁, X', ⟨g', mk, t, L, E, ce, e1, e2, hq, hce, hcv, hcl, h1, hL, h2, h3⟩, st⟩
  · dsimp only [Pt.U, Pt.locs, Pt.cells, Pt.slots] at X' e1 e2 h1 h2 h3 st
    subst h1; subst h2; subst h3
    exact Or.inl ⟨v, (T.setVm vm₁).calling g' mk (Value.ref b :: As).toArray, t, U', L, hT, X', hL, e1, e2, hq, st⟩
  · dsimp only [Pt.U, Pt.locs, Pt.cells, Pt.slots] at X' e1 e2 h1 h2 h3 st hcl
    subst h1; subst h2; subst h3
    exact Or.inr ⟨q, (T.setVm vm₁).calling g' mk (Value.ref b :: As).toArray, t, U', L, E, ce, hT, X', hL, e1, e2, hq, hce, hcv, vx_cls hW₁ hcl, st⟩
theorem vx_runSX {hh : List (Nat × Nat × Nat × Nat)} (S : CallFix p m c cc nL s args Ts own) (hM : vx_Met l y ws rm Pc Qc XC mc ms free) (cw : vx_CSW R s args own index y bytes maxL ret hh ws rm mc ms n) (hp : PreS s H Pc As)
    (hg : g.method = m) (hn : As.length = n) (hsize : g.locals.size = nL) (hstack : g.stack = As.reverse ++ rest) (hW : 2 * g.monitorRoom + (rest.map fun v => v.category).sum ≤ 8) (hdg : decode cc g.pc = .ok (.invokestatic index, 3)) (hf : cells + mc ≤ R.cells ∧ slots + ms ≤ R.slots) :
    vx_Run p l e R s m args below meth c H locs cells slots mc ms g rest (Qc As.toArray) XC free := by
  obtain ⟨⟨hrc, hrs, hfr, hlo, hws, hcw⟩, hcode, hini, hy, hlen, hl, hstt⟩ := cw
  have hK : vx_Back l R p e below s args y 3 8 (PreOf R mc ms Pc) (PostOf Qc mc ms free) (vx_Post XC mc ms free) := vx_backW (hh := hh) (bytes := bytes) (maxL := maxL) (ret := ret) hM hp.1 hrc hrs hfr hlo hws hcw (fun a' U hW => word_at hW (Or.inl (by first | rfl | simp [Cond.onTables, Cond.keeps, Cond.steady])) hini)
  obtain ⟨hx, hb, hml, ho, -⟩ := S
  intro T hT X
  rcases vx_callSX X hx (hh := hh) (bytes := bytes) (maxL := maxL) (ret := ret) ho hl hstt hini hcode hy hK hg (hsize.trans hml.symm) (argsL := As) (rest := rest) (fun sig h => hn.trans (hlen sig h)) hstack hW (by rw [hb]; exact hdg)
    (fun vm₁ hW₁ => ⟨hf.1, hf.2, hp.2 (T.setVm vm₁) hT hW₁⟩) with ⟨v, vm₁, ⟨U', l2, c2, s2⟩, hW₁, X', ⟨g', mk, t, L, e1, e2, hq, h1, hL, h2, h3⟩, st⟩ | ⟨q, vm₁, ⟨U', l2, c2, s2⟩, hW₁, X', ⟨g', mk, t, L, E, ce, e1, e2, hq, hce, hcv, hcl, h1, hL, h2, h3⟩, st⟩
  · dsimp only [Pt.U, Pt.locs, Pt.cells, Pt.slots] at X' e1 e2 h1 h2 h3 st
    subst h1; subst h2; subst h3
    exact Or.inl ⟨v, (T.setVm vm₁).calling g' mk As.toArray, t, U', L, hT, X', hL, e1, e2, hq, st⟩
  · dsimp only [Pt.U, Pt.locs, Pt.cells, Pt.slots] at X' e1 e2 h1 h2 h3 st hcl
    subst h1; subst h2; subst h3
    exact Or.inr ⟨q, (T.setVm vm₁).calling g' mk As.toArray, t, U', L, E, ce, hT, X', hL, e1, e2, hq, hce, hcv, vx_cls hW₁ hcl, st⟩
end
end VXH
theorem vx_ofWH {l : Launch} {y : MethodName} {ws ws' : List Cond} {rm : Room} {Pc : Array Value → State → Prop} {Qc : Array Value → State → Outcome → State → Prop} {XC : String → State → State → Prop} {mc ms : Nat} {free : Addr → Prop} {cc : ByteArray} {maxL : Nat} {ret : Option FieldType} {hh : List (Nat × Nat × Nat × Nat)}
    (hy : plainName y.cls = true) (hw : ws = Cond.codeWith y cc maxL ret hh :: ws')
    (body : ∀ p e s m args below meth c s₁, BodyLoose p l y (headSpec ws rm) cc maxL ret e s m args below meth c s₁ → c.maxLocals = maxL → Pc args s →
      W p l e (headSpec ws rm).room s m args below meth c s.heap [] 0 0 (vx_MQ below Qc XC args s mc ms free) (entryFrame m args maxL)) : vx_Met l y ws rm Pc Qc XC mc ms free := by
  refine MetFree.of_bodyS (code := cc) (maxLocals := maxL) (ret := ret) hy ?_ ?_
  · intro args s m h hn
    obtain ⟨m9, meth, c, hn9, h1, h2, h3, h4, -, h5, h6, -⟩ := Cond.codeWith_spec (atoms_spec (ws := ws) h _ (by rw [hw]; exact List.mem_cons_self))
    cases hn.symm.trans hn9
    exact ⟨meth, c, h1, h2, h3, h4, h5, h6⟩
  · intro p e s m args below meth c s₁ B hml hP _
    have hh0 : s₁.heap = s.heap := by rw [B.state]; rfl
    obtain ⟨t, a1, o, b1, b2, b3⟩ := body p e s m args below meth c s₁ B hml hP s₁ hh0 (Stand.of_body B)
    exact ⟨t, o, a1, b1, b2, b3⟩
/-! ===== END ===== -/
end
section
/-! HEAPS THAT GROW, AND ONE CELL THAT CHANGES -/
def fw_pre (H H1 : Heap) : Prop := H.size ≤ H1.size ∧ ∀ q : Nat, q < H.size → H1[q]? = H[q]?
theorem fw_pre.rf {H : Heap} : fw_pre H H := ⟨Nat.le_refl _, fun _ _ => rfl⟩
theorem fw_pre.tr {H H1 H2 : Heap} (a : fw_pre H H1) (b : fw_pre H1 H2) : fw_pre H H2 := ⟨Nat.le_trans a.1 b.1, fun q h => (b.2 q (Nat.lt_of_lt_of_le h a.1)).trans (a.2 q h)⟩
theorem fw_pre.P {D : va_G} {cl : List vw_C} {ws : va_W} {H H1 : Heap} (h : fw_pre H H1) (hP : va_P D cl ws H) : va_P D cl ws H1 := hP.kept (fun _ q hk => h.2 q.1 (vx_lt hP hk))
theorem fw_S_pre {H0 H : Heap} {locs : List Loc} (hS : va_S (fun q => H0.size ≤ q) H0 H locs) : fw_pre H0 H := ⟨hS.1, fun q h => hS.2.1 q h (Nat.not_le.mpr h)⟩
theorem fw_old {D : va_G} {cl : List vw_C} {ws : va_W} {H0 H : Heap} {locs : List Loc} (hP : va_P D cl ws H0) (hS : va_S (fun q => H0.size ≤ q) H0 H locs) : va_P D cl ws H := (fw_S_pre hS).P hP
theorem fw_nilP {D : va_G} {cl : List vw_C} {H : Heap} : va_P D cl [] H := fun k q h => by simp at h
theorem fw_nilD {A : Nat → Prop} : va_D A [] := ⟨fun i j p q h => by simp at h, fun k q h => by simp at h⟩
theorem fw_D1 {A : Nat → Prop} {h0 : Nat} {e : va_E} (hA : A h0) : va_D A [(h0, e)] := by
  refine ⟨fun i j p q h1 h2 _ => ?_, fun k q h => ?_⟩
  · have a1 := (List.getElem?_eq_some_iff.mp h1).1
    have a2 := (List.getElem?_eq_some_iff.mp h2).1
    simp at a1 a2
    omega
  · have h3 := List.mem_of_getElem? h
    simp only [List.mem_cons, List.not_mem_nil, or_false] at h3
    rw [h3]
    exact hA
/-- asked: the cells ws, in a heap of sz cells -/
def fw_RZ (D : va_G) (cl : List vw_C) (ws : va_W) (sz : Nat) (av : List Value) : Array Value → State → Prop := va_Pc av (fun U => U.heap.size = sz ∧ va_P D cl ws U.heap ∧ va_K D cl [] U)
theorem fw_RZb {D : va_G} {cl : List vw_C} {ws : va_W} {sz : Nat} {av : List Value} : FrameBlind (fw_RZ D cl ws sz av) := fun a U g mk q => ⟨q.1, q.2.1, q.2.2.1, va_K.moved (u := U) (U := U.calling g mk a) (Vm.Alike.refl U.vm) q.2.2.2⟩
theorem fw_RZS {s : State} {H : Heap} {D : va_G} {cl : List vw_C} {ws : va_W} {tys : List (ClassId × FieldType)} {av : List Value} (hP : va_P D cl ws H) (hK : va_K D cl tys s) : PreS s H (fw_RZ D cl ws H.size av) av :=
  ⟨fw_RZb, fun U hU hW => ⟨rfl, by rw [hU], by rw [hU]; exact hP, va_K.moved hW.alike (hK.sub (tys' := []) [] rfl)⟩⟩
theorem fw_RZV {s : State} {H : Heap} {D : va_G} {cl : List vw_C} {ws : va_W} {tys : List (ClassId × FieldType)} {b : Nat} {As : List Value} {C : String} (hr : ∃ cell : Cell, H[b]? = some cell ∧ cell.vm.isStatics = false ∧ s.vm.findClass C = some cell.cls) (hP : va_P D cl ws H) (hK : va_K D cl tys s) : PreV s H C b (fw_RZ D cl ws H.size (.ref b :: As)) As :=
  ⟨fw_RZb, hr, fun U hU hW => ⟨rfl, by rw [hU], by rw [hU]; exact hP, va_K.moved hW.alike (hK.sub (tys' := []) [] rfl)⟩⟩
/-- answered: a reference to a cell with these fields; all old cells as they were -/
def fw_G (D : va_G) (cl : List vw_C) (ci : Nat) (fs : List Value) : Array Value → State → Outcome → State → Prop := fun _ st oc t => ∃ q : Nat, oc = .returned (some (.ref q)) ∧ va_P D cl [(q, .inr (ci, fs))] t.heap ∧ fw_pre st.heap t.heap
/-- answered: the cell h0 with these fields; all other cells as they were -/
def fw_M (D : va_G) (cl : List vw_C) (h0 ci : Nat) (fs : List Value) (ov : Option Value) : Array Value → State → Outcome → State → Prop := fun _ st oc t => oc = .returned ov ∧ va_P D cl [(h0, .inr (ci, fs))] t.heap ∧ va_F (fun q => q = h0) st t
section FH
variable {p : Program} {l : Launch} {e : Env} {R : Room} {s : State} {m : MethodId} {args : Array Value} {below : List Frame} {meth : Method} {c : Code} {H : Heap} {locs : List Loc} {cells slots : Nat} {Q : State → Prop}
variable {D : va_G} {cl : List vw_C} {A0 : Nat → Prop} {H0 : Heap} {a : Array Value} {pc mc ms ci : Nat} {fs : List Value} {ls : Array Slot} {st0 rest : List Value}
theorem fw_callG (hr : va_Run p l e R s m args below meth c H locs cells slots mc ms (F0 m pc ls st0) rest (fw_G D cl ci fs a) (fun q => H.size ≤ q)) (hS : va_S A0 H0 H locs) (hA : ∀ q, H0.size ≤ q → A0 q)
    (kk : ∀ (q : Nat) (H1 : Heap) (locs1 : List Loc), va_P D cl [(q, .inr (ci, fs))] H1 → fw_pre H H1 → va_S A0 H0 H1 locs1 → W p l e R s m args below meth c H1 locs1 (cells + mc) (slots + ms) Q (F0 m (pc + 3) ls (.ref q :: rest))) : W p l e R s m args below meth c H locs cells slots Q (F0 m pc ls st0) := by
  intro T hT X
  obtain ⟨v, st₀, t, T', L, h0, X', hL, e1, -, ⟨q, hv, hp, hg⟩, st⟩ := hr T hT X
  cases hv
  rw [h0] at hg
  rw [← e1] at hp hg
  obtain ⟨t2, a1, b1⟩ := kk q T'.heap (locs ++ L) hp hg
    ⟨Nat.le_trans hS.1 hg.1, fun z h1 h2 => (hg.2 z (Nat.lt_of_lt_of_le h1 hS.1)).trans (hS.2.1 z h1 h2), fun z hz => by
      rcases List.mem_append.mp hz with h | h
      · exact hS.2.2 z h
      · exact hA _ (Nat.le_trans hS.1 (hL z h))⟩ T' rfl X'
  exact ⟨t2, st t2 a1, b1⟩
theorem fw_callM {h0 : Nat} {ov : Option Value} (hr : va_Run p l e R s m args below meth c H locs cells slots 0 0 (F0 m pc ls st0) rest (fw_M D cl h0 ci fs ov a) (fun q => q = h0)) (hS : va_S A0 H0 H locs) (hA : A0 h0)
    (kk : ∀ (H1 : Heap) (locs1 : List Loc), va_P D cl [(h0, .inr (ci, fs))] H1 → H.size ≤ H1.size → (∀ q : Nat, q < H.size → q ≠ h0 → H1[q]? = H[q]?) → va_S A0 H0 H1 locs1 → W p l e R s m args below meth c H1 locs1 cells slots Q (F0 m (pc + 3) ls (ov.toList ++ rest))) : W p l e R s m args below meth c H locs cells slots Q (F0 m pc ls st0) := by
  intro T hT X
  obtain ⟨v, st₀, t, T', L, h0', X', hL, e1, -, ⟨hv, hp, hg⟩, st⟩ := hr T hT X
  cases hv
  rw [← e1] at hp
  obtain ⟨g1, g2⟩ := hg
  rw [h0', ← e1] at g1 g2
  obtain ⟨t2, a1, b1⟩ := kk T'.heap (locs ++ L) hp g1 g2
    ⟨Nat.le_trans hS.1 g1, fun z h1 h2 => (g2 z (Nat.lt_of_lt_of_le h1 hS.1) (fun hz => h2 (by rw [hz]; exact hA))).trans (hS.2.1 z h1 h2), fun z hz => by
      rcases List.mem_append.mp hz with h | h
      · exact hS.2.2 z h
      · rw [hL z h]; exact hA⟩ T' rfl X'
  exact ⟨t2, st t2 a1, b1⟩
end FH
/-- a number of the class Value, as its cell holds it -/
abbrev fw_V : Type := Bool × Bool × Int64 × Int64 × Int64
def fw_vl (v : fw_V) : List Value := [.int (jb v.1), .int (jb v.2.1), .long v.2.2.1, .long v.2.2.2.1, .long v.2.2.2.2]
theorem gd_I {w0 : Cond} (h4 : w0 ∈ fc_all) : GoodIn fc_all (w0 :: fc_all) := by
  intro w hw
  refine fc_good w ?_
  rcases List.mem_cons.mp hw with rfl | h
  · exact h4
  · exact h
end
section
/-! WHAT A THROW AND A NEST MATE'S CALL ASK OF THE STATE -/
def fw_IAE : String := "java/lang/IllegalArgumentException"
def fw_nest : Cond := .methodLinkNest RX0 28 yX5_isWithin RX5
def fw_d1 : Cond := .declares ⟨"java/lang/RuntimeException", "<init>", "()V"⟩
def fw_d2 : Cond := .declares ⟨"java/lang/Exception", "<init>", "()V"⟩
def fw_d3 : Cond := .declares ⟨"java/lang/Throwable", "<init>", "()V"⟩
def fw_d4 : Cond := .castable fw_IAE fw_IAE
theorem fw_at_good : ∀ w ∈ (vx_at0 RX5 140 fw_IAE ["java/lang/RuntimeException", "java/lang/Exception"]).filter goodWord, w ∈ fc_all := by decide +kernel
theorem fw_at_rest : ∀ w ∈ (vx_at0 RX5 140 fw_IAE ["java/lang/RuntimeException", "java/lang/Exception"]).filter (fun w => !goodWord w), w ∈ [fw_d1, fw_d2, fw_d3, fw_d4] := by decide +kernel
theorem fw_at_ot : ∀ w ∈ Cond.classLink RX5 138 fw_IAE :: Cond.initialized fw_IAE :: vx_at0 RX5 140 fw_IAE ["java/lang/RuntimeException", "java/lang/Exception"], vx_ot w = true := by decide +kernel
/-- the tables' words that no list of words can carry -/
def fw_T (U : State) : Prop := va_Nw fw_nest U ∧ va_Nw fw_d1 U ∧ va_Nw fw_d2 U ∧ va_Nw fw_d3 U ∧ va_Nw fw_d4 U
theorem fw_T.warm {s U : State} (hW : s.WarmedH U.vm) (h : fw_T s) : fw_T U := ⟨va_Nw.warmM hW h.1, va_Nw.warmD hW h.2.1, va_Nw.warmD hW h.2.2.1, va_Nw.warmD hW h.2.2.2.1, va_Nw.warmC hW h.2.2.2.2⟩
theorem fw_T.same {u U : State} (hv : u.vm = U.vm) (h : fw_T u) : fw_T U := ⟨va_Nw.same rfl hv h.1, va_Nw.same rfl hv h.2.1, va_Nw.same rfl hv h.2.2.1, va_Nw.same rfl hv h.2.2.2.1, va_Nw.same rfl hv h.2.2.2.2⟩
/-- Throwable's two statics lie below sz and hold references -/
def fw_Z (sz : Nat) (U : State) (H : Heap) : Prop := vx_Zq Bundle.tN "UNASSIGNED_STACK" Bundle.steD (fun q => sz ≤ q) U H ∧ vx_Zq Bundle.tN "SUPPRESSED_SENTINEL" Bundle.listD (fun q => sz ≤ q) U H
theorem fw_Z.moved {sz : Nat} {u U : State} {H : Heap} (hv : u.vm.Alike U.vm) (h : fw_Z sz u H) : fw_Z sz U H := ⟨h.1.moved hv, h.2.moved hv⟩
theorem fw_Z.grow {sz sz2 : Nat} {U : State} {H H1 : Heap} (hs : sz ≤ H.size) (hs2 : sz ≤ sz2) (hq : ∀ q : Nat, q < sz → H1[q]? = H[q]?) (h : fw_Z sz U H) : fw_Z sz2 U H1 :=
  ⟨(h.1.kept (fun a _ h2 => hq a (Nat.not_le.mp h2))).narrow (fun q hh => Nat.le_trans hs2 hh), (h.2.kept (fun a _ h2 => hq a (Nat.not_le.mp h2))).narrow (fun q hh => Nat.le_trans hs2 hh)⟩
def fw_E (sz : Nat) (U : State) : Prop := U.heap.size = sz ∧ fw_T U ∧ fw_Z sz U U.heap
theorem fw_E.calling {sz : Nat} {U : State} (g : JFrame) (mk : MethodId) (a : Array Value) (h : fw_E sz U) : fw_E sz (U.calling g mk a) := ⟨h.1, fw_T.same (u := U) rfl h.2.1, fw_Z.moved (u := U) (U := U.calling g mk a) (Vm.Alike.refl U.vm) h.2.2⟩
/-- what the entry's facts say of a later heap of the same walk -/
theorem fw_E.at {s : State} {sz : Nat} (h : fw_E sz s) {U : State} {H : Heap} (hp : fw_pre s.heap H) (hU : U.heap = H) (hW : s.WarmedH U.vm) : fw_E H.size U := by
  obtain ⟨h1, h2, h3⟩ := h
  subst h1
  refine ⟨by rw [hU], h2.warm hW, ?_⟩
  rw [hU]
  exact (fw_Z.grow (Nat.le_refl _) hp.1 hp.2 h3).moved hW.alike
/-- asked by a method that throws or calls one that does -/
def fw_X (D : va_G) (cl : List vw_C) (ws : va_W) (sz : Nat) (av : List Value) : Array Value → State → Prop := va_Pc av (fun U => fw_E sz U ∧ va_P D cl ws U.heap ∧ va_K D cl [] U)
theorem fw_Xb {D : va_G} {cl : List vw_C} {ws : va_W} {sz : Nat} {av : List Value} : FrameBlind (fw_X D cl ws sz av) := fun a U g mk q => ⟨q.1, q.2.1.calling g mk a, q.2.2.1, va_K.moved (u := U) (U := U.calling g mk a) (Vm.Alike.refl U.vm) q.2.2.2⟩
theorem fw_XS {s : State} {H : Heap} {D : va_G} {cl : List vw_C} {ws : va_W} {sz : Nat} {tys : List (ClassId × FieldType)} {av : List Value} (hE : fw_E sz s) (hp : fw_pre s.heap H) (hP : va_P D cl ws H) (hK : va_K D cl tys s) : PreS s H (fw_X D cl ws H.size av) av :=
  ⟨fw_Xb, fun U hU hW => ⟨rfl, hE.at hp hU hW, by rw [hU]; exact hP, va_K.moved hW.alike (hK.sub (tys' := []) [] rfl)⟩⟩
theorem fw_XV {s : State} {H : Heap} {D : va_G} {cl : List vw_C} {ws : va_W} {sz : Nat} {tys : List (ClassId × FieldType)} {b : Nat} {As : List Value} {C : String} (hr : ∃ cell : Cell, H[b]? = some cell ∧ cell.vm.isStatics = false ∧ s.vm.findClass C = some cell.cls) (hE : fw_E sz s) (hp : fw_pre s.heap H) (hP : va_P D cl ws H) (hK : va_K D cl tys s) : PreV s H C b (fw_X D cl ws H.size (.ref b :: As)) As :=
  ⟨fw_Xb, hr, fun U hU hW => ⟨rfl, hE.at hp hU hW, by rw [hU]; exact hP, va_K.moved hW.alike (hK.sub (tys' := []) [] rfl)⟩⟩
/-- require(B): it returns, or throws -/
def fw_XQ (B : Bool) : Array Value → State → Outcome → State → Prop := fun _ st oc t => B = true ∧ oc = .returned none ∧ t.heap = st.heap
def fw_XX (B : Bool) : String → State → State → Prop := fun E st t => B = false ∧ E = fw_IAE ∧ fw_pre st.heap t.heap
set_option maxHeartbeats 4000000 in
set_option maxRecDepth 100000 in
theorem k_X5_require (l : Launch) (hl9 : l.stackTraces = false) (D : va_G) (sz : Nat) (B : Bool) : vx_Met l yX5_require wsX5_require { frames := 6, cells := 1, slots := 6, locals := 81 } (fw_X D vwCl [] sz [.int (jb B)]) (fw_XQ B) (fw_XX B) 1 6 (fun q => sz ≤ q) := by
  refine vx_ofW (cc := cX5_require) (maxL := 1) (ret := none) (by decide) rfl ?_
  intro p e s m args below meth c s₁ B0 hml hno hv
  obtain ⟨rfl, ⟨hsz, hT, hZ⟩, -, -⟩ := hv
  subst hsz
  have hx := B0.exec
  have hb := B0.bytes
  have hr := B0.returns
  have hts := atoms_spec (ws := wsX5_require) B0.pre
  have htf : ∀ w ∈ fc_all, w.before _ s = true := fun w h => hts w (List.mem_cons_of_mem _ h)
  have hown : s.vm.findClass RX5 = some m.cls := findClass_of_methodNamed B0.named
  have hlocks := B0.notSynchronized
  have hS : va_S (fun q => s.heap.size ≤ q) s.heap s.heap [] := va_S.rf
  have hl := lv_entry ([.int (jb B)]) (n := 1) (Nat.le_of_ble_eq_true rfl)
  rw [lg_entry_eq]
  generalize (lg_sl ([.int (jb B)]) ++ List.replicate (1 - (lg_sl ([.int (jb B)])).length) Slot.unset).toArray = ls at hl ⊢
  have hl : lv_has ls 1 [(0, .int (jb B))] := hl
  refine lv_iload_n hx hb dX5_require_0 rfl (lv_at hl 0 rfl) ?_
  refine lv_if_ne (tgt := 12) hx hb dX5_require_1 (by decide) (fun c1 => ?_) (fun c1 => ?_)
  · have hB : B = true := by cases B with
      | true => rfl
      | false => exact absurd rfl c1
    refine vx_ret ?_
    refine W.widen (k := 1) (n := 6) (by decide) (by decide) ?_
    exact W.vret hx hb hr (fun t ht hW => ⟨hB, rfl, ht⟩) (fun q h => nomatch h) dX5_require_12
  · have hB : B = false := (jb_0 B).mp c1
    exact vx_throw0 hx hb hl9 (own := RX5) (cls := fw_IAE) (names := ["java/lang/RuntimeException", "java/lang/Exception"]) (ik := 138) (ic := 140) hown (by decide) (by decide) (htf _ (by decide +kernel)) (htf _ (by decide +kernel))
      (vx_hat (fun w h => htf w (fw_at_good w h)) fw_at_rest (vx_c (va_Nw.use rfl hT.2.1) (vx_c (va_Nw.use rfl hT.2.2.1) (vx_c (va_Nw.use rfl hT.2.2.2.1) (vx_c (va_Nw.use rfl hT.2.2.2.2) vx_n)))))
      fw_at_ot hZ.1 hZ.2 hS (by rw [hml]; exact hl.1) dX5_require_4 dX5_require_7 dX5_require_8 dX5_require_11 (fun x hx9 => (hno x hx9).elim) (by decide) (by decide) (by decide) (by decide) hlocks
      (fun t _ g1 g2 => ⟨hB, rfl, g1, g2⟩) (fun z hz => nomatch hz) (by decide) (by decide)
section FK
variable {p : Program} {l : Launch} {e : Env} {R : Room} {s : State} {m : MethodId} {args : Array Value} {below : List Frame} {meth : Method} {c : Code} {H : Heap} {locs : List Loc} {cells slots : Nat}
/-- the call of require in a method without handlers -/
theorem fw_callX {pc mc ms : Nat} {ls : Array Slot} {st0 rest : List Value} {a : Array Value} {B : Bool} {Qc : Array Value → State → Outcome → State → Prop} {XC : String → State → State → Prop}
    (hr : vx_Run p l e R s m args below meth c H locs cells slots 1 6 (F0 m pc ls st0) rest (fw_XQ B a) (fw_XX B) (fun q => H.size ≤ q)) (hp : fw_pre s.heap H) (hloc : ∀ z ∈ locs, s.heap.size ≤ z.base) (hno : ∀ x ∈ c.exceptionTable.toList, False) (hlocks : meth.locks = false)
    (hx : B = false → ∀ t : State, fw_pre H t.heap → XC fw_IAE s t) (hc : cells + 1 ≤ mc) (hs : slots + 6 ≤ ms)
    (kk : B = true → W p l e R s m args below meth c H locs (cells + 1) (slots + 6) (vx_MQ below Qc XC args s mc ms (fun q => s.heap.size ≤ q)) (F0 m (pc + 3) ls rest)) :
    W p l e R s m args below meth c H locs cells slots (vx_MQ below Qc XC args s mc ms (fun q => s.heap.size ≤ q)) (F0 m pc ls st0) := by
  intro T hT X
  rcases hr T hT X with ⟨v, st₀, t, T', L, h0, X', hL, e1, e2, ⟨hB, hv, hh⟩, st⟩ | ⟨q, st₀, t, T', L, E, ce, h0, X', hL, e1, e2, ⟨hB, rfl, hg⟩, hce, hcv, hcl, st⟩
  · cases hv
    obtain ⟨t2, a1, b1⟩ := kk hB T' (by rw [e1, hh, h0]) (Stand.forget X' (fun z hz => Nat.le_trans hp.1 (hL z hz)))
    exact ⟨t2, st t2 a1, b1⟩
  · have hg' : fw_pre H T'.heap := by rw [e1, ← h0]; exact hg
    have hw : vx_W p l e R s m args below meth c T'.heap (locs ++ L) (cells + 1) (slots + 6) (vx_MQ below Qc XC args s mc ms (fun q => s.heap.size ≤ q)) (F0 m pc ls rest) q :=
      vx_out (fun x hx9 => (hno x hx9).elim) hlocks (by rw [e1]; exact hce) hcv hcl (fun t2 h2 _ => hx hB t2 (by rw [h2]; exact hg')) (fun z hz => by
        rcases List.mem_append.mp hz with h | h
        · exact hloc z h
        · exact Nat.le_trans hp.1 (hL z h)) hc hs
    obtain ⟨t2, a1, b1⟩ := hw T' rfl X'
    exact ⟨t2, st.trans a1, b1⟩
end FK
end
