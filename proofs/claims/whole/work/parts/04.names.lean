def zW : List Cond := lw_tbl.filter goodWord
theorem zW_0 {w : Cond} {i : Nat} (h : (k2_sels lw_privs)[i]? = some w) (hg : goodWord w = true) : w ∈ zW := List.mem_filter.mpr ⟨List.mem_append_left _ (List.mem_of_getElem? h), hg⟩
theorem zW_1 {w : Cond} {i : Nat} (h : tables_1_1[i]? = some w) (hg : goodWord w = true) : w ∈ zW := List.mem_filter.mpr ⟨List.mem_append_right _ (List.mem_append_left _ (List.mem_of_getElem? h)), hg⟩
theorem zW_2 {w : Cond} {i : Nat} (h : tables_1_2[i]? = some w) (hg : goodWord w = true) : w ∈ zW := List.mem_filter.mpr ⟨List.mem_append_right _ (List.mem_append_right _ (List.mem_append_left _ (List.mem_of_getElem? h))), hg⟩
theorem zW_3 {w : Cond} {i : Nat} (h : tables_1_3[i]? = some w) (hg : goodWord w = true) : w ∈ zW := List.mem_filter.mpr ⟨List.mem_append_right _ (List.mem_append_right _ (List.mem_append_right _ (List.mem_append_left _ (List.mem_of_getElem? h)))), hg⟩
theorem zW_4 {w : Cond} {i : Nat} (h : tables_1_4[i]? = some w) (hg : goodWord w = true) : w ∈ zW := List.mem_filter.mpr ⟨List.mem_append_right _ (List.mem_append_right _ (List.mem_append_right _ (List.mem_append_right _ (List.mem_of_getElem? h)))), hg⟩
theorem zW_in : ∀ w ∈ zW, w ∈ lw_tbl := fun w h => (List.mem_filter.mp h).1
theorem zW_good : ∀ w ∈ zW, goodWord w = true := fun w h => (List.mem_filter.mp h).2
abbrev zc_F_init : ByteArray := prog_1_method_1_code
def zy_F_init : MethodName := ⟨"CronFinder", "<init>", "()V"⟩
abbrev zc_P_init : ByteArray := prog_6_method_1_code
def zy_P_init : MethodName := ⟨"CronFinder$Plan", "<init>", "()V"⟩
abbrev zc_O_init : ByteArray := prog_8_method_1_code
def zy_O_init : MethodName := ⟨"CronFinder$Row", "<init>", "(II)V"⟩
abbrev zc_S_init : ByteArray := prog_5_method_1_code
def zy_S_init : MethodName := ⟨"CronFinder$DaySet", "<init>", "(I)V"⟩
abbrev zc_F_place : ByteArray := prog_1_method_10_code
def zy_F_place : MethodName := ⟨"CronFinder", "place", "()I"⟩
abbrev zc_L_feed : ByteArray := method_3_code
def zy_L_feed : MethodName := ⟨"CronFinderLaw", "feed", "(LCronFinder;IIIII[J)I"⟩
abbrev zc_F_feed : ByteArray := prog_1_method_2_code
def zy_F_feed : MethodName := ⟨"CronFinder", "feed", "(IIIII)I"⟩
abbrev zc_JT_init : ByteArray := prog_22_method_1_code
def zy_JT_init : MethodName := ⟨"java/lang/Throwable", "<init>", "()V"⟩
abbrev zc_JB_init : ByteArray := prog_14_method_2_code
def zy_JB_init : MethodName := ⟨"java/lang/IndexOutOfBoundsException", "<init>", "(Ljava/lang/String;)V"⟩
abbrev zc_JR_init : ByteArray := prog_17_method_2_code
def zy_JR_init : MethodName := ⟨"java/lang/RuntimeException", "<init>", "(Ljava/lang/String;)V"⟩
abbrev zc_JX_init : ByteArray := prog_12_method_2_code
def zy_JX_init : MethodName := ⟨"java/lang/Exception", "<init>", "(Ljava/lang/String;)V"⟩
abbrev zc_JT_init_LjavalangString : ByteArray := prog_22_method_2_code
def zy_JT_init_LjavalangString : MethodName := ⟨"java/lang/Throwable", "<init>", "(Ljava/lang/String;)V"⟩
abbrev zc_F_putBytes : ByteArray := prog_1_method_11_code
def zy_F_putBytes : MethodName := ⟨"CronFinder", "putBytes", "(I)V"⟩
abbrev zc_L_end : ByteArray := method_4_code
def zy_L_end : MethodName := ⟨"CronFinderLaw", "end", "(LCronFinder;I[J)I"⟩
abbrev zc_F_end : ByteArray := prog_1_method_3_code
def zy_F_end : MethodName := ⟨"CronFinder", "end", "(I)I"⟩
abbrev zc_JA_init : ByteArray := prog_13_method_2_code
def zy_JA_init : MethodName := ⟨"java/lang/IllegalArgumentException", "<init>", "(Ljava/lang/String;)V"⟩
abbrev zc_L_cron : ByteArray := method_5_code
def zy_L_cron : MethodName := ⟨"CronFinderLaw", "cron", "(LCronFinder;)I"⟩
abbrev zc_F_cron : ByteArray := prog_1_method_4_code
def zy_F_cron : MethodName := ⟨"CronFinder", "cron", "()V"⟩
abbrev zc_R_init : ByteArray := prog_7_method_1_code
def zy_R_init : MethodName := ⟨"CronFinder$Reader", "<init>", "([CILCronFinder$Plan;)V"⟩
abbrev zc_R_readText : ByteArray := prog_7_method_2_code
def zy_R_readText : MethodName := ⟨"CronFinder$Reader", "readText", "()I"⟩
abbrev zc_P_clear : ByteArray := prog_6_method_2_code
def zy_P_clear : MethodName := ⟨"CronFinder$Plan", "clear", "()V"⟩
abbrev zc_P_row : ByteArray := prog_6_method_3_code
def zy_P_row : MethodName := ⟨"CronFinder$Plan", "row", "(I)LCronFinder$Row;"⟩
abbrev zc_O_clear : ByteArray := prog_8_method_4_code
def zy_O_clear : MethodName := ⟨"CronFinder$Row", "clear", "()V"⟩
abbrev zc_P_choose : ByteArray := prog_6_method_5_code
def zy_P_choose : MethodName := ⟨"CronFinder$Plan", "choose", "(LCronFinder$DayRule;II)V"⟩
abbrev zc_O_allowAll : ByteArray := prog_8_method_5_code
def zy_O_allowAll : MethodName := ⟨"CronFinder$Row", "allowAll", "()V"⟩
abbrev zc_O_allow : ByteArray := prog_8_method_6_code
def zy_O_allow : MethodName := ⟨"CronFinder$Row", "allow", "(III)V"⟩
abbrev zc_JM_floorMod : ByteArray := prog_16_method_50_code
def zy_JM_floorMod : MethodName := ⟨"java/lang/Math", "floorMod", "(II)I"⟩
abbrev zc_JM_max : ByteArray := prog_16_method_65_code
def zy_JM_max : MethodName := ⟨"java/lang/Math", "max", "(II)I"⟩
abbrev zc_R_readBlanks : ByteArray := prog_7_method_3_code
def zy_R_readBlanks : MethodName := ⟨"CronFinder$Reader", "readBlanks", "()Z"⟩
abbrev zc_R_readDay : ByteArray := prog_7_method_4_code
def zy_R_readDay : MethodName := ⟨"CronFinder$Reader", "readDay", "()Z"⟩
abbrev zc_R_accept : ByteArray := prog_7_method_14_code
def zy_R_accept : MethodName := ⟨"CronFinder$Reader", "accept", "(C)Z"⟩
abbrev zc_R_sees : ByteArray := prog_7_method_13_code
def zy_R_sees : MethodName := ⟨"CronFinder$Reader", "sees", "(C)Z"⟩
abbrev zc_R_readLastDay : ByteArray := prog_7_method_5_code
def zy_R_readLastDay : MethodName := ⟨"CronFinder$Reader", "readLastDay", "()Z"⟩
abbrev zc_R_readNumber : ByteArray := prog_7_method_12_code
def zy_R_readNumber : MethodName := ⟨"CronFinder$Reader", "readNumber", "(II)Z"⟩
abbrev zc_JM_min : ByteArray := prog_16_method_69_code
def zy_JM_min : MethodName := ⟨"java/lang/Math", "min", "(II)I"⟩
abbrev zc_R_readValue : ByteArray := prog_7_method_10_code
def zy_R_readValue : MethodName := ⟨"CronFinder$Reader", "readValue", "(I)Z"⟩
abbrev zc_R_readName : ByteArray := prog_7_method_11_code
def zy_R_readName : MethodName := ⟨"CronFinder$Reader", "readName", "(Ljava/lang/String;)Z"⟩
abbrev zc_JS_length : ByteArray := prog_18_method_54_code
def zy_JS_length : MethodName := ⟨"java/lang/String", "length", "()I"⟩
abbrev zc_JS_coder : ByteArray := prog_18_method_152_code
def zy_JS_coder : MethodName := ⟨"java/lang/String", "coder", "()B"⟩
abbrev zc_JS_charAt : ByteArray := prog_18_method_56_code
def zy_JS_charAt : MethodName := ⟨"java/lang/String", "charAt", "(I)C"⟩
abbrev zc_JS_isLatin1 : ByteArray := prog_18_method_154_code
def zy_JS_isLatin1 : MethodName := ⟨"java/lang/String", "isLatin1", "()Z"⟩
abbrev zc_JL_charAt : ByteArray := prog_19_method_2_code
def zy_JL_charAt : MethodName := ⟨"java/lang/StringLatin1", "charAt", "([BI)C"⟩
abbrev zc_JS_checkIndex : ByteArray := prog_18_method_155_code
def zy_JS_checkIndex : MethodName := ⟨"java/lang/String", "checkIndex", "(II)V"⟩
abbrev zc_JP_checkIndex : ByteArray := prog_24_method_11_code
def zy_JP_checkIndex : MethodName := ⟨"jdk/internal/util/Preconditions", "checkIndex", "(IILjava/util/function/BiFunction;)I"⟩
abbrev zc_JU_charAt : ByteArray := prog_20_method_83_code
def zy_JU_charAt : MethodName := ⟨"java/lang/StringUTF16", "charAt", "([BI)C"⟩
abbrev zc_JU_checkIndex : ByteArray := prog_20_method_91_code
def zy_JU_checkIndex : MethodName := ⟨"java/lang/StringUTF16", "checkIndex", "(I[B)V"⟩
abbrev zc_JU_length : ByteArray := prog_20_method_6_code
def zy_JU_length : MethodName := ⟨"java/lang/StringUTF16", "length", "([B)I"⟩
abbrev zc_JU_getChar : ByteArray := prog_20_method_5_code
def zy_JU_getChar : MethodName := ⟨"java/lang/StringUTF16", "getChar", "([BI)C"⟩
abbrev zc_O_first : ByteArray := prog_8_method_2_code
def zy_O_first : MethodName := ⟨"CronFinder$Row", "first", "()I"⟩
abbrev zc_O_highest : ByteArray := prog_8_method_3_code
def zy_O_highest : MethodName := ⟨"CronFinder$Row", "highest", "()I"⟩
abbrev zc_R_readItems : ByteArray := prog_7_method_8_code
def zy_R_readItems : MethodName := ⟨"CronFinder$Reader", "readItems", "(I)Z"⟩
abbrev zc_R_readItem : ByteArray := prog_7_method_9_code
def zy_R_readItem : MethodName := ⟨"CronFinder$Reader", "readItem", "(I)Z"⟩
abbrev zc_R_readWeekday : ByteArray := prog_7_method_6_code
def zy_R_readWeekday : MethodName := ⟨"CronFinder$Reader", "readWeekday", "()Z"⟩
abbrev zc_R_readOrdinal : ByteArray := prog_7_method_7_code
def zy_R_readOrdinal : MethodName := ⟨"CronFinder$Reader", "readOrdinal", "(I)Z"⟩
abbrev zc_P_seal : ByteArray := prog_6_method_4_code
def zy_P_seal : MethodName := ⟨"CronFinder$Plan", "seal", "()V"⟩
abbrev zc_O_has : ByteArray := prog_8_method_7_code
def zy_O_has : MethodName := ⟨"CronFinder$Row", "has", "(I)Z"⟩
abbrev zc_JV_init : ByteArray := prog_23_method_2_code
def zy_JV_init : MethodName := ⟨"java/lang/UnsupportedOperationException", "<init>", "(Ljava/lang/String;)V"⟩
abbrev zc_L_holiday : ByteArray := method_6_code
def zy_L_holiday : MethodName := ⟨"CronFinderLaw", "holiday", "(LCronFinder;IZ[J)I"⟩
abbrev zc_F_holiday : ByteArray := prog_1_method_5_code
def zy_F_holiday : MethodName := ⟨"CronFinder", "holiday", "(IZ)I"⟩
abbrev zc_S_remove : ByteArray := prog_5_method_5_code
def zy_S_remove : MethodName := ⟨"CronFinder$DaySet", "remove", "(I)V"⟩
abbrev zc_S_has : ByteArray := prog_5_method_3_code
def zy_S_has : MethodName := ⟨"CronFinder$DaySet", "has", "(I)Z"⟩
abbrev zc_S_indexOf : ByteArray := prog_5_method_6_code
def zy_S_indexOf : MethodName := ⟨"CronFinder$DaySet", "indexOf", "(I)I"⟩
abbrev zc_JI_highestOneBit : ByteArray := prog_15_method_45_code
def zy_JI_highestOneBit : MethodName := ⟨"java/lang/Integer", "highestOneBit", "(I)I"⟩
abbrev zc_JI_numberOfLeadingZeros : ByteArray := prog_15_method_47_code
def zy_JI_numberOfLeadingZeros : MethodName := ⟨"java/lang/Integer", "numberOfLeadingZeros", "(I)I"⟩
abbrev zc_S_add : ByteArray := prog_5_method_4_code
def zy_S_add : MethodName := ⟨"CronFinder$DaySet", "add", "(I)Z"⟩
abbrev zc_S_size : ByteArray := prog_5_method_2_code
def zy_S_size : MethodName := ⟨"CronFinder$DaySet", "size", "()I"⟩
abbrev zc_L_next : ByteArray := method_7_code
def zy_L_next : MethodName := ⟨"CronFinderLaw", "next", "(LCronFinder;J[J)I"⟩
abbrev zc_F_next : ByteArray := prog_1_method_6_code
def zy_F_next : MethodName := ⟨"CronFinder", "next", "(J)J"⟩
abbrev zc_F_checkTime : ByteArray := prog_1_method_12_code
def zy_F_checkTime : MethodName := ⟨"CronFinder", "checkTime", "(J)V"⟩
abbrev zc_F_fireBehind : ByteArray := prog_1_method_13_code
def zy_F_fireBehind : MethodName := ⟨"CronFinder", "fireBehind", "(J)J"⟩
abbrev zc_F_firingDayFrom : ByteArray := prog_1_method_16_code
def zy_F_firingDayFrom : MethodName := ⟨"CronFinder", "firingDayFrom", "(I)I"⟩
abbrev zc_D_monthOf : ByteArray := prog_3_method_5_code
def zy_D_monthOf : MethodName := ⟨"CronFinder$Dates", "monthOf", "(I)I"⟩
abbrev zc_D_yearOf : ByteArray := prog_3_method_7_code
def zy_D_yearOf : MethodName := ⟨"CronFinder$Dates", "yearOf", "(I)I"⟩
abbrev zc_D_startOfYear : ByteArray := prog_3_method_8_code
def zy_D_startOfYear : MethodName := ⟨"CronFinder$Dates", "startOfYear", "(I)I"⟩
abbrev zc_D_startOfMonth : ByteArray := prog_3_method_3_code
def zy_D_startOfMonth : MethodName := ⟨"CronFinder$Dates", "startOfMonth", "(I)I"⟩
abbrev zc_D_yearOfMonth : ByteArray := prog_3_method_2_code
def zy_D_yearOfMonth : MethodName := ⟨"CronFinder$Dates", "yearOfMonth", "(I)I"⟩
abbrev zc_D_isLeap : ByteArray := prog_3_method_9_code
def zy_D_isLeap : MethodName := ⟨"CronFinder$Dates", "isLeap", "(I)Z"⟩
abbrev zc_P_daysOf : ByteArray := prog_6_method_10_code
def zy_P_daysOf : MethodName := ⟨"CronFinder$Plan", "daysOf", "(I)I"⟩
abbrev zc_D_lengthOfMonth : ByteArray := prog_3_method_4_code
def zy_D_lengthOfMonth : MethodName := ⟨"CronFinder$Dates", "lengthOfMonth", "(I)I"⟩
abbrev zc_D_weekdayOf : ByteArray := prog_3_method_6_code
def zy_D_weekdayOf : MethodName := ⟨"CronFinder$Dates", "weekdayOf", "(I)I"⟩
abbrev zc_JE_ordinal : ByteArray := prog_11_method_2_code
def zy_JE_ordinal : MethodName := ⟨"java/lang/Enum", "ordinal", "()I"⟩
abbrev zc_P_dayBit : ByteArray := prog_6_method_11_code
def zy_P_dayBit : MethodName := ⟨"CronFinder$Plan", "dayBit", "(II)I"⟩
abbrev zc_P_nearestWorkday : ByteArray := prog_6_method_14_code
def zy_P_nearestWorkday : MethodName := ⟨"CronFinder$Plan", "nearestWorkday", "(III)I"⟩
abbrev zc_P_weekdayIn : ByteArray := prog_6_method_13_code
def zy_P_weekdayIn : MethodName := ⟨"CronFinder$Plan", "weekdayIn", "(II)I"⟩
abbrev zc_P_listedWeekdays : ByteArray := prog_6_method_12_code
def zy_P_listedWeekdays : MethodName := ⟨"CronFinder$Plan", "listedWeekdays", "(II)I"⟩
abbrev zc_P_lastSubject : ByteArray := prog_6_method_16_code
def zy_P_lastSubject : MethodName := ⟨"CronFinder$Plan", "lastSubject", "(II)I"⟩
abbrev zc_P_firstSubject : ByteArray := prog_6_method_15_code
def zy_P_firstSubject : MethodName := ⟨"CronFinder$Plan", "firstSubject", "(I)I"⟩
abbrev zc_P_secondFrom : ByteArray := prog_6_method_6_code
def zy_P_secondFrom : MethodName := ⟨"CronFinder$Plan", "secondFrom", "(I)I"⟩
abbrev zc_O_from : ByteArray := prog_8_method_8_code
def zy_O_from : MethodName := ⟨"CronFinder$Row", "from", "(I)I"⟩
abbrev zc_P_secondOf : ByteArray := prog_6_method_8_code
def zy_P_secondOf : MethodName := ⟨"CronFinder$Plan", "secondOf", "(III)I"⟩
abbrev zc_F_timeOf : ByteArray := prog_1_method_15_code
def zy_F_timeOf : MethodName := ⟨"CronFinder", "timeOf", "(II)J"⟩
abbrev zc_L_last : ByteArray := method_8_code
def zy_L_last : MethodName := ⟨"CronFinderLaw", "last", "(LCronFinder;J[J)I"⟩
abbrev zc_F_last : ByteArray := prog_1_method_7_code
def zy_F_last : MethodName := ⟨"CronFinder", "last", "(J)J"⟩
abbrev zc_F_fireNotBehind : ByteArray := prog_1_method_14_code
def zy_F_fireNotBehind : MethodName := ⟨"CronFinder", "fireNotBehind", "(J)J"⟩
abbrev zc_F_firingDayBackFrom : ByteArray := prog_1_method_17_code
def zy_F_firingDayBackFrom : MethodName := ⟨"CronFinder", "firingDayBackFrom", "(I)I"⟩
abbrev zc_P_secondBackFrom : ByteArray := prog_6_method_7_code
def zy_P_secondBackFrom : MethodName := ⟨"CronFinder$Plan", "secondBackFrom", "(I)I"⟩
abbrev zc_O_backFrom : ByteArray := prog_8_method_9_code
def zy_O_backFrom : MethodName := ⟨"CronFinder$Row", "backFrom", "(I)I"⟩
abbrev zc_L_later : ByteArray := method_9_code
def zy_L_later : MethodName := ⟨"CronFinderLaw", "later", "(LCronFinder;JI[J)I"⟩
abbrev zc_F_later : ByteArray := prog_1_method_8_code
def zy_F_later : MethodName := ⟨"CronFinder", "later", "(JI)J"⟩
abbrev zc_L_is : ByteArray := method_10_code
def zy_L_is : MethodName := ⟨"CronFinderLaw", "is", "(LCronFinder;J[J)I"⟩
abbrev zc_F_is : ByteArray := prog_1_method_9_code
def zy_F_is : MethodName := ⟨"CronFinder", "is", "(J)Z"⟩
abbrev zc_P_firesOn : ByteArray := prog_6_method_9_code
def zy_P_firesOn : MethodName := ⟨"CronFinder$Plan", "firesOn", "(I)Z"⟩
abbrev zc_Q_init : ByteArray := prog_10_method_1_code
def zy_Q_init : MethodName := ⟨"CronFinderModel", "<init>", "()V"⟩
abbrev zc_Q_thrown : ByteArray := prog_10_method_2_code
def zy_Q_thrown : MethodName := ⟨"CronFinderModel", "thrown", "()I"⟩
abbrev zc_Q_cron : ByteArray := prog_10_method_25_code
def zy_Q_cron : MethodName := ⟨"CronFinderModel", "cron", "()V"⟩
abbrev zc_Q_readCron : ByteArray := prog_10_method_20_code
def zy_Q_readCron : MethodName := ⟨"CronFinderModel", "readCron", "(I)V"⟩
abbrev zc_Q_blanks : ByteArray := prog_10_method_13_code
def zy_Q_blanks : MethodName := ⟨"CronFinderModel", "blanks", "()V"⟩
abbrev zc_Q_peek : ByteArray := prog_10_method_10_code
def zy_Q_peek : MethodName := ⟨"CronFinderModel", "peek", "()I"⟩
abbrev zc_Q_bad : ByteArray := prog_10_method_9_code
def zy_Q_bad : MethodName := ⟨"CronFinderModel", "bad", "(I)V"⟩
abbrev zc_JV_init_ : ByteArray := prog_23_method_1_code
def zy_JV_init_ : MethodName := ⟨"java/lang/UnsupportedOperationException", "<init>", "()V"⟩
abbrev zc_JR_init_ : ByteArray := prog_17_method_1_code
def zy_JR_init_ : MethodName := ⟨"java/lang/RuntimeException", "<init>", "()V"⟩
abbrev zc_JX_init_ : ByteArray := prog_12_method_1_code
def zy_JX_init_ : MethodName := ⟨"java/lang/Exception", "<init>", "()V"⟩
abbrev zc_Q_field : ByteArray := prog_10_method_19_code
def zy_Q_field : MethodName := ⟨"CronFinderModel", "field", "(I)V"⟩
abbrev zc_Q_ranged : ByteArray := prog_10_method_14_code
def zy_Q_ranged : MethodName := ⟨"CronFinderModel", "ranged", "(II)I"⟩
abbrev zc_Q_digit : ByteArray := prog_10_method_11_code
def zy_Q_digit : MethodName := ⟨"CronFinderModel", "digit", "(I)Z"⟩
abbrev zc_Q_items : ByteArray := prog_10_method_17_code
def zy_Q_items : MethodName := ⟨"CronFinderModel", "items", "(I)V"⟩
abbrev zc_Q_value : ByteArray := prog_10_method_16_code
def zy_Q_value : MethodName := ⟨"CronFinderModel", "value", "(I)I"⟩
abbrev zc_Q_letter : ByteArray := prog_10_method_15_code
def zy_Q_letter : MethodName := ⟨"CronFinderModel", "letter", "(I)Z"⟩
abbrev zc_Q_special2 : ByteArray := prog_10_method_18_code
def zy_Q_special2 : MethodName := ⟨"CronFinderModel", "special", "(II)Z"⟩
abbrev zc_Q_holiday : ByteArray := prog_10_method_26_code
def zy_Q_holiday : MethodName := ⟨"CronFinderModel", "holiday", "(IZ)I"⟩
abbrev zc_Q_fail : ByteArray := prog_10_method_3_code
def zy_Q_fail : MethodName := ⟨"CronFinderModel", "fail", "(I)I"⟩
abbrev zc_Q_next : ByteArray := prog_10_method_30_code
def zy_Q_next : MethodName := ⟨"CronFinderModel", "next", "(J)J"⟩
abbrev zc_Q_out : ByteArray := prog_10_method_29_code
def zy_Q_out : MethodName := ⟨"CronFinderModel", "out", "(J)Z"⟩
abbrev zc_Q_after : ByteArray := prog_10_method_27_code
def zy_Q_after : MethodName := ⟨"CronFinderModel", "after", "(J)J"⟩
abbrev zc_Q_dayFits : ByteArray := prog_10_method_22_code
def zy_Q_dayFits : MethodName := ⟨"CronFinderModel", "dayFits", "(II)Z"⟩
abbrev zc_Q_date : ByteArray := prog_10_method_7_code
def zy_Q_date : MethodName := ⟨"CronFinderModel", "date", "(I)V"⟩
abbrev zc_JM_floorDiv : ByteArray := prog_16_method_47_code
def zy_JM_floorDiv : MethodName := ⟨"java/lang/Math", "floorDiv", "(II)I"⟩
abbrev zc_Q_number : ByteArray := prog_10_method_6_code
def zy_Q_number : MethodName := ⟨"CronFinderModel", "number", "(II)I"⟩
abbrev zc_Q_length : ByteArray := prog_10_method_5_code
def zy_Q_length : MethodName := ⟨"CronFinderModel", "length", "(II)I"⟩
abbrev zc_Q_leap : ByteArray := prog_10_method_4_code
def zy_Q_leap : MethodName := ⟨"CronFinderModel", "leap", "(I)Z"⟩
abbrev zc_Q_special1 : ByteArray := prog_10_method_21_code
def zy_Q_special1 : MethodName := ⟨"CronFinderModel", "special", "(I)I"⟩
abbrev zc_Q_weekday : ByteArray := prog_10_method_8_code
def zy_Q_weekday : MethodName := ⟨"CronFinderModel", "weekday", "(I)I"⟩
abbrev zc_Q_secondFrom : ByteArray := prog_10_method_23_code
def zy_Q_secondFrom : MethodName := ⟨"CronFinderModel", "secondFrom", "(II)I"⟩
abbrev zc_Q_last : ByteArray := prog_10_method_31_code
def zy_Q_last : MethodName := ⟨"CronFinderModel", "last", "(J)J"⟩
abbrev zc_Q_upTo : ByteArray := prog_10_method_28_code
def zy_Q_upTo : MethodName := ⟨"CronFinderModel", "upTo", "(J)J"⟩
abbrev zc_Q_secondTo : ByteArray := prog_10_method_24_code
def zy_Q_secondTo : MethodName := ⟨"CronFinderModel", "secondTo", "(II)I"⟩
abbrev zc_Q_later : ByteArray := prog_10_method_32_code
def zy_Q_later : MethodName := ⟨"CronFinderModel", "later", "(JI)J"⟩
abbrev zc_Q_is : ByteArray := prog_10_method_33_code
def zy_Q_is : MethodName := ⟨"CronFinderModel", "is", "(J)Z"⟩
abbrev zc_Q_place : ByteArray := prog_10_method_34_code
def zy_Q_place : MethodName := ⟨"CronFinderModel", "place", "()I"⟩
abbrev zc_Q_feed : ByteArray := prog_10_method_35_code
def zy_Q_feed : MethodName := ⟨"CronFinderModel", "feed", "(IIIII)I"⟩
abbrev zc_Q_end : ByteArray := prog_10_method_36_code
def zy_Q_end : MethodName := ⟨"CronFinderModel", "end", "(I)I"⟩
abbrev zc_L_law : ByteArray := code
def zy_L_law : MethodName := ⟨"CronFinderLaw", "law", "([I)Z"⟩
theorem zw_0_0 : Cond.selects "java/lang/Throwable" ⟨"java/lang/Throwable", "fillInStackTrace", "(I)Ljava/lang/Throwable;"⟩ ⟨"java/lang/Throwable", "fillInStackTrace", "(I)Ljava/lang/Throwable;"⟩ ∈ zW := zW_0 (i := 0) (by decide +kernel) (by decide +kernel)
theorem zw_0_1 : Cond.selects "CronFinder" zy_F_putBytes zy_F_putBytes ∈ zW := zW_0 (i := 1) (by decide +kernel) (by decide +kernel)
theorem zw_0_2 : Cond.selects "CronFinder$Reader" zy_R_readBlanks zy_R_readBlanks ∈ zW := zW_0 (i := 2) (by decide +kernel) (by decide +kernel)
theorem zw_0_3 : Cond.selects "CronFinder$Reader" zy_R_readDay zy_R_readDay ∈ zW := zW_0 (i := 3) (by decide +kernel) (by decide +kernel)
theorem zw_0_4 : Cond.selects "CronFinder$Reader" zy_R_accept zy_R_accept ∈ zW := zW_0 (i := 4) (by decide +kernel) (by decide +kernel)
theorem zw_0_5 : Cond.selects "CronFinder$Reader" zy_R_sees zy_R_sees ∈ zW := zW_0 (i := 5) (by decide +kernel) (by decide +kernel)
theorem zw_0_6 : Cond.selects "CronFinder$Reader" zy_R_readLastDay zy_R_readLastDay ∈ zW := zW_0 (i := 6) (by decide +kernel) (by decide +kernel)
theorem zw_0_7 : Cond.selects "CronFinder$Reader" zy_R_readNumber zy_R_readNumber ∈ zW := zW_0 (i := 7) (by decide +kernel) (by decide +kernel)
theorem zw_0_8 : Cond.selects "CronFinder$Reader" zy_R_readValue zy_R_readValue ∈ zW := zW_0 (i := 8) (by decide +kernel) (by decide +kernel)
theorem zw_0_9 : Cond.selects "CronFinder$Reader" zy_R_readName zy_R_readName ∈ zW := zW_0 (i := 9) (by decide +kernel) (by decide +kernel)
theorem zw_0_10 : Cond.selects "CronFinder$Reader" zy_R_readItems zy_R_readItems ∈ zW := zW_0 (i := 10) (by decide +kernel) (by decide +kernel)
theorem zw_0_11 : Cond.selects "CronFinder$Reader" zy_R_readItem zy_R_readItem ∈ zW := zW_0 (i := 11) (by decide +kernel) (by decide +kernel)
theorem zw_0_12 : Cond.selects "CronFinder$Reader" zy_R_readWeekday zy_R_readWeekday ∈ zW := zW_0 (i := 12) (by decide +kernel) (by decide +kernel)
theorem zw_0_13 : Cond.selects "CronFinder$Reader" zy_R_readOrdinal zy_R_readOrdinal ∈ zW := zW_0 (i := 13) (by decide +kernel) (by decide +kernel)
theorem zw_0_14 : Cond.selects "CronFinder$DaySet" zy_S_indexOf zy_S_indexOf ∈ zW := zW_0 (i := 14) (by decide +kernel) (by decide +kernel)
theorem zw_0_15 : Cond.selects "CronFinder" zy_F_checkTime zy_F_checkTime ∈ zW := zW_0 (i := 15) (by decide +kernel) (by decide +kernel)
theorem zw_0_16 : Cond.selects "CronFinder" zy_F_fireBehind zy_F_fireBehind ∈ zW := zW_0 (i := 16) (by decide +kernel) (by decide +kernel)
theorem zw_0_17 : Cond.selects "CronFinder" zy_F_firingDayFrom zy_F_firingDayFrom ∈ zW := zW_0 (i := 17) (by decide +kernel) (by decide +kernel)
theorem zw_0_18 : Cond.selects "CronFinder$Plan" zy_P_dayBit zy_P_dayBit ∈ zW := zW_0 (i := 18) (by decide +kernel) (by decide +kernel)
theorem zw_0_19 : Cond.selects "CronFinder$Plan" zy_P_nearestWorkday zy_P_nearestWorkday ∈ zW := zW_0 (i := 19) (by decide +kernel) (by decide +kernel)
theorem zw_0_20 : Cond.selects "CronFinder$Plan" zy_P_weekdayIn zy_P_weekdayIn ∈ zW := zW_0 (i := 20) (by decide +kernel) (by decide +kernel)
theorem zw_0_21 : Cond.selects "CronFinder$Plan" zy_P_listedWeekdays zy_P_listedWeekdays ∈ zW := zW_0 (i := 21) (by decide +kernel) (by decide +kernel)
theorem zw_0_22 : Cond.selects "CronFinder$Plan" zy_P_lastSubject zy_P_lastSubject ∈ zW := zW_0 (i := 22) (by decide +kernel) (by decide +kernel)
theorem zw_0_23 : Cond.selects "CronFinder$Plan" zy_P_firstSubject zy_P_firstSubject ∈ zW := zW_0 (i := 23) (by decide +kernel) (by decide +kernel)
theorem zw_0_24 : Cond.selects "CronFinder$Plan" zy_P_secondOf zy_P_secondOf ∈ zW := zW_0 (i := 24) (by decide +kernel) (by decide +kernel)
theorem zw_0_25 : Cond.selects "CronFinder" zy_F_timeOf zy_F_timeOf ∈ zW := zW_0 (i := 25) (by decide +kernel) (by decide +kernel)
theorem zw_0_26 : Cond.selects "CronFinder" zy_F_fireNotBehind zy_F_fireNotBehind ∈ zW := zW_0 (i := 26) (by decide +kernel) (by decide +kernel)
theorem zw_0_27 : Cond.selects "CronFinder" zy_F_firingDayBackFrom zy_F_firingDayBackFrom ∈ zW := zW_0 (i := 27) (by decide +kernel) (by decide +kernel)
theorem zw_0_28 : Cond.selects "CronFinderModel" zy_Q_readCron zy_Q_readCron ∈ zW := zW_0 (i := 28) (by decide +kernel) (by decide +kernel)
theorem zw_0_29 : Cond.selects "CronFinderModel" zy_Q_blanks zy_Q_blanks ∈ zW := zW_0 (i := 29) (by decide +kernel) (by decide +kernel)
theorem zw_0_30 : Cond.selects "CronFinderModel" zy_Q_peek zy_Q_peek ∈ zW := zW_0 (i := 30) (by decide +kernel) (by decide +kernel)
theorem zw_0_31 : Cond.selects "CronFinderModel" zy_Q_bad zy_Q_bad ∈ zW := zW_0 (i := 31) (by decide +kernel) (by decide +kernel)
theorem zw_0_32 : Cond.selects "CronFinderModel" zy_Q_field zy_Q_field ∈ zW := zW_0 (i := 32) (by decide +kernel) (by decide +kernel)
theorem zw_0_33 : Cond.selects "CronFinderModel" zy_Q_ranged zy_Q_ranged ∈ zW := zW_0 (i := 33) (by decide +kernel) (by decide +kernel)
theorem zw_0_34 : Cond.selects "CronFinderModel" zy_Q_items zy_Q_items ∈ zW := zW_0 (i := 34) (by decide +kernel) (by decide +kernel)
theorem zw_0_35 : Cond.selects "CronFinderModel" zy_Q_value zy_Q_value ∈ zW := zW_0 (i := 35) (by decide +kernel) (by decide +kernel)
theorem zw_0_36 : Cond.selects "CronFinderModel" zy_Q_special2 zy_Q_special2 ∈ zW := zW_0 (i := 36) (by decide +kernel) (by decide +kernel)
theorem zw_0_37 : Cond.selects "CronFinderModel" zy_Q_fail zy_Q_fail ∈ zW := zW_0 (i := 37) (by decide +kernel) (by decide +kernel)
theorem zw_0_38 : Cond.selects "CronFinderModel" zy_Q_out zy_Q_out ∈ zW := zW_0 (i := 38) (by decide +kernel) (by decide +kernel)
theorem zw_0_39 : Cond.selects "CronFinderModel" zy_Q_after zy_Q_after ∈ zW := zW_0 (i := 39) (by decide +kernel) (by decide +kernel)
theorem zw_0_40 : Cond.selects "CronFinderModel" zy_Q_dayFits zy_Q_dayFits ∈ zW := zW_0 (i := 40) (by decide +kernel) (by decide +kernel)
theorem zw_0_41 : Cond.selects "CronFinderModel" zy_Q_date zy_Q_date ∈ zW := zW_0 (i := 41) (by decide +kernel) (by decide +kernel)
theorem zw_0_42 : Cond.selects "CronFinderModel" zy_Q_special1 zy_Q_special1 ∈ zW := zW_0 (i := 42) (by decide +kernel) (by decide +kernel)
theorem zw_0_43 : Cond.selects "CronFinderModel" zy_Q_secondFrom zy_Q_secondFrom ∈ zW := zW_0 (i := 43) (by decide +kernel) (by decide +kernel)
theorem zw_0_44 : Cond.selects "CronFinderModel" zy_Q_upTo zy_Q_upTo ∈ zW := zW_0 (i := 44) (by decide +kernel) (by decide +kernel)
theorem zw_0_45 : Cond.selects "CronFinderModel" zy_Q_secondTo zy_Q_secondTo ∈ zW := zW_0 (i := 45) (by decide +kernel) (by decide +kernel)
theorem zw_1_0 : Cond.initialized "CronFinderLaw" ∈ zW := zW_1 (i := 0) (by decide +kernel) (by decide +kernel)
theorem zw_1_1 : Cond.initialized "CronFinder" ∈ zW := zW_1 (i := 1) (by decide +kernel) (by decide +kernel)
theorem zw_1_2 : Cond.initialized "CronFinder$Plan" ∈ zW := zW_1 (i := 2) (by decide +kernel) (by decide +kernel)
theorem zw_1_3 : Cond.initialized "CronFinder$Row" ∈ zW := zW_1 (i := 3) (by decide +kernel) (by decide +kernel)
theorem zw_1_4 : Cond.initialized "java/lang/Enum" ∈ zW := zW_1 (i := 4) (by decide +kernel) (by decide +kernel)
theorem zw_1_5 : Cond.initialized "CronFinder$DayRule" ∈ zW := zW_1 (i := 5) (by decide +kernel) (by decide +kernel)
theorem zw_1_6 : Cond.initialized "CronFinder$DaySet" ∈ zW := zW_1 (i := 6) (by decide +kernel) (by decide +kernel)
theorem zw_1_7 : Cond.initialized "CronFinderModel" ∈ zW := zW_1 (i := 7) (by decide +kernel) (by decide +kernel)
theorem zw_1_8 : Cond.initialized "java/lang/Throwable" ∈ zW := zW_1 (i := 8) (by decide +kernel) (by decide +kernel)
theorem zw_1_9 : Cond.initialized "java/lang/Exception" ∈ zW := zW_1 (i := 9) (by decide +kernel) (by decide +kernel)
theorem zw_1_10 : Cond.initialized "java/lang/RuntimeException" ∈ zW := zW_1 (i := 10) (by decide +kernel) (by decide +kernel)
theorem zw_1_11 : Cond.initialized "java/lang/IndexOutOfBoundsException" ∈ zW := zW_1 (i := 11) (by decide +kernel) (by decide +kernel)
theorem zw_1_12 : Cond.initialized "java/lang/IllegalArgumentException" ∈ zW := zW_1 (i := 12) (by decide +kernel) (by decide +kernel)
theorem zw_1_13 : Cond.initialized "CronFinder$Reader" ∈ zW := zW_1 (i := 13) (by decide +kernel) (by decide +kernel)
theorem zw_1_14 : Cond.initialized "java/lang/Math" ∈ zW := zW_1 (i := 14) (by decide +kernel) (by decide +kernel)
theorem zw_1_15 : Cond.initialized "java/lang/String" ∈ zW := zW_1 (i := 15) (by decide +kernel) (by decide +kernel)
theorem zw_1_16 : Cond.initialized "java/lang/StringLatin1" ∈ zW := zW_1 (i := 16) (by decide +kernel) (by decide +kernel)
theorem zw_1_17 : Cond.initialized "jdk/internal/util/Preconditions" ∈ zW := zW_1 (i := 17) (by decide +kernel) (by decide +kernel)
theorem zw_1_18 : Cond.initialized "java/lang/StringUTF16" ∈ zW := zW_1 (i := 18) (by decide +kernel) (by decide +kernel)
theorem zw_1_19 : Cond.initialized "java/lang/UnsupportedOperationException" ∈ zW := zW_1 (i := 19) (by decide +kernel) (by decide +kernel)
theorem zw_1_20 : Cond.initialized "java/lang/Integer" ∈ zW := zW_1 (i := 20) (by decide +kernel) (by decide +kernel)
theorem zw_1_21 : Cond.initialized "java/lang/System" ∈ zW := zW_1 (i := 21) (by decide +kernel) (by decide +kernel)
theorem zw_1_22 : Cond.initialized "CronFinder$Dates" ∈ zW := zW_1 (i := 22) (by decide +kernel) (by decide +kernel)
theorem zw_1_23 : Cond.initialized "CronFinder$1" ∈ zW := zW_1 (i := 23) (by decide +kernel) (by decide +kernel)
theorem zw_1_24 : Cond.classLink "CronFinderLaw" 8 "CronFinder" ∈ zW := zW_1 (i := 24) (by decide +kernel) (by decide +kernel)
theorem zw_1_25 : Cond.instantiable "CronFinder" 6 ∈ zW := zW_1 (i := 25) (by decide +kernel) (by decide +kernel)
theorem zw_1_26 : Cond.methodLink "CronFinderLaw" 45 zy_F_init ∈ zW := zW_1 (i := 26) (by decide +kernel) (by decide +kernel)
theorem zw_1_27 : Cond.instanceMethod zy_F_init ∈ zW := zW_1 (i := 27) (by decide +kernel) (by decide +kernel)
theorem zw_1_28 : Cond.code zy_F_init prog_1_method_1_code 1 none ∈ zW := zW_1 (i := 28) (by decide +kernel) (by decide +kernel)
theorem zw_1_29 : Cond.methodLink "CronFinder" 1 objectInit ∈ zW := zW_1 (i := 29) (by decide +kernel) (by decide +kernel)
theorem zw_1_30 : Cond.instanceMethod objectInit ∈ zW := zW_1 (i := 30) (by decide +kernel) (by decide +kernel)
theorem zw_1_31 : Cond.code objectInit object_method_1_code 1 none ∈ zW := zW_1 (i := 31) (by decide +kernel) (by decide +kernel)
theorem zw_1_32 : Cond.classLink "CronFinder" 17 "CronFinder$Plan" ∈ zW := zW_1 (i := 32) (by decide +kernel) (by decide +kernel)
theorem zw_1_33 : Cond.instantiable "CronFinder$Plan" 11 ∈ zW := zW_1 (i := 33) (by decide +kernel) (by decide +kernel)
theorem zw_1_34 : Cond.methodLink "CronFinder" 19 zy_P_init ∈ zW := zW_1 (i := 34) (by decide +kernel) (by decide +kernel)
theorem zw_1_35 : Cond.instanceMethod zy_P_init ∈ zW := zW_1 (i := 35) (by decide +kernel) (by decide +kernel)
theorem zw_1_36 : Cond.code zy_P_init prog_6_method_1_code 1 none ∈ zW := zW_1 (i := 36) (by decide +kernel) (by decide +kernel)
theorem zw_1_37 : Cond.methodLink "CronFinder$Plan" 3 objectInit ∈ zW := zW_1 (i := 37) (by decide +kernel) (by decide +kernel)
theorem zw_1_38 : Cond.classLink "CronFinder$Plan" 9 "CronFinder$Row" ∈ zW := zW_1 (i := 38) (by decide +kernel) (by decide +kernel)
theorem zw_1_39 : Cond.instantiable "CronFinder$Row" 3 ∈ zW := zW_1 (i := 39) (by decide +kernel) (by decide +kernel)
theorem zw_1_40 : Cond.methodLink "CronFinder$Plan" 11 zy_O_init ∈ zW := zW_1 (i := 40) (by decide +kernel) (by decide +kernel)
theorem zw_1_41 : Cond.instanceMethod zy_O_init ∈ zW := zW_1 (i := 41) (by decide +kernel) (by decide +kernel)
theorem zw_1_42 : Cond.code zy_O_init prog_8_method_1_code 3 none ∈ zW := zW_1 (i := 42) (by decide +kernel) (by decide +kernel)
theorem zw_1_43 : Cond.methodLink "CronFinder$Row" 3 objectInit ∈ zW := zW_1 (i := 43) (by decide +kernel) (by decide +kernel)
theorem zw_1_44 : Cond.fieldLink "CronFinder$Row" 9 "CronFinder$Row" "first" "I" ∈ zW := zW_1 (i := 44) (by decide +kernel) (by decide +kernel)
theorem zw_1_45 : Cond.fieldLink "CronFinder$Row" 15 "CronFinder$Row" "highest" "I" ∈ zW := zW_1 (i := 45) (by decide +kernel) (by decide +kernel)
theorem zw_1_46 : Cond.fieldLink "CronFinder$Row" 18 "CronFinder$Row" "allowed" "[Z" ∈ zW := zW_1 (i := 46) (by decide +kernel) (by decide +kernel)
theorem zw_1_47 : Cond.laysFinal "CronFinder$Row" "CronFinder$Row" "first" "I" ∈ zW := zW_1 (i := 47) (by decide +kernel) (by decide +kernel)
theorem zw_1_49 : Cond.laysFinal "CronFinder$Row" "CronFinder$Row" "highest" "I" ∈ zW := zW_1 (i := 49) (by decide +kernel) (by decide +kernel)
theorem zw_1_51 : Cond.laysFinal "CronFinder$Row" "CronFinder$Row" "allowed" "[Z" ∈ zW := zW_1 (i := 51) (by decide +kernel) (by decide +kernel)
theorem zw_1_53 : Cond.superclass "CronFinder$Row" "java/lang/Object" ∈ zW := zW_1 (i := 53) (by decide +kernel) (by decide +kernel)
theorem zw_1_54 : Cond.arrayClass .char ∈ zW := zW_1 (i := 54) (by decide +kernel) (by decide +kernel)
theorem zw_1_55 : Cond.arrayClass .boolean ∈ zW := zW_1 (i := 55) (by decide +kernel) (by decide +kernel)
theorem zw_1_56 : Cond.fieldLink "CronFinder$Plan" 40 "CronFinder$DayRule" "LISTED_DAYS" "LCronFinder$DayRule;" ∈ zW := zW_1 (i := 56) (by decide +kernel) (by decide +kernel)
theorem zw_1_58 : Cond.fieldLink "CronFinder$Plan" 14 "CronFinder$Plan" "seconds" "LCronFinder$Row;" ∈ zW := zW_1 (i := 58) (by decide +kernel) (by decide +kernel)
theorem zw_1_59 : Cond.fieldLink "CronFinder$Plan" 20 "CronFinder$Plan" "minutes" "LCronFinder$Row;" ∈ zW := zW_1 (i := 59) (by decide +kernel) (by decide +kernel)
theorem zw_1_60 : Cond.fieldLink "CronFinder$Plan" 23 "CronFinder$Plan" "hours" "LCronFinder$Row;" ∈ zW := zW_1 (i := 60) (by decide +kernel) (by decide +kernel)
theorem zw_1_61 : Cond.fieldLink "CronFinder$Plan" 26 "CronFinder$Plan" "days" "LCronFinder$Row;" ∈ zW := zW_1 (i := 61) (by decide +kernel) (by decide +kernel)
theorem zw_1_62 : Cond.fieldLink "CronFinder$Plan" 29 "CronFinder$Plan" "months" "LCronFinder$Row;" ∈ zW := zW_1 (i := 62) (by decide +kernel) (by decide +kernel)
theorem zw_1_63 : Cond.fieldLink "CronFinder$Plan" 32 "CronFinder$Plan" "weekdays" "LCronFinder$Row;" ∈ zW := zW_1 (i := 63) (by decide +kernel) (by decide +kernel)
theorem zw_1_64 : Cond.fieldLink "CronFinder$Plan" 37 "CronFinder$Plan" "years" "LCronFinder$Row;" ∈ zW := zW_1 (i := 64) (by decide +kernel) (by decide +kernel)
theorem zw_1_65 : Cond.fieldLink "CronFinder$Plan" 46 "CronFinder$Plan" "rule" "LCronFinder$DayRule;" ∈ zW := zW_1 (i := 65) (by decide +kernel) (by decide +kernel)
theorem zw_1_66 : Cond.fieldLink "CronFinder$Plan" 49 "CronFinder$Plan" "subject" "I" ∈ zW := zW_1 (i := 66) (by decide +kernel) (by decide +kernel)
theorem zw_1_67 : Cond.fieldLink "CronFinder$Plan" 53 "CronFinder$Plan" "ordinal" "I" ∈ zW := zW_1 (i := 67) (by decide +kernel) (by decide +kernel)
theorem zw_1_68 : Cond.fieldLink "CronFinder$Plan" 56 "CronFinder$Plan" "dayBits" "I" ∈ zW := zW_1 (i := 68) (by decide +kernel) (by decide +kernel)
theorem zw_1_69 : Cond.laysFinal "CronFinder$Plan" "CronFinder$Plan" "seconds" "LCronFinder$Row;" ∈ zW := zW_1 (i := 69) (by decide +kernel) (by decide +kernel)
theorem zw_1_71 : Cond.laysFinal "CronFinder$Plan" "CronFinder$Plan" "minutes" "LCronFinder$Row;" ∈ zW := zW_1 (i := 71) (by decide +kernel) (by decide +kernel)
theorem zw_1_73 : Cond.laysFinal "CronFinder$Plan" "CronFinder$Plan" "hours" "LCronFinder$Row;" ∈ zW := zW_1 (i := 73) (by decide +kernel) (by decide +kernel)
theorem zw_1_75 : Cond.laysFinal "CronFinder$Plan" "CronFinder$Plan" "days" "LCronFinder$Row;" ∈ zW := zW_1 (i := 75) (by decide +kernel) (by decide +kernel)
theorem zw_1_77 : Cond.laysFinal "CronFinder$Plan" "CronFinder$Plan" "months" "LCronFinder$Row;" ∈ zW := zW_1 (i := 77) (by decide +kernel) (by decide +kernel)
theorem zw_1_79 : Cond.laysFinal "CronFinder$Plan" "CronFinder$Plan" "weekdays" "LCronFinder$Row;" ∈ zW := zW_1 (i := 79) (by decide +kernel) (by decide +kernel)
theorem zw_1_81 : Cond.laysFinal "CronFinder$Plan" "CronFinder$Plan" "years" "LCronFinder$Row;" ∈ zW := zW_1 (i := 81) (by decide +kernel) (by decide +kernel)
theorem zw_1_83 : Cond.lays "CronFinder$Plan" "CronFinder$Plan" "rule" "LCronFinder$DayRule;" ∈ zW := zW_1 (i := 83) (by decide +kernel) (by decide +kernel)
theorem zw_1_85 : Cond.lays "CronFinder$Plan" "CronFinder$Plan" "subject" "I" ∈ zW := zW_1 (i := 85) (by decide +kernel) (by decide +kernel)
theorem zw_1_87 : Cond.lays "CronFinder$Plan" "CronFinder$Plan" "ordinal" "I" ∈ zW := zW_1 (i := 87) (by decide +kernel) (by decide +kernel)
theorem zw_1_89 : Cond.lays "CronFinder$Plan" "CronFinder$Plan" "dayBits" "I" ∈ zW := zW_1 (i := 89) (by decide +kernel) (by decide +kernel)
theorem zw_1_91 : Cond.superclass "CronFinder$Plan" "java/lang/Object" ∈ zW := zW_1 (i := 91) (by decide +kernel) (by decide +kernel)
theorem zw_1_92 : Cond.classLink "CronFinder" 30 "CronFinder$DaySet" ∈ zW := zW_1 (i := 92) (by decide +kernel) (by decide +kernel)
theorem zw_1_93 : Cond.instantiable "CronFinder$DaySet" 2 ∈ zW := zW_1 (i := 93) (by decide +kernel) (by decide +kernel)
theorem zw_1_94 : Cond.methodLink "CronFinder" 32 zy_S_init ∈ zW := zW_1 (i := 94) (by decide +kernel) (by decide +kernel)
theorem zw_1_95 : Cond.instanceMethod zy_S_init ∈ zW := zW_1 (i := 95) (by decide +kernel) (by decide +kernel)
theorem zw_1_96 : Cond.code zy_S_init prog_5_method_1_code 2 none ∈ zW := zW_1 (i := 96) (by decide +kernel) (by decide +kernel)
theorem zw_1_97 : Cond.methodLink "CronFinder$DaySet" 1 objectInit ∈ zW := zW_1 (i := 97) (by decide +kernel) (by decide +kernel)
theorem zw_1_98 : Cond.fieldLink "CronFinder$DaySet" 7 "CronFinder$DaySet" "days" "[I" ∈ zW := zW_1 (i := 98) (by decide +kernel) (by decide +kernel)
theorem zw_1_99 : Cond.fieldLink "CronFinder$DaySet" 13 "CronFinder$DaySet" "count" "I" ∈ zW := zW_1 (i := 99) (by decide +kernel) (by decide +kernel)
theorem zw_1_100 : Cond.laysFinal "CronFinder$DaySet" "CronFinder$DaySet" "days" "[I" ∈ zW := zW_1 (i := 100) (by decide +kernel) (by decide +kernel)
theorem zw_1_102 : Cond.lays "CronFinder$DaySet" "CronFinder$DaySet" "count" "I" ∈ zW := zW_1 (i := 102) (by decide +kernel) (by decide +kernel)
theorem zw_1_104 : Cond.superclass "CronFinder$DaySet" "java/lang/Object" ∈ zW := zW_1 (i := 104) (by decide +kernel) (by decide +kernel)
theorem zw_1_105 : Cond.arrayClass .int ∈ zW := zW_1 (i := 105) (by decide +kernel) (by decide +kernel)
theorem zw_1_106 : Cond.fieldLink "CronFinder" 9 "CronFinder" "tape" "[C" ∈ zW := zW_1 (i := 106) (by decide +kernel) (by decide +kernel)
theorem zw_1_107 : Cond.fieldLink "CronFinder" 13 "CronFinder" "tapeLength" "I" ∈ zW := zW_1 (i := 107) (by decide +kernel) (by decide +kernel)
theorem zw_1_108 : Cond.fieldLink "CronFinder" 20 "CronFinder" "plan" "LCronFinder$Plan;" ∈ zW := zW_1 (i := 108) (by decide +kernel) (by decide +kernel)
theorem zw_1_109 : Cond.fieldLink "CronFinder" 24 "CronFinder" "spare" "LCronFinder$Plan;" ∈ zW := zW_1 (i := 109) (by decide +kernel) (by decide +kernel)
theorem zw_1_110 : Cond.fieldLink "CronFinder" 27 "CronFinder" "brokenAt" "I" ∈ zW := zW_1 (i := 110) (by decide +kernel) (by decide +kernel)
theorem zw_1_111 : Cond.fieldLink "CronFinder" 35 "CronFinder" "holidays" "LCronFinder$DaySet;" ∈ zW := zW_1 (i := 111) (by decide +kernel) (by decide +kernel)
theorem zw_1_112 : Cond.laysFinal "CronFinder" "CronFinder" "tape" "[C" ∈ zW := zW_1 (i := 112) (by decide +kernel) (by decide +kernel)
theorem zw_1_114 : Cond.lays "CronFinder" "CronFinder" "tapeLength" "I" ∈ zW := zW_1 (i := 114) (by decide +kernel) (by decide +kernel)
theorem zw_1_116 : Cond.lays "CronFinder" "CronFinder" "plan" "LCronFinder$Plan;" ∈ zW := zW_1 (i := 116) (by decide +kernel) (by decide +kernel)
theorem zw_1_118 : Cond.lays "CronFinder" "CronFinder" "spare" "LCronFinder$Plan;" ∈ zW := zW_1 (i := 118) (by decide +kernel) (by decide +kernel)
theorem zw_1_120 : Cond.lays "CronFinder" "CronFinder" "brokenAt" "I" ∈ zW := zW_1 (i := 120) (by decide +kernel) (by decide +kernel)
theorem zw_1_122 : Cond.laysFinal "CronFinder" "CronFinder" "holidays" "LCronFinder$DaySet;" ∈ zW := zW_1 (i := 122) (by decide +kernel) (by decide +kernel)
theorem zw_1_124 : Cond.superclass "CronFinder" "java/lang/Object" ∈ zW := zW_1 (i := 124) (by decide +kernel) (by decide +kernel)
theorem zw_1_125 : Cond.methodLink "CronFinderLaw" 87 zy_F_place ∈ zW := zW_1 (i := 125) (by decide +kernel) (by decide +kernel)
theorem zw_1_126 : Cond.instanceMethod zy_F_place ∈ zW := zW_1 (i := 126) (by decide +kernel) (by decide +kernel)
theorem zw_1_127 : Cond.selects "CronFinder" zy_F_place zy_F_place ∈ zW := zW_1 (i := 127) (by decide +kernel) (by decide +kernel)
theorem zw_1_128 : Cond.code zy_F_place prog_1_method_10_code 1 (some .int) ∈ zW := zW_1 (i := 128) (by decide +kernel) (by decide +kernel)
theorem zw_1_129 : Cond.methodLink "CronFinderLaw" 49 zy_L_feed ∈ zW := zW_1 (i := 129) (by decide +kernel) (by decide +kernel)
theorem zw_1_130 : Cond.static zy_L_feed ∈ zW := zW_1 (i := 130) (by decide +kernel) (by decide +kernel)
theorem zw_1_131 : Cond.codeWith zy_L_feed method_3_code 8 (some .int) [(0, 16, 19, 13)] ∈ zW := zW_1 (i := 131) (by decide +kernel) (by decide +kernel)
theorem zw_1_132 : Cond.classLink "CronFinderLaw" 13 "java/lang/IndexOutOfBoundsException" ∈ zW := zW_1 (i := 132) (by decide +kernel) (by decide +kernel)
theorem zw_1_133 : Cond.methodLink "CronFinderLaw" 7 zy_F_feed ∈ zW := zW_1 (i := 133) (by decide +kernel) (by decide +kernel)
theorem zw_1_134 : Cond.instanceMethod zy_F_feed ∈ zW := zW_1 (i := 134) (by decide +kernel) (by decide +kernel)
theorem zw_1_135 : Cond.selects "CronFinder" zy_F_feed zy_F_feed ∈ zW := zW_1 (i := 135) (by decide +kernel) (by decide +kernel)
theorem zw_1_136 : Cond.code zy_F_feed prog_1_method_2_code 6 (some .int) ∈ zW := zW_1 (i := 136) (by decide +kernel) (by decide +kernel)
theorem zw_1_137 : Cond.classLink "CronFinder" 39 "java/lang/IndexOutOfBoundsException" ∈ zW := zW_1 (i := 137) (by decide +kernel) (by decide +kernel)
theorem zw_1_138 : Cond.instantiable "java/lang/IndexOutOfBoundsException" 6 ∈ zW := zW_1 (i := 138) (by decide +kernel) (by decide +kernel)
theorem zw_1_146 : Cond.selects "java/lang/IndexOutOfBoundsException" ⟨"java/lang/Throwable", "fillInStackTrace", "(I)Ljava/lang/Throwable;"⟩ ⟨"java/lang/Throwable", "fillInStackTrace", "(I)Ljava/lang/Throwable;"⟩ ∈ zW := zW_1 (i := 146) (by decide +kernel) (by decide +kernel)
theorem zw_1_147 : Cond.selects "java/lang/IndexOutOfBoundsException" ⟨"java/lang/Throwable", "fillInStackTrace", "()Ljava/lang/Throwable;"⟩ ⟨"java/lang/Throwable", "fillInStackTrace", "()Ljava/lang/Throwable;"⟩ ∈ zW := zW_1 (i := 147) (by decide +kernel) (by decide +kernel)
theorem zw_1_148 : Cond.lays "java/lang/IndexOutOfBoundsException" "java/lang/Throwable" "cause" "Ljava/lang/Throwable;" ∈ zW := zW_1 (i := 148) (by decide +kernel) (by decide +kernel)
theorem zw_1_149 : Cond.lays "java/lang/Throwable" "java/lang/Throwable" "cause" "Ljava/lang/Throwable;" ∈ zW := zW_1 (i := 149) (by decide +kernel) (by decide +kernel)
theorem zw_1_150 : Cond.lays "java/lang/IndexOutOfBoundsException" "java/lang/Throwable" "stackTrace" "[Ljava/lang/StackTraceElement;" ∈ zW := zW_1 (i := 150) (by decide +kernel) (by decide +kernel)
theorem zw_1_151 : Cond.lays "java/lang/Throwable" "java/lang/Throwable" "stackTrace" "[Ljava/lang/StackTraceElement;" ∈ zW := zW_1 (i := 151) (by decide +kernel) (by decide +kernel)
theorem zw_1_152 : Cond.lays "java/lang/IndexOutOfBoundsException" "java/lang/Throwable" "suppressedExceptions" "Ljava/util/List;" ∈ zW := zW_1 (i := 152) (by decide +kernel) (by decide +kernel)
theorem zw_1_153 : Cond.lays "java/lang/Throwable" "java/lang/Throwable" "suppressedExceptions" "Ljava/util/List;" ∈ zW := zW_1 (i := 153) (by decide +kernel) (by decide +kernel)
theorem zw_1_154 : Cond.lays "java/lang/IndexOutOfBoundsException" "java/lang/Throwable" "detailMessage" "Ljava/lang/String;" ∈ zW := zW_1 (i := 154) (by decide +kernel) (by decide +kernel)
theorem zw_1_155 : Cond.lays "java/lang/Throwable" "java/lang/Throwable" "detailMessage" "Ljava/lang/String;" ∈ zW := zW_1 (i := 155) (by decide +kernel) (by decide +kernel)
theorem zw_1_156 : Cond.lays "java/lang/IndexOutOfBoundsException" "java/lang/Throwable" "backtrace" "Ljava/lang/Object;" ∈ zW := zW_1 (i := 156) (by decide +kernel) (by decide +kernel)
theorem zw_1_157 : Cond.lays "java/lang/Throwable" "java/lang/Throwable" "backtrace" "Ljava/lang/Object;" ∈ zW := zW_1 (i := 157) (by decide +kernel) (by decide +kernel)
theorem zw_1_158 : Cond.fieldLink "java/lang/Throwable" 198 "java/lang/Throwable" "backtrace" "Ljava/lang/Object;" ∈ zW := zW_1 (i := 158) (by decide +kernel) (by decide +kernel)
theorem zw_1_159 : Cond.superclass "java/lang/Throwable" "java/lang/Object" ∈ zW := zW_1 (i := 159) (by decide +kernel) (by decide +kernel)
theorem zw_1_160 : Cond.instanceMethod zy_JT_init ∈ zW := zW_1 (i := 160) (by decide +kernel) (by decide +kernel)
theorem zw_1_161 : Cond.code zy_JT_init prog_22_method_1_code 1 none ∈ zW := zW_1 (i := 161) (by decide +kernel) (by decide +kernel)
theorem zw_1_162 : Cond.methodLink "java/lang/Throwable" 1 objectInit ∈ zW := zW_1 (i := 162) (by decide +kernel) (by decide +kernel)
theorem zw_1_163 : Cond.fieldLink "java/lang/Throwable" 13 "java/lang/Throwable" "UNASSIGNED_STACK" "[Ljava/lang/StackTraceElement;" ∈ zW := zW_1 (i := 163) (by decide +kernel) (by decide +kernel)
theorem zw_1_165 : Cond.fieldLink "java/lang/Throwable" 20 "java/lang/Throwable" "SUPPRESSED_SENTINEL" "Ljava/util/List;" ∈ zW := zW_1 (i := 165) (by decide +kernel) (by decide +kernel)
theorem zw_1_167 : Cond.methodLink "java/lang/Throwable" 27 ⟨"java/lang/Throwable", "fillInStackTrace", "()Ljava/lang/Throwable;"⟩ ∈ zW := zW_1 (i := 167) (by decide +kernel) (by decide +kernel)
theorem zw_1_168 : Cond.instanceMethod ⟨"java/lang/Throwable", "fillInStackTrace", "()Ljava/lang/Throwable;"⟩ ∈ zW := zW_1 (i := 168) (by decide +kernel) (by decide +kernel)
theorem zw_1_169 : Cond.sameMethod "java/lang/Throwable" "java/lang/Throwable" "fillInStackTrace" "()Ljava/lang/Throwable;" ∈ zW := zW_1 (i := 169) (by decide +kernel) (by decide +kernel)
theorem zw_1_170 : Cond.selects "java/lang/IllegalArgumentException" ⟨"java/lang/Throwable", "fillInStackTrace", "()Ljava/lang/Throwable;"⟩ ⟨"java/lang/Throwable", "fillInStackTrace", "()Ljava/lang/Throwable;"⟩ ∈ zW := zW_1 (i := 170) (by decide +kernel) (by decide +kernel)
theorem zw_1_171 : Cond.selects "java/lang/UnsupportedOperationException" ⟨"java/lang/Throwable", "fillInStackTrace", "()Ljava/lang/Throwable;"⟩ ⟨"java/lang/Throwable", "fillInStackTrace", "()Ljava/lang/Throwable;"⟩ ∈ zW := zW_1 (i := 171) (by decide +kernel) (by decide +kernel)
theorem zw_1_173 : Cond.methodLink "java/lang/Throwable" 202 ⟨"java/lang/Throwable", "fillInStackTrace", "(I)Ljava/lang/Throwable;"⟩ ∈ zW := zW_1 (i := 173) (by decide +kernel) (by decide +kernel)
theorem zw_1_175 : Cond.instanceMethod ⟨"java/lang/Throwable", "fillInStackTrace", "(I)Ljava/lang/Throwable;"⟩ ∈ zW := zW_1 (i := 175) (by decide +kernel) (by decide +kernel)
theorem zw_1_176 : Cond.instantiable "java/lang/Throwable" 6 ∈ zW := zW_1 (i := 176) (by decide +kernel) (by decide +kernel)
theorem zw_1_177 : Cond.native ⟨"java/lang/Throwable", "fillInStackTrace", "(I)Ljava/lang/Throwable;"⟩ ∈ zW := zW_1 (i := 177) (by decide +kernel) (by decide +kernel)
theorem zw_1_179 : Cond.methodLink "CronFinder" 43 zy_JB_init ∈ zW := zW_1 (i := 179) (by decide +kernel) (by decide +kernel)
theorem zw_1_180 : Cond.instanceMethod zy_JB_init ∈ zW := zW_1 (i := 180) (by decide +kernel) (by decide +kernel)
theorem zw_1_181 : Cond.code zy_JB_init prog_14_method_2_code 2 none ∈ zW := zW_1 (i := 181) (by decide +kernel) (by decide +kernel)
theorem zw_1_182 : Cond.methodLink "java/lang/IndexOutOfBoundsException" 7 zy_JR_init ∈ zW := zW_1 (i := 182) (by decide +kernel) (by decide +kernel)
theorem zw_1_183 : Cond.instanceMethod zy_JR_init ∈ zW := zW_1 (i := 183) (by decide +kernel) (by decide +kernel)
theorem zw_1_184 : Cond.code zy_JR_init prog_17_method_2_code 2 none ∈ zW := zW_1 (i := 184) (by decide +kernel) (by decide +kernel)
theorem zw_1_185 : Cond.methodLink "java/lang/RuntimeException" 7 zy_JX_init ∈ zW := zW_1 (i := 185) (by decide +kernel) (by decide +kernel)
theorem zw_1_186 : Cond.instanceMethod zy_JX_init ∈ zW := zW_1 (i := 186) (by decide +kernel) (by decide +kernel)
theorem zw_1_187 : Cond.code zy_JX_init prog_12_method_2_code 2 none ∈ zW := zW_1 (i := 187) (by decide +kernel) (by decide +kernel)
theorem zw_1_188 : Cond.methodLink "java/lang/Exception" 7 zy_JT_init_LjavalangString ∈ zW := zW_1 (i := 188) (by decide +kernel) (by decide +kernel)
theorem zw_1_189 : Cond.instanceMethod zy_JT_init_LjavalangString ∈ zW := zW_1 (i := 189) (by decide +kernel) (by decide +kernel)
theorem zw_1_190 : Cond.code zy_JT_init_LjavalangString prog_22_method_2_code 2 none ∈ zW := zW_1 (i := 190) (by decide +kernel) (by decide +kernel)
theorem zw_1_191 : Cond.fieldLink "java/lang/Throwable" 198 "java/lang/Throwable" "backtrace" "Ljava/lang/Object;" ∈ zW := zW_1 (i := 191) (by decide +kernel) (by decide +kernel)
theorem zw_1_192 : Cond.fieldLink "java/lang/Throwable" 31 "java/lang/Throwable" "detailMessage" "Ljava/lang/String;" ∈ zW := zW_1 (i := 192) (by decide +kernel) (by decide +kernel)
theorem zw_1_193 : Cond.fieldLink "java/lang/Throwable" 7 "java/lang/Throwable" "cause" "Ljava/lang/Throwable;" ∈ zW := zW_1 (i := 193) (by decide +kernel) (by decide +kernel)
theorem zw_1_194 : Cond.fieldLink "java/lang/Throwable" 17 "java/lang/Throwable" "stackTrace" "[Ljava/lang/StackTraceElement;" ∈ zW := zW_1 (i := 194) (by decide +kernel) (by decide +kernel)
theorem zw_1_195 : Cond.fieldLink "java/lang/Throwable" 24 "java/lang/Throwable" "suppressedExceptions" "Ljava/util/List;" ∈ zW := zW_1 (i := 195) (by decide +kernel) (by decide +kernel)
theorem zw_1_200 : Cond.lays "java/lang/IndexOutOfBoundsException" "java/lang/Throwable" "depth" "I" ∈ zW := zW_1 (i := 200) (by decide +kernel) (by decide +kernel)
theorem zw_1_203 : Cond.superclass "java/lang/IndexOutOfBoundsException" "java/lang/RuntimeException" ∈ zW := zW_1 (i := 203) (by decide +kernel) (by decide +kernel)
theorem zw_1_204 : Cond.arrayClass .byte ∈ zW := zW_1 (i := 204) (by decide +kernel) (by decide +kernel)
theorem zw_1_205 : Cond.methodLink "CronFinder" 46 zy_F_putBytes ∈ zW := zW_1 (i := 205) (by decide +kernel) (by decide +kernel)
theorem zw_1_207 : Cond.instanceMethod zy_F_putBytes ∈ zW := zW_1 (i := 207) (by decide +kernel) (by decide +kernel)
theorem zw_1_208 : Cond.code zy_F_putBytes prog_1_method_11_code 3 none ∈ zW := zW_1 (i := 208) (by decide +kernel) (by decide +kernel)
theorem zw_1_209 : Cond.methodLink "CronFinderLaw" 59 zy_L_end ∈ zW := zW_1 (i := 209) (by decide +kernel) (by decide +kernel)
theorem zw_1_210 : Cond.static zy_L_end ∈ zW := zW_1 (i := 210) (by decide +kernel) (by decide +kernel)
theorem zw_1_211 : Cond.codeWith zy_L_end method_4_code 4 (some .int) [(0, 9, 12, 19)] ∈ zW := zW_1 (i := 211) (by decide +kernel) (by decide +kernel)
theorem zw_1_212 : Cond.classLink "CronFinderLaw" 19 "java/lang/IllegalArgumentException" ∈ zW := zW_1 (i := 212) (by decide +kernel) (by decide +kernel)
theorem zw_1_213 : Cond.methodLink "CronFinderLaw" 15 zy_F_end ∈ zW := zW_1 (i := 213) (by decide +kernel) (by decide +kernel)
theorem zw_1_214 : Cond.instanceMethod zy_F_end ∈ zW := zW_1 (i := 214) (by decide +kernel) (by decide +kernel)
theorem zw_1_215 : Cond.selects "CronFinder" zy_F_end zy_F_end ∈ zW := zW_1 (i := 215) (by decide +kernel) (by decide +kernel)
theorem zw_1_216 : Cond.code zy_F_end prog_1_method_3_code 2 (some .int) ∈ zW := zW_1 (i := 216) (by decide +kernel) (by decide +kernel)
theorem zw_1_217 : Cond.classLink "CronFinder" 49 "java/lang/IllegalArgumentException" ∈ zW := zW_1 (i := 217) (by decide +kernel) (by decide +kernel)
theorem zw_1_218 : Cond.instantiable "java/lang/IllegalArgumentException" 6 ∈ zW := zW_1 (i := 218) (by decide +kernel) (by decide +kernel)
theorem zw_1_220 : Cond.selects "java/lang/IllegalArgumentException" ⟨"java/lang/Throwable", "fillInStackTrace", "(I)Ljava/lang/Throwable;"⟩ ⟨"java/lang/Throwable", "fillInStackTrace", "(I)Ljava/lang/Throwable;"⟩ ∈ zW := zW_1 (i := 220) (by decide +kernel) (by decide +kernel)
theorem zw_1_221 : Cond.lays "java/lang/IllegalArgumentException" "java/lang/Throwable" "cause" "Ljava/lang/Throwable;" ∈ zW := zW_1 (i := 221) (by decide +kernel) (by decide +kernel)
theorem zw_1_222 : Cond.lays "java/lang/IllegalArgumentException" "java/lang/Throwable" "stackTrace" "[Ljava/lang/StackTraceElement;" ∈ zW := zW_1 (i := 222) (by decide +kernel) (by decide +kernel)
theorem zw_1_223 : Cond.lays "java/lang/IllegalArgumentException" "java/lang/Throwable" "suppressedExceptions" "Ljava/util/List;" ∈ zW := zW_1 (i := 223) (by decide +kernel) (by decide +kernel)
theorem zw_1_224 : Cond.lays "java/lang/IllegalArgumentException" "java/lang/Throwable" "detailMessage" "Ljava/lang/String;" ∈ zW := zW_1 (i := 224) (by decide +kernel) (by decide +kernel)
theorem zw_1_225 : Cond.lays "java/lang/IllegalArgumentException" "java/lang/Throwable" "backtrace" "Ljava/lang/Object;" ∈ zW := zW_1 (i := 225) (by decide +kernel) (by decide +kernel)
theorem zw_1_227 : Cond.methodLink "CronFinder" 53 zy_JA_init ∈ zW := zW_1 (i := 227) (by decide +kernel) (by decide +kernel)
theorem zw_1_228 : Cond.instanceMethod zy_JA_init ∈ zW := zW_1 (i := 228) (by decide +kernel) (by decide +kernel)
theorem zw_1_229 : Cond.code zy_JA_init prog_13_method_2_code 2 none ∈ zW := zW_1 (i := 229) (by decide +kernel) (by decide +kernel)
theorem zw_1_230 : Cond.methodLink "java/lang/IllegalArgumentException" 7 zy_JR_init ∈ zW := zW_1 (i := 230) (by decide +kernel) (by decide +kernel)
theorem zw_1_231 : Cond.lays "java/lang/IllegalArgumentException" "java/lang/Throwable" "depth" "I" ∈ zW := zW_1 (i := 231) (by decide +kernel) (by decide +kernel)
theorem zw_1_232 : Cond.superclass "java/lang/IllegalArgumentException" "java/lang/RuntimeException" ∈ zW := zW_1 (i := 232) (by decide +kernel) (by decide +kernel)
theorem zw_1_233 : Cond.methodLink "CronFinderLaw" 63 zy_L_cron ∈ zW := zW_1 (i := 233) (by decide +kernel) (by decide +kernel)
theorem zw_1_234 : Cond.static zy_L_cron ∈ zW := zW_1 (i := 234) (by decide +kernel) (by decide +kernel)
theorem zw_1_235 : Cond.codeWith zy_L_cron method_5_code 2 (some .int) [(0, 4, 7, 24)] ∈ zW := zW_1 (i := 235) (by decide +kernel) (by decide +kernel)
theorem zw_1_236 : Cond.classLink "CronFinderLaw" 24 "java/lang/UnsupportedOperationException" ∈ zW := zW_1 (i := 236) (by decide +kernel) (by decide +kernel)
theorem zw_1_237 : Cond.methodLink "CronFinderLaw" 21 zy_F_cron ∈ zW := zW_1 (i := 237) (by decide +kernel) (by decide +kernel)
theorem zw_1_238 : Cond.instanceMethod zy_F_cron ∈ zW := zW_1 (i := 238) (by decide +kernel) (by decide +kernel)
theorem zw_1_239 : Cond.selects "CronFinder" zy_F_cron zy_F_cron ∈ zW := zW_1 (i := 239) (by decide +kernel) (by decide +kernel)
theorem zw_2_0 : Cond.code zy_F_cron prog_1_method_4_code 2 none ∈ zW := zW_2 (i := 0) (by decide +kernel) (by decide +kernel)
theorem zw_2_1 : Cond.classLink "CronFinder" 54 "CronFinder$Reader" ∈ zW := zW_2 (i := 1) (by decide +kernel) (by decide +kernel)
theorem zw_2_2 : Cond.instantiable "CronFinder$Reader" 6 ∈ zW := zW_2 (i := 2) (by decide +kernel) (by decide +kernel)
theorem zw_2_3 : Cond.methodLink "CronFinder" 56 zy_R_init ∈ zW := zW_2 (i := 3) (by decide +kernel) (by decide +kernel)
theorem zw_2_4 : Cond.instanceMethod zy_R_init ∈ zW := zW_2 (i := 4) (by decide +kernel) (by decide +kernel)
theorem zw_2_5 : Cond.code zy_R_init prog_7_method_1_code 4 none ∈ zW := zW_2 (i := 5) (by decide +kernel) (by decide +kernel)
theorem zw_2_6 : Cond.methodLink "CronFinder$Reader" 3 objectInit ∈ zW := zW_2 (i := 6) (by decide +kernel) (by decide +kernel)
theorem zw_2_7 : Cond.fieldLink "CronFinder$Reader" 9 "CronFinder$Reader" "text" "[C" ∈ zW := zW_2 (i := 7) (by decide +kernel) (by decide +kernel)
theorem zw_2_8 : Cond.fieldLink "CronFinder$Reader" 15 "CronFinder$Reader" "length" "I" ∈ zW := zW_2 (i := 8) (by decide +kernel) (by decide +kernel)
theorem zw_2_9 : Cond.fieldLink "CronFinder$Reader" 19 "CronFinder$Reader" "plan" "LCronFinder$Plan;" ∈ zW := zW_2 (i := 9) (by decide +kernel) (by decide +kernel)
theorem zw_2_10 : Cond.fieldLink "CronFinder$Reader" 23 "CronFinder$Reader" "at" "I" ∈ zW := zW_2 (i := 10) (by decide +kernel) (by decide +kernel)
theorem zw_2_11 : Cond.fieldLink "CronFinder$Reader" 26 "CronFinder$Reader" "value" "I" ∈ zW := zW_2 (i := 11) (by decide +kernel) (by decide +kernel)
theorem zw_2_12 : Cond.fieldLink "CronFinder$Reader" 29 "CronFinder$Reader" "dayIsOpen" "Z" ∈ zW := zW_2 (i := 12) (by decide +kernel) (by decide +kernel)
theorem zw_2_13 : Cond.laysFinal "CronFinder$Reader" "CronFinder$Reader" "text" "[C" ∈ zW := zW_2 (i := 13) (by decide +kernel) (by decide +kernel)
theorem zw_2_15 : Cond.laysFinal "CronFinder$Reader" "CronFinder$Reader" "length" "I" ∈ zW := zW_2 (i := 15) (by decide +kernel) (by decide +kernel)
theorem zw_2_17 : Cond.laysFinal "CronFinder$Reader" "CronFinder$Reader" "plan" "LCronFinder$Plan;" ∈ zW := zW_2 (i := 17) (by decide +kernel) (by decide +kernel)
theorem zw_2_19 : Cond.lays "CronFinder$Reader" "CronFinder$Reader" "at" "I" ∈ zW := zW_2 (i := 19) (by decide +kernel) (by decide +kernel)
theorem zw_2_21 : Cond.lays "CronFinder$Reader" "CronFinder$Reader" "value" "I" ∈ zW := zW_2 (i := 21) (by decide +kernel) (by decide +kernel)
theorem zw_2_23 : Cond.lays "CronFinder$Reader" "CronFinder$Reader" "dayIsOpen" "Z" ∈ zW := zW_2 (i := 23) (by decide +kernel) (by decide +kernel)
theorem zw_2_25 : Cond.superclass "CronFinder$Reader" "java/lang/Object" ∈ zW := zW_2 (i := 25) (by decide +kernel) (by decide +kernel)
theorem zw_2_26 : Cond.methodLink "CronFinder" 59 zy_R_readText ∈ zW := zW_2 (i := 26) (by decide +kernel) (by decide +kernel)
theorem zw_2_27 : Cond.instanceMethod zy_R_readText ∈ zW := zW_2 (i := 27) (by decide +kernel) (by decide +kernel)
theorem zw_2_28 : Cond.selects "CronFinder$Reader" zy_R_readText zy_R_readText ∈ zW := zW_2 (i := 28) (by decide +kernel) (by decide +kernel)
theorem zw_2_29 : Cond.code zy_R_readText prog_7_method_2_code 3 (some .int) ∈ zW := zW_2 (i := 29) (by decide +kernel) (by decide +kernel)
theorem zw_2_30 : Cond.methodLink "CronFinder$Reader" 33 zy_P_clear ∈ zW := zW_2 (i := 30) (by decide +kernel) (by decide +kernel)
theorem zw_2_31 : Cond.instanceMethod zy_P_clear ∈ zW := zW_2 (i := 31) (by decide +kernel) (by decide +kernel)
theorem zw_2_32 : Cond.selects "CronFinder$Plan" zy_P_clear zy_P_clear ∈ zW := zW_2 (i := 32) (by decide +kernel) (by decide +kernel)
theorem zw_2_33 : Cond.code zy_P_clear prog_6_method_2_code 2 none ∈ zW := zW_2 (i := 33) (by decide +kernel) (by decide +kernel)
theorem zw_2_34 : Cond.methodLink "CronFinder$Plan" 61 zy_P_row ∈ zW := zW_2 (i := 34) (by decide +kernel) (by decide +kernel)
theorem zw_2_35 : Cond.instanceMethod zy_P_row ∈ zW := zW_2 (i := 35) (by decide +kernel) (by decide +kernel)
theorem zw_2_36 : Cond.selects "CronFinder$Plan" zy_P_row zy_P_row ∈ zW := zW_2 (i := 36) (by decide +kernel) (by decide +kernel)
theorem zw_2_37 : Cond.code zy_P_row prog_6_method_3_code 2 (some (.object "CronFinder$Row")) ∈ zW := zW_2 (i := 37) (by decide +kernel) (by decide +kernel)
theorem zw_2_38 : Cond.methodLink "CronFinder$Plan" 65 zy_O_clear ∈ zW := zW_2 (i := 38) (by decide +kernel) (by decide +kernel)
theorem zw_2_39 : Cond.instanceMethod zy_O_clear ∈ zW := zW_2 (i := 39) (by decide +kernel) (by decide +kernel)
theorem zw_2_40 : Cond.selects "CronFinder$Row" zy_O_clear zy_O_clear ∈ zW := zW_2 (i := 40) (by decide +kernel) (by decide +kernel)
theorem zw_2_41 : Cond.code zy_O_clear prog_8_method_4_code 2 none ∈ zW := zW_2 (i := 41) (by decide +kernel) (by decide +kernel)
theorem zw_2_42 : Cond.methodLink "CronFinder$Plan" 68 zy_P_choose ∈ zW := zW_2 (i := 42) (by decide +kernel) (by decide +kernel)
theorem zw_2_43 : Cond.instanceMethod zy_P_choose ∈ zW := zW_2 (i := 43) (by decide +kernel) (by decide +kernel)
theorem zw_2_44 : Cond.selects "CronFinder$Plan" zy_P_choose zy_P_choose ∈ zW := zW_2 (i := 44) (by decide +kernel) (by decide +kernel)
theorem zw_2_45 : Cond.code zy_P_choose prog_6_method_5_code 4 none ∈ zW := zW_2 (i := 45) (by decide +kernel) (by decide +kernel)
theorem zw_2_46 : Cond.methodLink "CronFinder$Reader" 38 zy_P_row ∈ zW := zW_2 (i := 46) (by decide +kernel) (by decide +kernel)
theorem zw_2_47 : Cond.methodLink "CronFinder$Reader" 42 zy_O_allowAll ∈ zW := zW_2 (i := 47) (by decide +kernel) (by decide +kernel)
theorem zw_2_48 : Cond.instanceMethod zy_O_allowAll ∈ zW := zW_2 (i := 48) (by decide +kernel) (by decide +kernel)
theorem zw_2_49 : Cond.selects "CronFinder$Row" zy_O_allowAll zy_O_allowAll ∈ zW := zW_2 (i := 49) (by decide +kernel) (by decide +kernel)
theorem zw_2_50 : Cond.code zy_O_allowAll prog_8_method_5_code 1 none ∈ zW := zW_2 (i := 50) (by decide +kernel) (by decide +kernel)
theorem zw_2_51 : Cond.methodLink "CronFinder$Row" 22 zy_O_allow ∈ zW := zW_2 (i := 51) (by decide +kernel) (by decide +kernel)
theorem zw_2_52 : Cond.instanceMethod zy_O_allow ∈ zW := zW_2 (i := 52) (by decide +kernel) (by decide +kernel)
theorem zw_2_53 : Cond.selects "CronFinder$Row" zy_O_allow zy_O_allow ∈ zW := zW_2 (i := 53) (by decide +kernel) (by decide +kernel)
theorem zw_2_54 : Cond.code zy_O_allow prog_8_method_6_code 8 none ∈ zW := zW_2 (i := 54) (by decide +kernel) (by decide +kernel)
theorem zw_2_55 : Cond.methodLink "CronFinder$Row" 26 zy_JM_floorMod ∈ zW := zW_2 (i := 55) (by decide +kernel) (by decide +kernel)
theorem zw_2_56 : Cond.static zy_JM_floorMod ∈ zW := zW_2 (i := 56) (by decide +kernel) (by decide +kernel)
theorem zw_2_57 : Cond.code zy_JM_floorMod prog_16_method_50_code 3 (some .int) ∈ zW := zW_2 (i := 57) (by decide +kernel) (by decide +kernel)
theorem zw_2_58 : Cond.methodLink "CronFinder$Row" 32 zy_JM_max ∈ zW := zW_2 (i := 58) (by decide +kernel) (by decide +kernel)
theorem zw_2_59 : Cond.static zy_JM_max ∈ zW := zW_2 (i := 59) (by decide +kernel) (by decide +kernel)
theorem zw_2_60 : Cond.code zy_JM_max prog_16_method_65_code 2 (some .int) ∈ zW := zW_2 (i := 60) (by decide +kernel) (by decide +kernel)
theorem zw_2_61 : Cond.methodLink "CronFinder$Reader" 47 zy_R_readBlanks ∈ zW := zW_2 (i := 61) (by decide +kernel) (by decide +kernel)
theorem zw_2_63 : Cond.instanceMethod zy_R_readBlanks ∈ zW := zW_2 (i := 63) (by decide +kernel) (by decide +kernel)
theorem zw_2_64 : Cond.code zy_R_readBlanks prog_7_method_3_code 2 (some .boolean) ∈ zW := zW_2 (i := 64) (by decide +kernel) (by decide +kernel)
theorem zw_2_65 : Cond.methodLink "CronFinder$Reader" 51 zy_R_readDay ∈ zW := zW_2 (i := 65) (by decide +kernel) (by decide +kernel)
theorem zw_2_67 : Cond.instanceMethod zy_R_readDay ∈ zW := zW_2 (i := 67) (by decide +kernel) (by decide +kernel)
theorem zw_2_68 : Cond.code zy_R_readDay prog_7_method_4_code 2 (some .boolean) ∈ zW := zW_2 (i := 68) (by decide +kernel) (by decide +kernel)
theorem zw_2_69 : Cond.methodLink "CronFinder$Reader" 64 zy_R_accept ∈ zW := zW_2 (i := 69) (by decide +kernel) (by decide +kernel)
theorem zw_2_71 : Cond.instanceMethod zy_R_accept ∈ zW := zW_2 (i := 71) (by decide +kernel) (by decide +kernel)
theorem zw_2_72 : Cond.code zy_R_accept prog_7_method_14_code 2 (some .boolean) ∈ zW := zW_2 (i := 72) (by decide +kernel) (by decide +kernel)
theorem zw_2_73 : Cond.methodLink "CronFinder$Reader" 120 zy_R_sees ∈ zW := zW_2 (i := 73) (by decide +kernel) (by decide +kernel)
theorem zw_2_75 : Cond.instanceMethod zy_R_sees ∈ zW := zW_2 (i := 75) (by decide +kernel) (by decide +kernel)
theorem zw_2_76 : Cond.code zy_R_sees prog_7_method_13_code 2 (some .boolean) ∈ zW := zW_2 (i := 76) (by decide +kernel) (by decide +kernel)
theorem zw_2_77 : Cond.methodLink "CronFinder$Reader" 68 zy_R_readLastDay ∈ zW := zW_2 (i := 77) (by decide +kernel) (by decide +kernel)
theorem zw_2_79 : Cond.instanceMethod zy_R_readLastDay ∈ zW := zW_2 (i := 79) (by decide +kernel) (by decide +kernel)
theorem zw_2_80 : Cond.code zy_R_readLastDay prog_7_method_5_code 1 (some .boolean) ∈ zW := zW_2 (i := 80) (by decide +kernel) (by decide +kernel)
theorem zw_2_81 : Cond.fieldLink "CronFinder$Reader" 84 "CronFinder$DayRule" "LAST_WORKDAY" "LCronFinder$DayRule;" ∈ zW := zW_2 (i := 81) (by decide +kernel) (by decide +kernel)
theorem zw_2_83 : Cond.methodLink "CronFinder$Reader" 80 zy_P_choose ∈ zW := zW_2 (i := 83) (by decide +kernel) (by decide +kernel)
theorem zw_2_84 : Cond.fieldLink "CronFinder$Reader" 87 "CronFinder$DayRule" "BEFORE_LAST_DAY" "LCronFinder$DayRule;" ∈ zW := zW_2 (i := 84) (by decide +kernel) (by decide +kernel)
theorem zw_2_86 : Cond.methodLink "CronFinder$Reader" 90 zy_R_readNumber ∈ zW := zW_2 (i := 86) (by decide +kernel) (by decide +kernel)
theorem zw_2_88 : Cond.instanceMethod zy_R_readNumber ∈ zW := zW_2 (i := 88) (by decide +kernel) (by decide +kernel)
theorem zw_2_89 : Cond.code zy_R_readNumber prog_7_method_12_code 5 (some .boolean) ∈ zW := zW_2 (i := 89) (by decide +kernel) (by decide +kernel)
theorem zw_2_90 : Cond.methodLink "CronFinder$Reader" 139 zy_JM_min ∈ zW := zW_2 (i := 90) (by decide +kernel) (by decide +kernel)
theorem zw_2_91 : Cond.static zy_JM_min ∈ zW := zW_2 (i := 91) (by decide +kernel) (by decide +kernel)
theorem zw_2_92 : Cond.code zy_JM_min prog_16_method_69_code 2 (some .int) ∈ zW := zW_2 (i := 92) (by decide +kernel) (by decide +kernel)
theorem zw_2_93 : Cond.methodLink "CronFinder$Reader" 71 zy_R_readValue ∈ zW := zW_2 (i := 93) (by decide +kernel) (by decide +kernel)
theorem zw_2_95 : Cond.instanceMethod zy_R_readValue ∈ zW := zW_2 (i := 95) (by decide +kernel) (by decide +kernel)
theorem zw_2_96 : Cond.code zy_R_readValue prog_7_method_10_code 3 (some .boolean) ∈ zW := zW_2 (i := 96) (by decide +kernel) (by decide +kernel)
theorem zw_2_98 : Cond.methodLink "CronFinder$Reader" 125 zy_R_readName ∈ zW := zW_2 (i := 98) (by decide +kernel) (by decide +kernel)
theorem zw_2_100 : Cond.instanceMethod zy_R_readName ∈ zW := zW_2 (i := 100) (by decide +kernel) (by decide +kernel)
theorem zw_2_101 : Cond.code zy_R_readName prog_7_method_11_code 3 (some .boolean) ∈ zW := zW_2 (i := 101) (by decide +kernel) (by decide +kernel)
theorem zw_2_102 : Cond.methodLink "CronFinder$Reader" 131 zy_JS_length ∈ zW := zW_2 (i := 102) (by decide +kernel) (by decide +kernel)
theorem zw_2_103 : Cond.instanceMethod zy_JS_length ∈ zW := zW_2 (i := 103) (by decide +kernel) (by decide +kernel)
theorem zw_2_104 : Cond.selects "java/lang/String" zy_JS_length zy_JS_length ∈ zW := zW_2 (i := 104) (by decide +kernel) (by decide +kernel)
theorem zw_2_105 : Cond.code zy_JS_length prog_18_method_54_code 1 (some .int) ∈ zW := zW_2 (i := 105) (by decide +kernel) (by decide +kernel)
theorem zw_2_106 : Cond.methodLink "java/lang/String" 335 zy_JS_coder ∈ zW := zW_2 (i := 106) (by decide +kernel) (by decide +kernel)
theorem zw_2_107 : Cond.instanceMethod zy_JS_coder ∈ zW := zW_2 (i := 107) (by decide +kernel) (by decide +kernel)
theorem zw_2_108 : Cond.selects "java/lang/String" zy_JS_coder zy_JS_coder ∈ zW := zW_2 (i := 108) (by decide +kernel) (by decide +kernel)
theorem zw_2_109 : Cond.code zy_JS_coder prog_18_method_152_code 1 (some .byte) ∈ zW := zW_2 (i := 109) (by decide +kernel) (by decide +kernel)
theorem zw_2_110 : Cond.fieldLink "java/lang/String" 38 "java/lang/String" "COMPACT_STRINGS" "Z" ∈ zW := zW_2 (i := 110) (by decide +kernel) (by decide +kernel)
theorem zw_2_112 : Cond.methodLink "CronFinder$Reader" 135 zy_JS_charAt ∈ zW := zW_2 (i := 112) (by decide +kernel) (by decide +kernel)
theorem zw_2_113 : Cond.instanceMethod zy_JS_charAt ∈ zW := zW_2 (i := 113) (by decide +kernel) (by decide +kernel)
theorem zw_2_114 : Cond.selects "java/lang/String" zy_JS_charAt zy_JS_charAt ∈ zW := zW_2 (i := 114) (by decide +kernel) (by decide +kernel)
theorem zw_2_115 : Cond.code zy_JS_charAt prog_18_method_56_code 2 (some .char) ∈ zW := zW_2 (i := 115) (by decide +kernel) (by decide +kernel)
theorem zw_2_116 : Cond.methodLink "java/lang/String" 492 zy_JS_isLatin1 ∈ zW := zW_2 (i := 116) (by decide +kernel) (by decide +kernel)
theorem zw_2_117 : Cond.instanceMethod zy_JS_isLatin1 ∈ zW := zW_2 (i := 117) (by decide +kernel) (by decide +kernel)
theorem zw_2_118 : Cond.selects "java/lang/String" zy_JS_isLatin1 zy_JS_isLatin1 ∈ zW := zW_2 (i := 118) (by decide +kernel) (by decide +kernel)
theorem zw_2_119 : Cond.code zy_JS_isLatin1 prog_18_method_154_code 1 (some .boolean) ∈ zW := zW_2 (i := 119) (by decide +kernel) (by decide +kernel)
theorem zw_2_120 : Cond.methodLink "java/lang/String" 495 zy_JL_charAt ∈ zW := zW_2 (i := 120) (by decide +kernel) (by decide +kernel)
theorem zw_2_121 : Cond.static zy_JL_charAt ∈ zW := zW_2 (i := 121) (by decide +kernel) (by decide +kernel)
theorem zw_2_122 : Cond.code zy_JL_charAt prog_19_method_2_code 2 (some .char) ∈ zW := zW_2 (i := 122) (by decide +kernel) (by decide +kernel)
theorem zw_2_123 : Cond.methodLink "java/lang/StringLatin1" 9 zy_JS_checkIndex ∈ zW := zW_2 (i := 123) (by decide +kernel) (by decide +kernel)
theorem zw_2_124 : Cond.static zy_JS_checkIndex ∈ zW := zW_2 (i := 124) (by decide +kernel) (by decide +kernel)
theorem zw_2_125 : Cond.code zy_JS_checkIndex prog_18_method_155_code 2 none ∈ zW := zW_2 (i := 125) (by decide +kernel) (by decide +kernel)
theorem zw_2_126 : Cond.fieldLink "java/lang/String" 1053 "jdk/internal/util/Preconditions" "SIOOBE_FORMATTER" "Ljava/util/function/BiFunction;" ∈ zW := zW_2 (i := 126) (by decide +kernel) (by decide +kernel)
theorem zw_2_128 : Cond.methodLink "java/lang/String" 1059 zy_JP_checkIndex ∈ zW := zW_2 (i := 128) (by decide +kernel) (by decide +kernel)
theorem zw_2_129 : Cond.static zy_JP_checkIndex ∈ zW := zW_2 (i := 129) (by decide +kernel) (by decide +kernel)
theorem zw_2_130 : Cond.code zy_JP_checkIndex prog_24_method_11_code 3 (some .int) ∈ zW := zW_2 (i := 130) (by decide +kernel) (by decide +kernel)
theorem zw_2_131 : Cond.methodLink "java/lang/String" 498 zy_JU_charAt ∈ zW := zW_2 (i := 131) (by decide +kernel) (by decide +kernel)
theorem zw_2_132 : Cond.static zy_JU_charAt ∈ zW := zW_2 (i := 132) (by decide +kernel) (by decide +kernel)
theorem zw_2_133 : Cond.code zy_JU_charAt prog_20_method_83_code 2 (some .char) ∈ zW := zW_2 (i := 133) (by decide +kernel) (by decide +kernel)
theorem zw_2_134 : Cond.methodLink "java/lang/StringUTF16" 67 zy_JU_checkIndex ∈ zW := zW_2 (i := 134) (by decide +kernel) (by decide +kernel)
theorem zw_2_135 : Cond.static zy_JU_checkIndex ∈ zW := zW_2 (i := 135) (by decide +kernel) (by decide +kernel)
theorem zw_2_136 : Cond.code zy_JU_checkIndex prog_20_method_91_code 2 none ∈ zW := zW_2 (i := 136) (by decide +kernel) (by decide +kernel)
theorem zw_2_137 : Cond.methodLink "java/lang/StringUTF16" 48 zy_JU_length ∈ zW := zW_2 (i := 137) (by decide +kernel) (by decide +kernel)
theorem zw_2_138 : Cond.static zy_JU_length ∈ zW := zW_2 (i := 138) (by decide +kernel) (by decide +kernel)
theorem zw_2_139 : Cond.code zy_JU_length prog_20_method_6_code 1 (some .int) ∈ zW := zW_2 (i := 139) (by decide +kernel) (by decide +kernel)
theorem zw_2_140 : Cond.methodLink "java/lang/StringUTF16" 414 zy_JS_checkIndex ∈ zW := zW_2 (i := 140) (by decide +kernel) (by decide +kernel)
theorem zw_2_141 : Cond.methodLink "java/lang/StringUTF16" 71 zy_JU_getChar ∈ zW := zW_2 (i := 141) (by decide +kernel) (by decide +kernel)
theorem zw_2_142 : Cond.static zy_JU_getChar ∈ zW := zW_2 (i := 142) (by decide +kernel) (by decide +kernel)
theorem zw_2_143 : Cond.code zy_JU_getChar prog_20_method_5_code 2 (some .char) ∈ zW := zW_2 (i := 143) (by decide +kernel) (by decide +kernel)
theorem zw_2_144 : Cond.fieldLink "java/lang/StringUTF16" 44 "java/lang/StringUTF16" "$assertionsDisabled" "Z" ∈ zW := zW_2 (i := 144) (by decide +kernel) (by decide +kernel)
theorem zw_2_146 : Cond.fieldLink "java/lang/StringUTF16" 59 "java/lang/StringUTF16" "HI_BYTE_SHIFT" "I" ∈ zW := zW_2 (i := 146) (by decide +kernel) (by decide +kernel)
theorem zw_2_148 : Cond.fieldLink "java/lang/StringUTF16" 63 "java/lang/StringUTF16" "LO_BYTE_SHIFT" "I" ∈ zW := zW_2 (i := 148) (by decide +kernel) (by decide +kernel)
theorem zw_2_151 : Cond.methodLink "CronFinder$Reader" 113 zy_O_first ∈ zW := zW_2 (i := 151) (by decide +kernel) (by decide +kernel)
theorem zw_2_152 : Cond.instanceMethod zy_O_first ∈ zW := zW_2 (i := 152) (by decide +kernel) (by decide +kernel)
theorem zw_2_153 : Cond.selects "CronFinder$Row" zy_O_first zy_O_first ∈ zW := zW_2 (i := 153) (by decide +kernel) (by decide +kernel)
theorem zw_2_154 : Cond.code zy_O_first prog_8_method_2_code 1 (some .int) ∈ zW := zW_2 (i := 154) (by decide +kernel) (by decide +kernel)
theorem zw_2_155 : Cond.methodLink "CronFinder$Reader" 117 zy_O_highest ∈ zW := zW_2 (i := 155) (by decide +kernel) (by decide +kernel)
theorem zw_2_156 : Cond.instanceMethod zy_O_highest ∈ zW := zW_2 (i := 156) (by decide +kernel) (by decide +kernel)
theorem zw_2_157 : Cond.selects "CronFinder$Row" zy_O_highest zy_O_highest ∈ zW := zW_2 (i := 157) (by decide +kernel) (by decide +kernel)
theorem zw_2_158 : Cond.code zy_O_highest prog_8_method_3_code 1 (some .int) ∈ zW := zW_2 (i := 158) (by decide +kernel) (by decide +kernel)
theorem zw_2_159 : Cond.fieldLink "CronFinder$Reader" 74 "CronFinder$DayRule" "NEAREST_WORKDAY" "LCronFinder$DayRule;" ∈ zW := zW_2 (i := 159) (by decide +kernel) (by decide +kernel)
theorem zw_2_161 : Cond.methodLink "CronFinder$Reader" 57 zy_R_readItems ∈ zW := zW_2 (i := 161) (by decide +kernel) (by decide +kernel)
theorem zw_2_163 : Cond.instanceMethod zy_R_readItems ∈ zW := zW_2 (i := 163) (by decide +kernel) (by decide +kernel)
theorem zw_2_164 : Cond.code zy_R_readItems prog_7_method_8_code 3 (some .boolean) ∈ zW := zW_2 (i := 164) (by decide +kernel) (by decide +kernel)
theorem zw_2_165 : Cond.methodLink "CronFinder$Reader" 110 zy_R_readItem ∈ zW := zW_2 (i := 165) (by decide +kernel) (by decide +kernel)
theorem zw_2_167 : Cond.instanceMethod zy_R_readItem ∈ zW := zW_2 (i := 167) (by decide +kernel) (by decide +kernel)
theorem zw_2_168 : Cond.code zy_R_readItem prog_7_method_9_code 6 (some .boolean) ∈ zW := zW_2 (i := 168) (by decide +kernel) (by decide +kernel)
theorem zw_2_169 : Cond.methodLink "CronFinder$Reader" 97 zy_O_allow ∈ zW := zW_2 (i := 169) (by decide +kernel) (by decide +kernel)
theorem zw_2_170 : Cond.methodLink "CronFinder$Reader" 54 zy_R_readWeekday ∈ zW := zW_2 (i := 170) (by decide +kernel) (by decide +kernel)
theorem zw_2_172 : Cond.instanceMethod zy_R_readWeekday ∈ zW := zW_2 (i := 172) (by decide +kernel) (by decide +kernel)
theorem zw_2_173 : Cond.code zy_R_readWeekday prog_7_method_6_code 2 (some .boolean) ∈ zW := zW_2 (i := 173) (by decide +kernel) (by decide +kernel)
theorem zw_2_174 : Cond.fieldLink "CronFinder$Reader" 94 "CronFinder$DayRule" "LISTED_WEEKDAYS" "LCronFinder$DayRule;" ∈ zW := zW_2 (i := 174) (by decide +kernel) (by decide +kernel)
theorem zw_2_176 : Cond.fieldLink "CronFinder$Reader" 101 "CronFinder$DayRule" "LAST_WEEKDAY" "LCronFinder$DayRule;" ∈ zW := zW_2 (i := 176) (by decide +kernel) (by decide +kernel)
theorem zw_2_178 : Cond.methodLink "CronFinder$Reader" 104 zy_R_readOrdinal ∈ zW := zW_2 (i := 178) (by decide +kernel) (by decide +kernel)
theorem zw_2_180 : Cond.instanceMethod zy_R_readOrdinal ∈ zW := zW_2 (i := 180) (by decide +kernel) (by decide +kernel)
theorem zw_2_181 : Cond.code zy_R_readOrdinal prog_7_method_7_code 2 (some .boolean) ∈ zW := zW_2 (i := 181) (by decide +kernel) (by decide +kernel)
theorem zw_2_182 : Cond.fieldLink "CronFinder$Reader" 107 "CronFinder$DayRule" "ORDINAL_WEEKDAY" "LCronFinder$DayRule;" ∈ zW := zW_2 (i := 182) (by decide +kernel) (by decide +kernel)
theorem zw_2_184 : Cond.methodLink "CronFinder$Reader" 61 zy_P_seal ∈ zW := zW_2 (i := 184) (by decide +kernel) (by decide +kernel)
theorem zw_2_185 : Cond.instanceMethod zy_P_seal ∈ zW := zW_2 (i := 185) (by decide +kernel) (by decide +kernel)
theorem zw_2_186 : Cond.selects "CronFinder$Plan" zy_P_seal zy_P_seal ∈ zW := zW_2 (i := 186) (by decide +kernel) (by decide +kernel)
theorem zw_2_187 : Cond.code zy_P_seal prog_6_method_4_code 2 none ∈ zW := zW_2 (i := 187) (by decide +kernel) (by decide +kernel)
theorem zw_2_188 : Cond.methodLink "CronFinder$Plan" 72 zy_O_has ∈ zW := zW_2 (i := 188) (by decide +kernel) (by decide +kernel)
theorem zw_2_189 : Cond.instanceMethod zy_O_has ∈ zW := zW_2 (i := 189) (by decide +kernel) (by decide +kernel)
theorem zw_2_190 : Cond.selects "CronFinder$Row" zy_O_has zy_O_has ∈ zW := zW_2 (i := 190) (by decide +kernel) (by decide +kernel)
theorem zw_2_191 : Cond.code zy_O_has prog_8_method_7_code 2 (some .boolean) ∈ zW := zW_2 (i := 191) (by decide +kernel) (by decide +kernel)
theorem zw_2_192 : Cond.classLink "CronFinder" 63 "java/lang/UnsupportedOperationException" ∈ zW := zW_2 (i := 192) (by decide +kernel) (by decide +kernel)
theorem zw_2_193 : Cond.instantiable "java/lang/UnsupportedOperationException" 6 ∈ zW := zW_2 (i := 193) (by decide +kernel) (by decide +kernel)
theorem zw_2_195 : Cond.selects "java/lang/UnsupportedOperationException" ⟨"java/lang/Throwable", "fillInStackTrace", "(I)Ljava/lang/Throwable;"⟩ ⟨"java/lang/Throwable", "fillInStackTrace", "(I)Ljava/lang/Throwable;"⟩ ∈ zW := zW_2 (i := 195) (by decide +kernel) (by decide +kernel)
theorem zw_2_196 : Cond.lays "java/lang/UnsupportedOperationException" "java/lang/Throwable" "cause" "Ljava/lang/Throwable;" ∈ zW := zW_2 (i := 196) (by decide +kernel) (by decide +kernel)
theorem zw_2_197 : Cond.lays "java/lang/UnsupportedOperationException" "java/lang/Throwable" "stackTrace" "[Ljava/lang/StackTraceElement;" ∈ zW := zW_2 (i := 197) (by decide +kernel) (by decide +kernel)
theorem zw_2_198 : Cond.lays "java/lang/UnsupportedOperationException" "java/lang/Throwable" "suppressedExceptions" "Ljava/util/List;" ∈ zW := zW_2 (i := 198) (by decide +kernel) (by decide +kernel)
theorem zw_2_199 : Cond.lays "java/lang/UnsupportedOperationException" "java/lang/Throwable" "detailMessage" "Ljava/lang/String;" ∈ zW := zW_2 (i := 199) (by decide +kernel) (by decide +kernel)
theorem zw_2_200 : Cond.lays "java/lang/UnsupportedOperationException" "java/lang/Throwable" "backtrace" "Ljava/lang/Object;" ∈ zW := zW_2 (i := 200) (by decide +kernel) (by decide +kernel)
theorem zw_2_202 : Cond.methodLink "CronFinder" 67 zy_JV_init ∈ zW := zW_2 (i := 202) (by decide +kernel) (by decide +kernel)
theorem zw_2_203 : Cond.instanceMethod zy_JV_init ∈ zW := zW_2 (i := 203) (by decide +kernel) (by decide +kernel)
theorem zw_2_204 : Cond.code zy_JV_init prog_23_method_2_code 2 none ∈ zW := zW_2 (i := 204) (by decide +kernel) (by decide +kernel)
theorem zw_2_205 : Cond.methodLink "java/lang/UnsupportedOperationException" 7 zy_JR_init ∈ zW := zW_2 (i := 205) (by decide +kernel) (by decide +kernel)
theorem zw_2_206 : Cond.lays "java/lang/UnsupportedOperationException" "java/lang/Throwable" "depth" "I" ∈ zW := zW_2 (i := 206) (by decide +kernel) (by decide +kernel)
theorem zw_2_207 : Cond.superclass "java/lang/UnsupportedOperationException" "java/lang/RuntimeException" ∈ zW := zW_2 (i := 207) (by decide +kernel) (by decide +kernel)
theorem zw_2_208 : Cond.methodLink "CronFinderLaw" 67 zy_L_holiday ∈ zW := zW_2 (i := 208) (by decide +kernel) (by decide +kernel)
theorem zw_2_209 : Cond.static zy_L_holiday ∈ zW := zW_2 (i := 209) (by decide +kernel) (by decide +kernel)
theorem zw_2_210 : Cond.codeWith zy_L_holiday method_6_code 5 (some .int) [(0, 10, 13, 19), (0, 10, 17, 13)] ∈ zW := zW_2 (i := 210) (by decide +kernel) (by decide +kernel)
theorem zw_2_211 : Cond.methodLink "CronFinderLaw" 26 zy_F_holiday ∈ zW := zW_2 (i := 211) (by decide +kernel) (by decide +kernel)
theorem zw_2_212 : Cond.instanceMethod zy_F_holiday ∈ zW := zW_2 (i := 212) (by decide +kernel) (by decide +kernel)
theorem zw_2_213 : Cond.selects "CronFinder" zy_F_holiday zy_F_holiday ∈ zW := zW_2 (i := 213) (by decide +kernel) (by decide +kernel)
theorem zw_2_214 : Cond.code zy_F_holiday prog_1_method_5_code 3 (some .int) ∈ zW := zW_2 (i := 214) (by decide +kernel) (by decide +kernel)
theorem zw_2_215 : Cond.constant "CronFinder" 68 (120529 : Int32) ∈ zW := zW_2 (i := 215) (by decide +kernel) (by decide +kernel)
theorem zw_2_217 : Cond.methodLink "CronFinder" 71 zy_S_remove ∈ zW := zW_2 (i := 217) (by decide +kernel) (by decide +kernel)
theorem zw_2_218 : Cond.instanceMethod zy_S_remove ∈ zW := zW_2 (i := 218) (by decide +kernel) (by decide +kernel)
theorem zw_2_219 : Cond.selects "CronFinder$DaySet" zy_S_remove zy_S_remove ∈ zW := zW_2 (i := 219) (by decide +kernel) (by decide +kernel)
theorem zw_2_220 : Cond.code zy_S_remove prog_5_method_5_code 3 none ∈ zW := zW_2 (i := 220) (by decide +kernel) (by decide +kernel)
theorem zw_2_221 : Cond.methodLink "CronFinder$DaySet" 21 zy_S_has ∈ zW := zW_2 (i := 221) (by decide +kernel) (by decide +kernel)
theorem zw_2_222 : Cond.instanceMethod zy_S_has ∈ zW := zW_2 (i := 222) (by decide +kernel) (by decide +kernel)
theorem zw_2_223 : Cond.selects "CronFinder$DaySet" zy_S_has zy_S_has ∈ zW := zW_2 (i := 223) (by decide +kernel) (by decide +kernel)
theorem zw_2_224 : Cond.code zy_S_has prog_5_method_3_code 3 (some .boolean) ∈ zW := zW_2 (i := 224) (by decide +kernel) (by decide +kernel)
theorem zw_2_225 : Cond.methodLink "CronFinder$DaySet" 17 zy_S_indexOf ∈ zW := zW_2 (i := 225) (by decide +kernel) (by decide +kernel)
theorem zw_2_227 : Cond.instanceMethod zy_S_indexOf ∈ zW := zW_2 (i := 227) (by decide +kernel) (by decide +kernel)
theorem zw_2_228 : Cond.code zy_S_indexOf prog_5_method_6_code 5 (some .int) ∈ zW := zW_2 (i := 228) (by decide +kernel) (by decide +kernel)
theorem zw_2_229 : Cond.methodLink "CronFinder$DaySet" 31 zy_JI_highestOneBit ∈ zW := zW_2 (i := 229) (by decide +kernel) (by decide +kernel)
theorem zw_2_230 : Cond.static zy_JI_highestOneBit ∈ zW := zW_2 (i := 230) (by decide +kernel) (by decide +kernel)
theorem zw_2_231 : Cond.code zy_JI_highestOneBit prog_15_method_45_code 1 (some .int) ∈ zW := zW_2 (i := 231) (by decide +kernel) (by decide +kernel)
theorem zw_2_232 : Cond.constant "java/lang/Integer" 127 (-2147483648 : Int32) ∈ zW := zW_2 (i := 232) (by decide +kernel) (by decide +kernel)
theorem zw_2_233 : Cond.methodLink "java/lang/Integer" 51 zy_JI_numberOfLeadingZeros ∈ zW := zW_2 (i := 233) (by decide +kernel) (by decide +kernel)
theorem zw_2_234 : Cond.static zy_JI_numberOfLeadingZeros ∈ zW := zW_2 (i := 234) (by decide +kernel) (by decide +kernel)
theorem zw_2_235 : Cond.code zy_JI_numberOfLeadingZeros prog_15_method_47_code 2 (some .int) ∈ zW := zW_2 (i := 235) (by decide +kernel) (by decide +kernel)
theorem zw_2_236 : Cond.constant "java/lang/Integer" 264 (65536 : Int32) ∈ zW := zW_2 (i := 236) (by decide +kernel) (by decide +kernel)
theorem zw_2_237 : Cond.methodLink "CronFinder$DaySet" 25 ⟨"java/lang/System", "arraycopy", "(Ljava/lang/Object;ILjava/lang/Object;II)V"⟩ ∈ zW := zW_2 (i := 237) (by decide +kernel) (by decide +kernel)
theorem zw_2_238 : Cond.static ⟨"java/lang/System", "arraycopy", "(Ljava/lang/Object;ILjava/lang/Object;II)V"⟩ ∈ zW := zW_2 (i := 238) (by decide +kernel) (by decide +kernel)
theorem zw_2_239 : Cond.native ⟨"java/lang/System", "arraycopy", "(Ljava/lang/Object;ILjava/lang/Object;II)V"⟩ ∈ zW := zW_2 (i := 239) (by decide +kernel) (by decide +kernel)
theorem zw_3_0 : Cond.methodLink "CronFinder" 74 zy_S_add ∈ zW := zW_3 (i := 0) (by decide +kernel) (by decide +kernel)
theorem zw_3_1 : Cond.instanceMethod zy_S_add ∈ zW := zW_3 (i := 1) (by decide +kernel) (by decide +kernel)
theorem zw_3_2 : Cond.selects "CronFinder$DaySet" zy_S_add zy_S_add ∈ zW := zW_3 (i := 2) (by decide +kernel) (by decide +kernel)
theorem zw_3_3 : Cond.code zy_S_add prog_5_method_4_code 3 (some .boolean) ∈ zW := zW_3 (i := 3) (by decide +kernel) (by decide +kernel)
theorem zw_3_5 : Cond.methodLink "CronFinder" 80 zy_S_size ∈ zW := zW_3 (i := 5) (by decide +kernel) (by decide +kernel)
theorem zw_3_6 : Cond.instanceMethod zy_S_size ∈ zW := zW_3 (i := 6) (by decide +kernel) (by decide +kernel)
theorem zw_3_7 : Cond.selects "CronFinder$DaySet" zy_S_size zy_S_size ∈ zW := zW_3 (i := 7) (by decide +kernel) (by decide +kernel)
theorem zw_3_8 : Cond.code zy_S_size prog_5_method_2_code 1 (some .int) ∈ zW := zW_3 (i := 8) (by decide +kernel) (by decide +kernel)
theorem zw_3_9 : Cond.methodLink "CronFinderLaw" 73 zy_L_next ∈ zW := zW_3 (i := 9) (by decide +kernel) (by decide +kernel)
theorem zw_3_10 : Cond.static zy_L_next ∈ zW := zW_3 (i := 10) (by decide +kernel) (by decide +kernel)
theorem zw_3_11 : Cond.codeWith zy_L_next method_7_code 5 (some .int) [(0, 8, 11, 19)] ∈ zW := zW_3 (i := 11) (by decide +kernel) (by decide +kernel)
theorem zw_3_12 : Cond.methodLink "CronFinderLaw" 30 zy_F_next ∈ zW := zW_3 (i := 12) (by decide +kernel) (by decide +kernel)
theorem zw_3_13 : Cond.instanceMethod zy_F_next ∈ zW := zW_3 (i := 13) (by decide +kernel) (by decide +kernel)
theorem zw_3_14 : Cond.selects "CronFinder" zy_F_next zy_F_next ∈ zW := zW_3 (i := 14) (by decide +kernel) (by decide +kernel)
theorem zw_3_15 : Cond.code zy_F_next prog_1_method_6_code 3 (some .long) ∈ zW := zW_3 (i := 15) (by decide +kernel) (by decide +kernel)
theorem zw_3_16 : Cond.methodLink "CronFinder" 83 zy_F_checkTime ∈ zW := zW_3 (i := 16) (by decide +kernel) (by decide +kernel)
theorem zw_3_18 : Cond.instanceMethod zy_F_checkTime ∈ zW := zW_3 (i := 18) (by decide +kernel) (by decide +kernel)
theorem zw_3_19 : Cond.code zy_F_checkTime prog_1_method_12_code 3 none ∈ zW := zW_3 (i := 19) (by decide +kernel) (by decide +kernel)
theorem zw_3_20 : Cond.constantLong "CronFinder" 110 (10413791999 : Int64) ∈ zW := zW_3 (i := 20) (by decide +kernel) (by decide +kernel)
theorem zw_3_22 : Cond.methodLink "CronFinder" 87 zy_F_fireBehind ∈ zW := zW_3 (i := 22) (by decide +kernel) (by decide +kernel)
theorem zw_3_24 : Cond.instanceMethod zy_F_fireBehind ∈ zW := zW_3 (i := 24) (by decide +kernel) (by decide +kernel)
theorem zw_3_25 : Cond.code zy_F_fireBehind prog_1_method_13_code 8 (some .long) ∈ zW := zW_3 (i := 25) (by decide +kernel) (by decide +kernel)
theorem zw_3_26 : Cond.constantLong "CronFinder" 96 (-1 : Int64) ∈ zW := zW_3 (i := 26) (by decide +kernel) (by decide +kernel)
theorem zw_3_27 : Cond.constantLong "CronFinder" 98 (86400 : Int64) ∈ zW := zW_3 (i := 27) (by decide +kernel) (by decide +kernel)
theorem zw_3_28 : Cond.methodLink "CronFinder" 114 zy_F_firingDayFrom ∈ zW := zW_3 (i := 28) (by decide +kernel) (by decide +kernel)
theorem zw_3_30 : Cond.instanceMethod zy_F_firingDayFrom ∈ zW := zW_3 (i := 30) (by decide +kernel) (by decide +kernel)
theorem zw_3_31 : Cond.code zy_F_firingDayFrom prog_1_method_16_code 6 (some .int) ∈ zW := zW_3 (i := 31) (by decide +kernel) (by decide +kernel)
theorem zw_3_32 : Cond.methodLink "CronFinder" 128 zy_D_monthOf ∈ zW := zW_3 (i := 32) (by decide +kernel) (by decide +kernel)
theorem zw_3_33 : Cond.static zy_D_monthOf ∈ zW := zW_3 (i := 33) (by decide +kernel) (by decide +kernel)
theorem zw_3_34 : Cond.code zy_D_monthOf prog_3_method_5_code 3 (some .int) ∈ zW := zW_3 (i := 34) (by decide +kernel) (by decide +kernel)
theorem zw_3_35 : Cond.methodLink "CronFinder$Dates" 33 zy_D_yearOf ∈ zW := zW_3 (i := 35) (by decide +kernel) (by decide +kernel)
theorem zw_3_36 : Cond.static zy_D_yearOf ∈ zW := zW_3 (i := 36) (by decide +kernel) (by decide +kernel)
theorem zw_3_37 : Cond.code zy_D_yearOf prog_3_method_7_code 2 (some .int) ∈ zW := zW_3 (i := 37) (by decide +kernel) (by decide +kernel)
theorem zw_3_38 : Cond.methodLink "CronFinder$Dates" 23 zy_D_startOfYear ∈ zW := zW_3 (i := 38) (by decide +kernel) (by decide +kernel)
theorem zw_3_39 : Cond.static zy_D_startOfYear ∈ zW := zW_3 (i := 39) (by decide +kernel) (by decide +kernel)
theorem zw_3_40 : Cond.code zy_D_startOfYear prog_3_method_8_code 3 (some .int) ∈ zW := zW_3 (i := 40) (by decide +kernel) (by decide +kernel)
theorem zw_3_41 : Cond.methodLink "CronFinder$Dates" 30 zy_D_startOfMonth ∈ zW := zW_3 (i := 41) (by decide +kernel) (by decide +kernel)
theorem zw_3_42 : Cond.static zy_D_startOfMonth ∈ zW := zW_3 (i := 42) (by decide +kernel) (by decide +kernel)
theorem zw_3_43 : Cond.code zy_D_startOfMonth prog_3_method_3_code 4 (some .int) ∈ zW := zW_3 (i := 43) (by decide +kernel) (by decide +kernel)
theorem zw_3_44 : Cond.methodLink "CronFinder$Dates" 9 zy_D_yearOfMonth ∈ zW := zW_3 (i := 44) (by decide +kernel) (by decide +kernel)
theorem zw_3_45 : Cond.static zy_D_yearOfMonth ∈ zW := zW_3 (i := 45) (by decide +kernel) (by decide +kernel)
theorem zw_3_46 : Cond.code zy_D_yearOfMonth prog_3_method_2_code 1 (some .int) ∈ zW := zW_3 (i := 46) (by decide +kernel) (by decide +kernel)
theorem zw_3_47 : Cond.methodLink "CronFinder$Dates" 13 zy_JM_floorMod ∈ zW := zW_3 (i := 47) (by decide +kernel) (by decide +kernel)
theorem zw_3_48 : Cond.methodLink "CronFinder$Dates" 19 zy_D_isLeap ∈ zW := zW_3 (i := 48) (by decide +kernel) (by decide +kernel)
theorem zw_3_49 : Cond.static zy_D_isLeap ∈ zW := zW_3 (i := 49) (by decide +kernel) (by decide +kernel)
theorem zw_3_50 : Cond.code zy_D_isLeap prog_3_method_9_code 1 (some .boolean) ∈ zW := zW_3 (i := 50) (by decide +kernel) (by decide +kernel)
theorem zw_3_51 : Cond.fieldLink "CronFinder$Dates" 26 "CronFinder$Dates" "DAYS_BEFORE_MONTH" "[I" ∈ zW := zW_3 (i := 51) (by decide +kernel) (by decide +kernel)
theorem zw_3_53 : Cond.methodLink "CronFinder" 133 zy_P_daysOf ∈ zW := zW_3 (i := 53) (by decide +kernel) (by decide +kernel)
theorem zw_3_54 : Cond.instanceMethod zy_P_daysOf ∈ zW := zW_3 (i := 54) (by decide +kernel) (by decide +kernel)
theorem zw_3_55 : Cond.selects "CronFinder$Plan" zy_P_daysOf zy_P_daysOf ∈ zW := zW_3 (i := 55) (by decide +kernel) (by decide +kernel)
theorem zw_3_56 : Cond.code zy_P_daysOf prog_6_method_10_code 4 (some .int) ∈ zW := zW_3 (i := 56) (by decide +kernel) (by decide +kernel)
theorem zw_3_57 : Cond.methodLink "CronFinder$Plan" 96 zy_D_yearOfMonth ∈ zW := zW_3 (i := 57) (by decide +kernel) (by decide +kernel)
theorem zw_3_58 : Cond.methodLink "CronFinder$Plan" 99 zy_D_lengthOfMonth ∈ zW := zW_3 (i := 58) (by decide +kernel) (by decide +kernel)
theorem zw_3_59 : Cond.static zy_D_lengthOfMonth ∈ zW := zW_3 (i := 59) (by decide +kernel) (by decide +kernel)
theorem zw_3_60 : Cond.code zy_D_lengthOfMonth prog_3_method_4_code 1 (some .int) ∈ zW := zW_3 (i := 60) (by decide +kernel) (by decide +kernel)
theorem zw_3_61 : Cond.methodLink "CronFinder$Plan" 93 zy_D_startOfMonth ∈ zW := zW_3 (i := 61) (by decide +kernel) (by decide +kernel)
theorem zw_3_62 : Cond.methodLink "CronFinder$Plan" 102 zy_D_weekdayOf ∈ zW := zW_3 (i := 62) (by decide +kernel) (by decide +kernel)
theorem zw_3_63 : Cond.static zy_D_weekdayOf ∈ zW := zW_3 (i := 63) (by decide +kernel) (by decide +kernel)
theorem zw_3_64 : Cond.code zy_D_weekdayOf prog_3_method_6_code 1 (some .int) ∈ zW := zW_3 (i := 64) (by decide +kernel) (by decide +kernel)
theorem zw_3_65 : Cond.fieldLink "CronFinder$Plan" 105 "CronFinder$1" "$SwitchMap$CronFinder$DayRule" "[I" ∈ zW := zW_3 (i := 65) (by decide +kernel) (by decide +kernel)
theorem zw_3_67 : Cond.methodLink "CronFinder$Plan" 111 ⟨"CronFinder$DayRule", "ordinal", "()I"⟩ ∈ zW := zW_3 (i := 67) (by decide +kernel) (by decide +kernel)
theorem zw_3_68 : Cond.sameMethod "CronFinder$DayRule" "java/lang/Enum" "ordinal" "()I" ∈ zW := zW_3 (i := 68) (by decide +kernel) (by decide +kernel)
theorem zw_3_70 : Cond.selects "CronFinder$DayRule" ⟨"CronFinder$DayRule", "ordinal", "()I"⟩ zy_JE_ordinal ∈ zW := zW_3 (i := 70) (by decide +kernel) (by decide +kernel)
theorem zw_3_71 : Cond.instanceMethod zy_JE_ordinal ∈ zW := zW_3 (i := 71) (by decide +kernel) (by decide +kernel)
theorem zw_3_72 : Cond.code zy_JE_ordinal prog_11_method_2_code 1 (some .int) ∈ zW := zW_3 (i := 72) (by decide +kernel) (by decide +kernel)
theorem zw_3_73 : Cond.methodLink "CronFinder$Plan" 114 zy_P_dayBit ∈ zW := zW_3 (i := 73) (by decide +kernel) (by decide +kernel)
theorem zw_3_75 : Cond.instanceMethod zy_P_dayBit ∈ zW := zW_3 (i := 75) (by decide +kernel) (by decide +kernel)
theorem zw_3_76 : Cond.code zy_P_dayBit prog_6_method_11_code 3 (some .int) ∈ zW := zW_3 (i := 76) (by decide +kernel) (by decide +kernel)
theorem zw_3_77 : Cond.methodLink "CronFinder$Plan" 118 zy_P_nearestWorkday ∈ zW := zW_3 (i := 77) (by decide +kernel) (by decide +kernel)
theorem zw_3_79 : Cond.instanceMethod zy_P_nearestWorkday ∈ zW := zW_3 (i := 79) (by decide +kernel) (by decide +kernel)
theorem zw_3_80 : Cond.code zy_P_nearestWorkday prog_6_method_14_code 5 (some .int) ∈ zW := zW_3 (i := 80) (by decide +kernel) (by decide +kernel)
theorem zw_3_81 : Cond.methodLink "CronFinder$Plan" 130 zy_P_weekdayIn ∈ zW := zW_3 (i := 81) (by decide +kernel) (by decide +kernel)
theorem zw_3_83 : Cond.instanceMethod zy_P_weekdayIn ∈ zW := zW_3 (i := 83) (by decide +kernel) (by decide +kernel)
theorem zw_3_84 : Cond.code zy_P_weekdayIn prog_6_method_13_code 3 (some .int) ∈ zW := zW_3 (i := 84) (by decide +kernel) (by decide +kernel)
theorem zw_3_85 : Cond.methodLink "CronFinder$Plan" 121 zy_P_listedWeekdays ∈ zW := zW_3 (i := 85) (by decide +kernel) (by decide +kernel)
theorem zw_3_87 : Cond.instanceMethod zy_P_listedWeekdays ∈ zW := zW_3 (i := 87) (by decide +kernel) (by decide +kernel)
theorem zw_3_88 : Cond.code zy_P_listedWeekdays prog_6_method_12_code 5 (some .int) ∈ zW := zW_3 (i := 88) (by decide +kernel) (by decide +kernel)
theorem zw_3_89 : Cond.methodLink "CronFinder$Plan" 124 zy_P_lastSubject ∈ zW := zW_3 (i := 89) (by decide +kernel) (by decide +kernel)
theorem zw_3_91 : Cond.instanceMethod zy_P_lastSubject ∈ zW := zW_3 (i := 91) (by decide +kernel) (by decide +kernel)
theorem zw_3_92 : Cond.code zy_P_lastSubject prog_6_method_16_code 3 (some .int) ∈ zW := zW_3 (i := 92) (by decide +kernel) (by decide +kernel)
theorem zw_3_93 : Cond.methodLink "CronFinder$Plan" 133 zy_JM_floorMod ∈ zW := zW_3 (i := 93) (by decide +kernel) (by decide +kernel)
theorem zw_3_94 : Cond.methodLink "CronFinder$Plan" 127 zy_P_firstSubject ∈ zW := zW_3 (i := 94) (by decide +kernel) (by decide +kernel)
theorem zw_3_96 : Cond.instanceMethod zy_P_firstSubject ∈ zW := zW_3 (i := 96) (by decide +kernel) (by decide +kernel)
theorem zw_3_97 : Cond.code zy_P_firstSubject prog_6_method_15_code 2 (some .int) ∈ zW := zW_3 (i := 97) (by decide +kernel) (by decide +kernel)
theorem zw_3_98 : Cond.methodLink "CronFinder" 136 zy_D_startOfMonth ∈ zW := zW_3 (i := 98) (by decide +kernel) (by decide +kernel)
theorem zw_3_99 : Cond.methodLink "CronFinder" 139 zy_JM_max ∈ zW := zW_3 (i := 99) (by decide +kernel) (by decide +kernel)
theorem zw_3_100 : Cond.methodLink "CronFinder" 103 zy_S_has ∈ zW := zW_3 (i := 100) (by decide +kernel) (by decide +kernel)
theorem zw_3_101 : Cond.methodLink "CronFinder" 106 zy_P_secondFrom ∈ zW := zW_3 (i := 101) (by decide +kernel) (by decide +kernel)
theorem zw_3_102 : Cond.instanceMethod zy_P_secondFrom ∈ zW := zW_3 (i := 102) (by decide +kernel) (by decide +kernel)
theorem zw_3_103 : Cond.selects "CronFinder$Plan" zy_P_secondFrom zy_P_secondFrom ∈ zW := zW_3 (i := 103) (by decide +kernel) (by decide +kernel)
theorem zw_3_104 : Cond.code zy_P_secondFrom prog_6_method_6_code 6 (some .int) ∈ zW := zW_3 (i := 104) (by decide +kernel) (by decide +kernel)
theorem zw_3_105 : Cond.methodLink "CronFinder$Plan" 76 zy_O_from ∈ zW := zW_3 (i := 105) (by decide +kernel) (by decide +kernel)
theorem zw_3_106 : Cond.instanceMethod zy_O_from ∈ zW := zW_3 (i := 106) (by decide +kernel) (by decide +kernel)
theorem zw_3_107 : Cond.selects "CronFinder$Row" zy_O_from zy_O_from ∈ zW := zW_3 (i := 107) (by decide +kernel) (by decide +kernel)
theorem zw_3_108 : Cond.code zy_O_from prog_8_method_8_code 3 (some .int) ∈ zW := zW_3 (i := 108) (by decide +kernel) (by decide +kernel)
theorem zw_3_109 : Cond.methodLink "CronFinder$Plan" 80 zy_P_secondOf ∈ zW := zW_3 (i := 109) (by decide +kernel) (by decide +kernel)
theorem zw_3_111 : Cond.instanceMethod zy_P_secondOf ∈ zW := zW_3 (i := 111) (by decide +kernel) (by decide +kernel)
theorem zw_3_112 : Cond.code zy_P_secondOf prog_6_method_8_code 4 (some .int) ∈ zW := zW_3 (i := 112) (by decide +kernel) (by decide +kernel)
theorem zw_3_113 : Cond.methodLink "CronFinder" 117 zy_F_timeOf ∈ zW := zW_3 (i := 113) (by decide +kernel) (by decide +kernel)
theorem zw_3_115 : Cond.instanceMethod zy_F_timeOf ∈ zW := zW_3 (i := 115) (by decide +kernel) (by decide +kernel)
theorem zw_3_116 : Cond.code zy_F_timeOf prog_1_method_15_code 3 (some .long) ∈ zW := zW_3 (i := 116) (by decide +kernel) (by decide +kernel)
theorem zw_3_117 : Cond.methodLink "CronFinderLaw" 77 zy_L_last ∈ zW := zW_3 (i := 117) (by decide +kernel) (by decide +kernel)
theorem zw_3_118 : Cond.static zy_L_last ∈ zW := zW_3 (i := 118) (by decide +kernel) (by decide +kernel)
theorem zw_3_119 : Cond.codeWith zy_L_last method_8_code 5 (some .int) [(0, 8, 11, 19)] ∈ zW := zW_3 (i := 119) (by decide +kernel) (by decide +kernel)
theorem zw_3_120 : Cond.methodLink "CronFinderLaw" 34 zy_F_last ∈ zW := zW_3 (i := 120) (by decide +kernel) (by decide +kernel)
theorem zw_3_121 : Cond.instanceMethod zy_F_last ∈ zW := zW_3 (i := 121) (by decide +kernel) (by decide +kernel)
theorem zw_3_122 : Cond.selects "CronFinder" zy_F_last zy_F_last ∈ zW := zW_3 (i := 122) (by decide +kernel) (by decide +kernel)
theorem zw_3_123 : Cond.code zy_F_last prog_1_method_7_code 3 (some .long) ∈ zW := zW_3 (i := 123) (by decide +kernel) (by decide +kernel)
theorem zw_3_124 : Cond.methodLink "CronFinder" 91 zy_F_fireNotBehind ∈ zW := zW_3 (i := 124) (by decide +kernel) (by decide +kernel)
theorem zw_3_126 : Cond.instanceMethod zy_F_fireNotBehind ∈ zW := zW_3 (i := 126) (by decide +kernel) (by decide +kernel)
theorem zw_3_127 : Cond.code zy_F_fireNotBehind prog_1_method_14_code 6 (some .long) ∈ zW := zW_3 (i := 127) (by decide +kernel) (by decide +kernel)
theorem zw_3_128 : Cond.methodLink "CronFinder" 121 zy_F_firingDayBackFrom ∈ zW := zW_3 (i := 128) (by decide +kernel) (by decide +kernel)
theorem zw_3_130 : Cond.instanceMethod zy_F_firingDayBackFrom ∈ zW := zW_3 (i := 130) (by decide +kernel) (by decide +kernel)
theorem zw_3_131 : Cond.code zy_F_firingDayBackFrom prog_1_method_17_code 6 (some .int) ∈ zW := zW_3 (i := 131) (by decide +kernel) (by decide +kernel)
theorem zw_3_132 : Cond.methodLink "CronFinder" 145 zy_JM_min ∈ zW := zW_3 (i := 132) (by decide +kernel) (by decide +kernel)
theorem zw_3_133 : Cond.methodLink "CronFinder" 124 zy_P_secondBackFrom ∈ zW := zW_3 (i := 133) (by decide +kernel) (by decide +kernel)
theorem zw_3_134 : Cond.instanceMethod zy_P_secondBackFrom ∈ zW := zW_3 (i := 134) (by decide +kernel) (by decide +kernel)
theorem zw_3_135 : Cond.selects "CronFinder$Plan" zy_P_secondBackFrom zy_P_secondBackFrom ∈ zW := zW_3 (i := 135) (by decide +kernel) (by decide +kernel)
theorem zw_3_136 : Cond.code zy_P_secondBackFrom prog_6_method_7_code 6 (some .int) ∈ zW := zW_3 (i := 136) (by decide +kernel) (by decide +kernel)
theorem zw_3_137 : Cond.methodLink "CronFinder$Plan" 84 zy_O_backFrom ∈ zW := zW_3 (i := 137) (by decide +kernel) (by decide +kernel)
theorem zw_3_138 : Cond.instanceMethod zy_O_backFrom ∈ zW := zW_3 (i := 138) (by decide +kernel) (by decide +kernel)
theorem zw_3_139 : Cond.selects "CronFinder$Row" zy_O_backFrom zy_O_backFrom ∈ zW := zW_3 (i := 139) (by decide +kernel) (by decide +kernel)
theorem zw_3_140 : Cond.code zy_O_backFrom prog_8_method_9_code 3 (some .int) ∈ zW := zW_3 (i := 140) (by decide +kernel) (by decide +kernel)
theorem zw_3_141 : Cond.methodLink "CronFinder$Row" 35 zy_JM_min ∈ zW := zW_3 (i := 141) (by decide +kernel) (by decide +kernel)
theorem zw_3_142 : Cond.constant "CronFinder" 127 (86399 : Int32) ∈ zW := zW_3 (i := 142) (by decide +kernel) (by decide +kernel)
theorem zw_3_143 : Cond.methodLink "CronFinderLaw" 80 zy_L_later ∈ zW := zW_3 (i := 143) (by decide +kernel) (by decide +kernel)
theorem zw_3_144 : Cond.static zy_L_later ∈ zW := zW_3 (i := 144) (by decide +kernel) (by decide +kernel)
theorem zw_3_145 : Cond.codeWith zy_L_later method_9_code 6 (some .int) [(0, 10, 13, 19)] ∈ zW := zW_3 (i := 145) (by decide +kernel) (by decide +kernel)
theorem zw_3_146 : Cond.methodLink "CronFinderLaw" 37 zy_F_later ∈ zW := zW_3 (i := 146) (by decide +kernel) (by decide +kernel)
theorem zw_3_147 : Cond.instanceMethod zy_F_later ∈ zW := zW_3 (i := 147) (by decide +kernel) (by decide +kernel)
theorem zw_3_148 : Cond.selects "CronFinder" zy_F_later zy_F_later ∈ zW := zW_3 (i := 148) (by decide +kernel) (by decide +kernel)
theorem zw_3_149 : Cond.code zy_F_later prog_1_method_8_code 7 (some .long) ∈ zW := zW_3 (i := 149) (by decide +kernel) (by decide +kernel)
theorem zw_3_151 : Cond.methodLink "CronFinderLaw" 84 zy_L_is ∈ zW := zW_3 (i := 151) (by decide +kernel) (by decide +kernel)
theorem zw_3_152 : Cond.static zy_L_is ∈ zW := zW_3 (i := 152) (by decide +kernel) (by decide +kernel)
theorem zw_3_153 : Cond.codeWith zy_L_is method_10_code 5 (some .int) [(0, 16, 19, 19)] ∈ zW := zW_3 (i := 153) (by decide +kernel) (by decide +kernel)
theorem zw_3_154 : Cond.methodLink "CronFinderLaw" 41 zy_F_is ∈ zW := zW_3 (i := 154) (by decide +kernel) (by decide +kernel)
theorem zw_3_155 : Cond.instanceMethod zy_F_is ∈ zW := zW_3 (i := 155) (by decide +kernel) (by decide +kernel)
theorem zw_3_156 : Cond.selects "CronFinder" zy_F_is zy_F_is ∈ zW := zW_3 (i := 156) (by decide +kernel) (by decide +kernel)
theorem zw_3_157 : Cond.code zy_F_is prog_1_method_9_code 5 (some .boolean) ∈ zW := zW_3 (i := 157) (by decide +kernel) (by decide +kernel)
theorem zw_3_158 : Cond.methodLink "CronFinder" 100 zy_P_firesOn ∈ zW := zW_3 (i := 158) (by decide +kernel) (by decide +kernel)
theorem zw_3_159 : Cond.instanceMethod zy_P_firesOn ∈ zW := zW_3 (i := 159) (by decide +kernel) (by decide +kernel)
theorem zw_3_160 : Cond.selects "CronFinder$Plan" zy_P_firesOn zy_P_firesOn ∈ zW := zW_3 (i := 160) (by decide +kernel) (by decide +kernel)
theorem zw_3_161 : Cond.code zy_P_firesOn prog_6_method_9_code 3 (some .boolean) ∈ zW := zW_3 (i := 161) (by decide +kernel) (by decide +kernel)
theorem zw_3_162 : Cond.methodLink "CronFinder$Plan" 87 zy_D_monthOf ∈ zW := zW_3 (i := 162) (by decide +kernel) (by decide +kernel)
theorem zw_3_163 : Cond.methodLink "CronFinder$Plan" 90 zy_P_daysOf ∈ zW := zW_3 (i := 163) (by decide +kernel) (by decide +kernel)
theorem zw_3_164 : Cond.classLink "CronFinderLaw" 46 "CronFinderModel" ∈ zW := zW_3 (i := 164) (by decide +kernel) (by decide +kernel)
theorem zw_3_165 : Cond.instantiable "CronFinderModel" 21 ∈ zW := zW_3 (i := 165) (by decide +kernel) (by decide +kernel)
theorem zw_3_166 : Cond.methodLink "CronFinderLaw" 48 zy_Q_init ∈ zW := zW_3 (i := 166) (by decide +kernel) (by decide +kernel)
theorem zw_3_167 : Cond.instanceMethod zy_Q_init ∈ zW := zW_3 (i := 167) (by decide +kernel) (by decide +kernel)
theorem zw_3_168 : Cond.code zy_Q_init prog_10_method_1_code 1 none ∈ zW := zW_3 (i := 168) (by decide +kernel) (by decide +kernel)
theorem zw_3_169 : Cond.methodLink "CronFinderModel" 1 objectInit ∈ zW := zW_3 (i := 169) (by decide +kernel) (by decide +kernel)
theorem zw_3_170 : Cond.classLink "CronFinderModel" 17 "[[[Z" ∈ zW := zW_3 (i := 170) (by decide +kernel) (by decide +kernel)
theorem zw_3_173 : Cond.classLink "CronFinderModel" 22 "[[Z" ∈ zW := zW_3 (i := 173) (by decide +kernel) (by decide +kernel)
theorem zw_3_174 : Cond.classLink "CronFinderModel" 31 "[[I" ∈ zW := zW_3 (i := 174) (by decide +kernel) (by decide +kernel)
theorem zw_3_176 : Cond.classLink "CronFinderModel" 42 "java/lang/String" ∈ zW := zW_3 (i := 176) (by decide +kernel) (by decide +kernel)
theorem zw_3_197 : Cond.constant "CronFinderModel" 89 (120530 : Int32) ∈ zW := zW_3 (i := 197) (by decide +kernel) (by decide +kernel)
theorem zw_3_198 : Cond.fieldLink "CronFinderModel" 93 "CronFinderModel" "failed" "I" ∈ zW := zW_3 (i := 198) (by decide +kernel) (by decide +kernel)
theorem zw_3_199 : Cond.fieldLink "CronFinderModel" 7 "CronFinderModel" "tape" "[B" ∈ zW := zW_3 (i := 199) (by decide +kernel) (by decide +kernel)
theorem zw_3_200 : Cond.fieldLink "CronFinderModel" 130 "CronFinderModel" "taped" "I" ∈ zW := zW_3 (i := 200) (by decide +kernel) (by decide +kernel)
theorem zw_3_201 : Cond.fieldLink "CronFinderModel" 13 "CronFinderModel" "place" "I" ∈ zW := zW_3 (i := 201) (by decide +kernel) (by decide +kernel)
theorem zw_3_202 : Cond.fieldLink "CronFinderModel" 109 "CronFinderModel" "year" "I" ∈ zW := zW_3 (i := 202) (by decide +kernel) (by decide +kernel)
theorem zw_3_203 : Cond.fieldLink "CronFinderModel" 115 "CronFinderModel" "month" "I" ∈ zW := zW_3 (i := 203) (by decide +kernel) (by decide +kernel)
theorem zw_3_204 : Cond.fieldLink "CronFinderModel" 118 "CronFinderModel" "day" "I" ∈ zW := zW_3 (i := 204) (by decide +kernel) (by decide +kernel)
theorem zw_3_205 : Cond.fieldLink "CronFinderModel" 127 "CronFinderModel" "at" "I" ∈ zW := zW_3 (i := 205) (by decide +kernel) (by decide +kernel)
theorem zw_3_206 : Cond.fieldLink "CronFinderModel" 19 "CronFinderModel" "sets" "[[[Z" ∈ zW := zW_3 (i := 206) (by decide +kernel) (by decide +kernel)
theorem zw_3_207 : Cond.fieldLink "CronFinderModel" 24 "CronFinderModel" "trial" "[[Z" ∈ zW := zW_3 (i := 207) (by decide +kernel) (by decide +kernel)
theorem zw_3_208 : Cond.fieldLink "CronFinderModel" 27 "CronFinderModel" "told" "[Z" ∈ zW := zW_3 (i := 208) (by decide +kernel) (by decide +kernel)
theorem zw_3_209 : Cond.fieldLink "CronFinderModel" 33 "CronFinderModel" "ways" "[[I" ∈ zW := zW_3 (i := 209) (by decide +kernel) (by decide +kernel)
theorem zw_3_210 : Cond.fieldLink "CronFinderModel" 36 "CronFinderModel" "first" "[[I" ∈ zW := zW_3 (i := 210) (by decide +kernel) (by decide +kernel)
theorem zw_3_211 : Cond.fieldLink "CronFinderModel" 39 "CronFinderModel" "second" "[[I" ∈ zW := zW_3 (i := 211) (by decide +kernel) (by decide +kernel)
theorem zw_3_212 : Cond.fieldLink "CronFinderModel" 173 "CronFinderModel" "way" "I" ∈ zW := zW_3 (i := 212) (by decide +kernel) (by decide +kernel)
theorem zw_3_213 : Cond.fieldLink "CronFinderModel" 176 "CronFinderModel" "one" "I" ∈ zW := zW_3 (i := 213) (by decide +kernel) (by decide +kernel)
theorem zw_3_214 : Cond.fieldLink "CronFinderModel" 179 "CronFinderModel" "two" "I" ∈ zW := zW_3 (i := 214) (by decide +kernel) (by decide +kernel)
theorem zw_3_215 : Cond.fieldLink "CronFinderModel" 68 "CronFinderModel" "months" "[Ljava/lang/String;" ∈ zW := zW_3 (i := 215) (by decide +kernel) (by decide +kernel)
theorem zw_3_216 : Cond.fieldLink "CronFinderModel" 86 "CronFinderModel" "weekdays" "[Ljava/lang/String;" ∈ zW := zW_3 (i := 216) (by decide +kernel) (by decide +kernel)
theorem zw_3_217 : Cond.fieldLink "CronFinderModel" 90 "CronFinderModel" "holidays" "[Z" ∈ zW := zW_3 (i := 217) (by decide +kernel) (by decide +kernel)
theorem zw_3_218 : Cond.fieldLink "CronFinderModel" 206 "CronFinderModel" "holidayCount" "I" ∈ zW := zW_3 (i := 218) (by decide +kernel) (by decide +kernel)
theorem zw_3_219 : Cond.lays "CronFinderModel" "CronFinderModel" "failed" "I" ∈ zW := zW_3 (i := 219) (by decide +kernel) (by decide +kernel)
theorem zw_3_221 : Cond.laysFinal "CronFinderModel" "CronFinderModel" "tape" "[B" ∈ zW := zW_3 (i := 221) (by decide +kernel) (by decide +kernel)
theorem zw_3_223 : Cond.lays "CronFinderModel" "CronFinderModel" "taped" "I" ∈ zW := zW_3 (i := 223) (by decide +kernel) (by decide +kernel)
theorem zw_3_225 : Cond.lays "CronFinderModel" "CronFinderModel" "place" "I" ∈ zW := zW_3 (i := 225) (by decide +kernel) (by decide +kernel)
theorem zw_3_227 : Cond.lays "CronFinderModel" "CronFinderModel" "year" "I" ∈ zW := zW_3 (i := 227) (by decide +kernel) (by decide +kernel)
theorem zw_3_229 : Cond.lays "CronFinderModel" "CronFinderModel" "month" "I" ∈ zW := zW_3 (i := 229) (by decide +kernel) (by decide +kernel)
theorem zw_3_231 : Cond.lays "CronFinderModel" "CronFinderModel" "day" "I" ∈ zW := zW_3 (i := 231) (by decide +kernel) (by decide +kernel)
theorem zw_3_233 : Cond.lays "CronFinderModel" "CronFinderModel" "at" "I" ∈ zW := zW_3 (i := 233) (by decide +kernel) (by decide +kernel)
theorem zw_3_235 : Cond.laysFinal "CronFinderModel" "CronFinderModel" "sets" "[[[Z" ∈ zW := zW_3 (i := 235) (by decide +kernel) (by decide +kernel)
theorem zw_3_237 : Cond.laysFinal "CronFinderModel" "CronFinderModel" "trial" "[[Z" ∈ zW := zW_3 (i := 237) (by decide +kernel) (by decide +kernel)
theorem zw_3_239 : Cond.laysFinal "CronFinderModel" "CronFinderModel" "told" "[Z" ∈ zW := zW_3 (i := 239) (by decide +kernel) (by decide +kernel)
theorem zw_4_1 : Cond.laysFinal "CronFinderModel" "CronFinderModel" "ways" "[[I" ∈ zW := zW_4 (i := 1) (by decide +kernel) (by decide +kernel)
theorem zw_4_3 : Cond.laysFinal "CronFinderModel" "CronFinderModel" "first" "[[I" ∈ zW := zW_4 (i := 3) (by decide +kernel) (by decide +kernel)
theorem zw_4_5 : Cond.laysFinal "CronFinderModel" "CronFinderModel" "second" "[[I" ∈ zW := zW_4 (i := 5) (by decide +kernel) (by decide +kernel)
theorem zw_4_7 : Cond.lays "CronFinderModel" "CronFinderModel" "way" "I" ∈ zW := zW_4 (i := 7) (by decide +kernel) (by decide +kernel)
theorem zw_4_9 : Cond.lays "CronFinderModel" "CronFinderModel" "one" "I" ∈ zW := zW_4 (i := 9) (by decide +kernel) (by decide +kernel)
theorem zw_4_11 : Cond.lays "CronFinderModel" "CronFinderModel" "two" "I" ∈ zW := zW_4 (i := 11) (by decide +kernel) (by decide +kernel)
theorem zw_4_13 : Cond.laysFinal "CronFinderModel" "CronFinderModel" "months" "[Ljava/lang/String;" ∈ zW := zW_4 (i := 13) (by decide +kernel) (by decide +kernel)
theorem zw_4_15 : Cond.laysFinal "CronFinderModel" "CronFinderModel" "weekdays" "[Ljava/lang/String;" ∈ zW := zW_4 (i := 15) (by decide +kernel) (by decide +kernel)
theorem zw_4_17 : Cond.laysFinal "CronFinderModel" "CronFinderModel" "holidays" "[Z" ∈ zW := zW_4 (i := 17) (by decide +kernel) (by decide +kernel)
theorem zw_4_19 : Cond.lays "CronFinderModel" "CronFinderModel" "holidayCount" "I" ∈ zW := zW_4 (i := 19) (by decide +kernel) (by decide +kernel)
theorem zw_4_21 : Cond.superclass "CronFinderModel" "java/lang/Object" ∈ zW := zW_4 (i := 21) (by decide +kernel) (by decide +kernel)
theorem zw_4_22 : Cond.methodLink "CronFinderLaw" 55 zy_Q_thrown ∈ zW := zW_4 (i := 22) (by decide +kernel) (by decide +kernel)
theorem zw_4_23 : Cond.instanceMethod zy_Q_thrown ∈ zW := zW_4 (i := 23) (by decide +kernel) (by decide +kernel)
theorem zw_4_24 : Cond.selects "CronFinderModel" zy_Q_thrown zy_Q_thrown ∈ zW := zW_4 (i := 24) (by decide +kernel) (by decide +kernel)
theorem zw_4_25 : Cond.code zy_Q_thrown prog_10_method_2_code 1 (some .int) ∈ zW := zW_4 (i := 25) (by decide +kernel) (by decide +kernel)
theorem zw_4_26 : Cond.methodLink "CronFinderLaw" 66 zy_Q_cron ∈ zW := zW_4 (i := 26) (by decide +kernel) (by decide +kernel)
theorem zw_4_27 : Cond.instanceMethod zy_Q_cron ∈ zW := zW_4 (i := 27) (by decide +kernel) (by decide +kernel)
theorem zw_4_28 : Cond.selects "CronFinderModel" zy_Q_cron zy_Q_cron ∈ zW := zW_4 (i := 28) (by decide +kernel) (by decide +kernel)
theorem zw_4_29 : Cond.codeWith zy_Q_cron prog_10_method_25_code 2 none [(10, 15, 18, 124)] ∈ zW := zW_4 (i := 29) (by decide +kernel) (by decide +kernel)
theorem zw_4_30 : Cond.classLink "CronFinderModel" 124 "java/lang/UnsupportedOperationException" ∈ zW := zW_4 (i := 30) (by decide +kernel) (by decide +kernel)
theorem zw_4_31 : Cond.methodLink "CronFinderModel" 200 zy_Q_readCron ∈ zW := zW_4 (i := 31) (by decide +kernel) (by decide +kernel)
theorem zw_4_33 : Cond.instanceMethod zy_Q_readCron ∈ zW := zW_4 (i := 33) (by decide +kernel) (by decide +kernel)
theorem zw_4_34 : Cond.code zy_Q_readCron prog_10_method_20_code 5 none ∈ zW := zW_4 (i := 34) (by decide +kernel) (by decide +kernel)
theorem zw_4_35 : Cond.methodLink "CronFinderModel" 185 zy_Q_blanks ∈ zW := zW_4 (i := 35) (by decide +kernel) (by decide +kernel)
theorem zw_4_37 : Cond.instanceMethod zy_Q_blanks ∈ zW := zW_4 (i := 37) (by decide +kernel) (by decide +kernel)
theorem zw_4_38 : Cond.code zy_Q_blanks prog_10_method_13_code 1 none ∈ zW := zW_4 (i := 38) (by decide +kernel) (by decide +kernel)
theorem zw_4_39 : Cond.methodLink "CronFinderModel" 133 zy_Q_peek ∈ zW := zW_4 (i := 39) (by decide +kernel) (by decide +kernel)
theorem zw_4_41 : Cond.instanceMethod zy_Q_peek ∈ zW := zW_4 (i := 41) (by decide +kernel) (by decide +kernel)
theorem zw_4_42 : Cond.code zy_Q_peek prog_10_method_10_code 1 (some .int) ∈ zW := zW_4 (i := 42) (by decide +kernel) (by decide +kernel)
theorem zw_4_43 : Cond.methodLink "CronFinderModel" 137 zy_Q_bad ∈ zW := zW_4 (i := 43) (by decide +kernel) (by decide +kernel)
theorem zw_4_45 : Cond.instanceMethod zy_Q_bad ∈ zW := zW_4 (i := 45) (by decide +kernel) (by decide +kernel)
theorem zw_4_46 : Cond.code zy_Q_bad prog_10_method_9_code 2 none ∈ zW := zW_4 (i := 46) (by decide +kernel) (by decide +kernel)
theorem zw_4_47 : Cond.methodLink "CronFinderModel" 126 zy_JV_init_ ∈ zW := zW_4 (i := 47) (by decide +kernel) (by decide +kernel)
theorem zw_4_48 : Cond.instanceMethod zy_JV_init_ ∈ zW := zW_4 (i := 48) (by decide +kernel) (by decide +kernel)
theorem zw_4_49 : Cond.code zy_JV_init_ prog_23_method_1_code 1 none ∈ zW := zW_4 (i := 49) (by decide +kernel) (by decide +kernel)
theorem zw_4_50 : Cond.methodLink "java/lang/UnsupportedOperationException" 1 zy_JR_init_ ∈ zW := zW_4 (i := 50) (by decide +kernel) (by decide +kernel)
theorem zw_4_51 : Cond.instanceMethod zy_JR_init_ ∈ zW := zW_4 (i := 51) (by decide +kernel) (by decide +kernel)
theorem zw_4_52 : Cond.code zy_JR_init_ prog_17_method_1_code 1 none ∈ zW := zW_4 (i := 52) (by decide +kernel) (by decide +kernel)
theorem zw_4_53 : Cond.methodLink "java/lang/RuntimeException" 1 zy_JX_init_ ∈ zW := zW_4 (i := 53) (by decide +kernel) (by decide +kernel)
theorem zw_4_54 : Cond.instanceMethod zy_JX_init_ ∈ zW := zW_4 (i := 54) (by decide +kernel) (by decide +kernel)
theorem zw_4_55 : Cond.code zy_JX_init_ prog_12_method_1_code 1 none ∈ zW := zW_4 (i := 55) (by decide +kernel) (by decide +kernel)
theorem zw_4_56 : Cond.methodLink "java/lang/Exception" 1 zy_JT_init ∈ zW := zW_4 (i := 56) (by decide +kernel) (by decide +kernel)
theorem zw_4_57 : Cond.methodLink "CronFinderModel" 188 zy_Q_field ∈ zW := zW_4 (i := 57) (by decide +kernel) (by decide +kernel)
theorem zw_4_59 : Cond.instanceMethod zy_Q_field ∈ zW := zW_4 (i := 59) (by decide +kernel) (by decide +kernel)
theorem zw_4_60 : Cond.code zy_Q_field prog_10_method_19_code 3 none ∈ zW := zW_4 (i := 60) (by decide +kernel) (by decide +kernel)
theorem zw_4_61 : Cond.methodLink "CronFinderModel" 162 zy_Q_ranged ∈ zW := zW_4 (i := 61) (by decide +kernel) (by decide +kernel)
theorem zw_4_63 : Cond.instanceMethod zy_Q_ranged ∈ zW := zW_4 (i := 63) (by decide +kernel) (by decide +kernel)
theorem zw_4_64 : Cond.code zy_Q_ranged prog_10_method_14_code 5 (some .int) ∈ zW := zW_4 (i := 64) (by decide +kernel) (by decide +kernel)
theorem zw_4_65 : Cond.methodLink "CronFinderModel" 141 zy_Q_digit ∈ zW := zW_4 (i := 65) (by decide +kernel) (by decide +kernel)
theorem zw_4_66 : Cond.static zy_Q_digit ∈ zW := zW_4 (i := 66) (by decide +kernel) (by decide +kernel)
theorem zw_4_67 : Cond.code zy_Q_digit prog_10_method_11_code 1 (some .boolean) ∈ zW := zW_4 (i := 67) (by decide +kernel) (by decide +kernel)
theorem zw_4_68 : Cond.constant "CronFinderModel" 144 (100000 : Int32) ∈ zW := zW_4 (i := 68) (by decide +kernel) (by decide +kernel)
theorem zw_4_69 : Cond.methodLink "CronFinderModel" 145 zy_JM_min ∈ zW := zW_4 (i := 69) (by decide +kernel) (by decide +kernel)
theorem zw_4_70 : Cond.methodLink "CronFinderModel" 182 zy_Q_items ∈ zW := zW_4 (i := 70) (by decide +kernel) (by decide +kernel)
theorem zw_4_72 : Cond.instanceMethod zy_Q_items ∈ zW := zW_4 (i := 72) (by decide +kernel) (by decide +kernel)
theorem zw_4_73 : Cond.code zy_Q_items prog_10_method_17_code 11 none ∈ zW := zW_4 (i := 73) (by decide +kernel) (by decide +kernel)
theorem zw_4_74 : Cond.fieldLink "CronFinderModel" 155 "CronFinderModel" "LEAST" "[I" ∈ zW := zW_4 (i := 74) (by decide +kernel) (by decide +kernel)
theorem zw_4_76 : Cond.fieldLink "CronFinderModel" 159 "CronFinderModel" "MOSTS" "[I" ∈ zW := zW_4 (i := 76) (by decide +kernel) (by decide +kernel)
theorem zw_4_78 : Cond.methodLink "CronFinderModel" 165 zy_Q_value ∈ zW := zW_4 (i := 78) (by decide +kernel) (by decide +kernel)
theorem zw_4_80 : Cond.instanceMethod zy_Q_value ∈ zW := zW_4 (i := 80) (by decide +kernel) (by decide +kernel)
theorem zw_4_81 : Cond.code zy_Q_value prog_10_method_16_code 6 (some .int) ∈ zW := zW_4 (i := 81) (by decide +kernel) (by decide +kernel)
theorem zw_4_82 : Cond.methodLink "CronFinderModel" 148 zy_Q_letter ∈ zW := zW_4 (i := 82) (by decide +kernel) (by decide +kernel)
theorem zw_4_83 : Cond.static zy_Q_letter ∈ zW := zW_4 (i := 83) (by decide +kernel) (by decide +kernel)
theorem zw_4_84 : Cond.code zy_Q_letter prog_10_method_15_code 1 (some .boolean) ∈ zW := zW_4 (i := 84) (by decide +kernel) (by decide +kernel)
theorem zw_4_85 : Cond.methodLink "CronFinderModel" 151 zy_JS_charAt ∈ zW := zW_4 (i := 85) (by decide +kernel) (by decide +kernel)
theorem zw_4_86 : Cond.methodLink "CronFinderModel" 169 zy_Q_special2 ∈ zW := zW_4 (i := 86) (by decide +kernel) (by decide +kernel)
theorem zw_4_88 : Cond.instanceMethod zy_Q_special2 ∈ zW := zW_4 (i := 88) (by decide +kernel) (by decide +kernel)
theorem zw_4_89 : Cond.code zy_Q_special2 prog_10_method_18_code 3 (some .boolean) ∈ zW := zW_4 (i := 89) (by decide +kernel) (by decide +kernel)
theorem zw_4_90 : Cond.methodLink "CronFinderModel" 121 zy_JM_floorMod ∈ zW := zW_4 (i := 90) (by decide +kernel) (by decide +kernel)
theorem zw_4_91 : Cond.methodLink "CronFinderLaw" 70 zy_Q_holiday ∈ zW := zW_4 (i := 91) (by decide +kernel) (by decide +kernel)
theorem zw_4_92 : Cond.instanceMethod zy_Q_holiday ∈ zW := zW_4 (i := 92) (by decide +kernel) (by decide +kernel)
theorem zw_4_93 : Cond.selects "CronFinderModel" zy_Q_holiday zy_Q_holiday ∈ zW := zW_4 (i := 93) (by decide +kernel) (by decide +kernel)
theorem zw_4_94 : Cond.code zy_Q_holiday prog_10_method_26_code 3 (some .int) ∈ zW := zW_4 (i := 94) (by decide +kernel) (by decide +kernel)
theorem zw_4_95 : Cond.constant "CronFinderModel" 197 (120529 : Int32) ∈ zW := zW_4 (i := 95) (by decide +kernel) (by decide +kernel)
theorem zw_4_96 : Cond.methodLink "CronFinderModel" 203 zy_Q_fail ∈ zW := zW_4 (i := 96) (by decide +kernel) (by decide +kernel)
theorem zw_4_98 : Cond.instanceMethod zy_Q_fail ∈ zW := zW_4 (i := 98) (by decide +kernel) (by decide +kernel)
theorem zw_4_99 : Cond.code zy_Q_fail prog_10_method_3_code 2 (some .int) ∈ zW := zW_4 (i := 99) (by decide +kernel) (by decide +kernel)
theorem zw_4_100 : Cond.methodLink "CronFinderLaw" 76 zy_Q_next ∈ zW := zW_4 (i := 100) (by decide +kernel) (by decide +kernel)
theorem zw_4_101 : Cond.instanceMethod zy_Q_next ∈ zW := zW_4 (i := 101) (by decide +kernel) (by decide +kernel)
theorem zw_4_102 : Cond.selects "CronFinderModel" zy_Q_next zy_Q_next ∈ zW := zW_4 (i := 102) (by decide +kernel) (by decide +kernel)
theorem zw_4_103 : Cond.code zy_Q_next prog_10_method_30_code 3 (some .long) ∈ zW := zW_4 (i := 103) (by decide +kernel) (by decide +kernel)
theorem zw_4_104 : Cond.methodLink "CronFinderModel" 224 zy_Q_out ∈ zW := zW_4 (i := 104) (by decide +kernel) (by decide +kernel)
theorem zw_4_106 : Cond.instanceMethod zy_Q_out ∈ zW := zW_4 (i := 106) (by decide +kernel) (by decide +kernel)
theorem zw_4_107 : Cond.code zy_Q_out prog_10_method_29_code 3 (some .boolean) ∈ zW := zW_4 (i := 107) (by decide +kernel) (by decide +kernel)
theorem zw_4_108 : Cond.constantLong "CronFinderModel" 211 (10413791999 : Int64) ∈ zW := zW_4 (i := 108) (by decide +kernel) (by decide +kernel)
theorem zw_4_109 : Cond.methodLink "CronFinderModel" 228 zy_Q_after ∈ zW := zW_4 (i := 109) (by decide +kernel) (by decide +kernel)
theorem zw_4_111 : Cond.instanceMethod zy_Q_after ∈ zW := zW_4 (i := 111) (by decide +kernel) (by decide +kernel)
theorem zw_4_112 : Cond.code zy_Q_after prog_10_method_27_code 7 (some .long) ∈ zW := zW_4 (i := 112) (by decide +kernel) (by decide +kernel)
theorem zw_4_113 : Cond.constantLong "CronFinderModel" 209 (-1 : Int64) ∈ zW := zW_4 (i := 113) (by decide +kernel) (by decide +kernel)
theorem zw_4_114 : Cond.constantLong "CronFinderModel" 213 (86400 : Int64) ∈ zW := zW_4 (i := 114) (by decide +kernel) (by decide +kernel)
theorem zw_4_115 : Cond.methodLink "CronFinderModel" 215 zy_Q_dayFits ∈ zW := zW_4 (i := 115) (by decide +kernel) (by decide +kernel)
theorem zw_4_117 : Cond.instanceMethod zy_Q_dayFits ∈ zW := zW_4 (i := 117) (by decide +kernel) (by decide +kernel)
theorem zw_4_118 : Cond.code zy_Q_dayFits prog_10_method_22_code 4 (some .boolean) ∈ zW := zW_4 (i := 118) (by decide +kernel) (by decide +kernel)
theorem zw_4_119 : Cond.methodLink "CronFinderModel" 194 zy_Q_date ∈ zW := zW_4 (i := 119) (by decide +kernel) (by decide +kernel)
theorem zw_4_121 : Cond.instanceMethod zy_Q_date ∈ zW := zW_4 (i := 121) (by decide +kernel) (by decide +kernel)
theorem zw_4_122 : Cond.code zy_Q_date prog_10_method_7_code 3 none ∈ zW := zW_4 (i := 122) (by decide +kernel) (by decide +kernel)
theorem zw_4_123 : Cond.methodLink "CronFinderModel" 104 zy_JM_floorDiv ∈ zW := zW_4 (i := 123) (by decide +kernel) (by decide +kernel)
theorem zw_4_124 : Cond.static zy_JM_floorDiv ∈ zW := zW_4 (i := 124) (by decide +kernel) (by decide +kernel)
theorem zw_4_125 : Cond.code zy_JM_floorDiv prog_16_method_47_code 3 (some .int) ∈ zW := zW_4 (i := 125) (by decide +kernel) (by decide +kernel)
theorem zw_4_126 : Cond.methodLink "CronFinderModel" 112 zy_Q_number ∈ zW := zW_4 (i := 126) (by decide +kernel) (by decide +kernel)
theorem zw_4_127 : Cond.static zy_Q_number ∈ zW := zW_4 (i := 127) (by decide +kernel) (by decide +kernel)
theorem zw_4_128 : Cond.code zy_Q_number prog_10_method_6_code 5 (some .int) ∈ zW := zW_4 (i := 128) (by decide +kernel) (by decide +kernel)
theorem zw_4_129 : Cond.methodLink "CronFinderModel" 100 zy_Q_length ∈ zW := zW_4 (i := 129) (by decide +kernel) (by decide +kernel)
theorem zw_4_130 : Cond.static zy_Q_length ∈ zW := zW_4 (i := 130) (by decide +kernel) (by decide +kernel)
theorem zw_4_131 : Cond.code zy_Q_length prog_10_method_5_code 2 (some .int) ∈ zW := zW_4 (i := 131) (by decide +kernel) (by decide +kernel)
theorem zw_4_132 : Cond.methodLink "CronFinderModel" 96 zy_Q_leap ∈ zW := zW_4 (i := 132) (by decide +kernel) (by decide +kernel)
theorem zw_4_133 : Cond.static zy_Q_leap ∈ zW := zW_4 (i := 133) (by decide +kernel) (by decide +kernel)
theorem zw_4_134 : Cond.code zy_Q_leap prog_10_method_4_code 1 (some .boolean) ∈ zW := zW_4 (i := 134) (by decide +kernel) (by decide +kernel)
theorem zw_4_135 : Cond.methodLink "CronFinderModel" 198 zy_Q_special1 ∈ zW := zW_4 (i := 135) (by decide +kernel) (by decide +kernel)
theorem zw_4_137 : Cond.instanceMethod zy_Q_special1 ∈ zW := zW_4 (i := 137) (by decide +kernel) (by decide +kernel)
theorem zw_4_138 : Cond.code zy_Q_special1 prog_10_method_21_code 6 (some .int) ∈ zW := zW_4 (i := 138) (by decide +kernel) (by decide +kernel)
theorem zw_4_139 : Cond.methodLink "CronFinderModel" 191 zy_Q_weekday ∈ zW := zW_4 (i := 139) (by decide +kernel) (by decide +kernel)
theorem zw_4_140 : Cond.static zy_Q_weekday ∈ zW := zW_4 (i := 140) (by decide +kernel) (by decide +kernel)
theorem zw_4_141 : Cond.code zy_Q_weekday prog_10_method_8_code 1 (some .int) ∈ zW := zW_4 (i := 141) (by decide +kernel) (by decide +kernel)
theorem zw_4_142 : Cond.methodLink "CronFinderModel" 218 zy_Q_secondFrom ∈ zW := zW_4 (i := 142) (by decide +kernel) (by decide +kernel)
theorem zw_4_144 : Cond.instanceMethod zy_Q_secondFrom ∈ zW := zW_4 (i := 144) (by decide +kernel) (by decide +kernel)
theorem zw_4_145 : Cond.code zy_Q_secondFrom prog_10_method_23_code 6 (some .int) ∈ zW := zW_4 (i := 145) (by decide +kernel) (by decide +kernel)
theorem zw_4_146 : Cond.methodLink "CronFinderLaw" 79 zy_Q_last ∈ zW := zW_4 (i := 146) (by decide +kernel) (by decide +kernel)
theorem zw_4_147 : Cond.instanceMethod zy_Q_last ∈ zW := zW_4 (i := 147) (by decide +kernel) (by decide +kernel)
theorem zw_4_148 : Cond.selects "CronFinderModel" zy_Q_last zy_Q_last ∈ zW := zW_4 (i := 148) (by decide +kernel) (by decide +kernel)
theorem zw_4_149 : Cond.code zy_Q_last prog_10_method_31_code 3 (some .long) ∈ zW := zW_4 (i := 149) (by decide +kernel) (by decide +kernel)
theorem zw_4_150 : Cond.methodLink "CronFinderModel" 232 zy_Q_upTo ∈ zW := zW_4 (i := 150) (by decide +kernel) (by decide +kernel)
theorem zw_4_152 : Cond.instanceMethod zy_Q_upTo ∈ zW := zW_4 (i := 152) (by decide +kernel) (by decide +kernel)
theorem zw_4_153 : Cond.code zy_Q_upTo prog_10_method_28_code 7 (some .long) ∈ zW := zW_4 (i := 153) (by decide +kernel) (by decide +kernel)
theorem zw_4_154 : Cond.methodLink "CronFinderModel" 221 zy_Q_secondTo ∈ zW := zW_4 (i := 154) (by decide +kernel) (by decide +kernel)
theorem zw_4_156 : Cond.instanceMethod zy_Q_secondTo ∈ zW := zW_4 (i := 156) (by decide +kernel) (by decide +kernel)
theorem zw_4_157 : Cond.code zy_Q_secondTo prog_10_method_24_code 6 (some .int) ∈ zW := zW_4 (i := 157) (by decide +kernel) (by decide +kernel)
theorem zw_4_158 : Cond.methodLink "CronFinderLaw" 83 zy_Q_later ∈ zW := zW_4 (i := 158) (by decide +kernel) (by decide +kernel)
theorem zw_4_159 : Cond.instanceMethod zy_Q_later ∈ zW := zW_4 (i := 159) (by decide +kernel) (by decide +kernel)
theorem zw_4_160 : Cond.selects "CronFinderModel" zy_Q_later zy_Q_later ∈ zW := zW_4 (i := 160) (by decide +kernel) (by decide +kernel)
theorem zw_4_161 : Cond.code zy_Q_later prog_10_method_32_code 7 (some .long) ∈ zW := zW_4 (i := 161) (by decide +kernel) (by decide +kernel)
theorem zw_4_162 : Cond.methodLink "CronFinderLaw" 86 zy_Q_is ∈ zW := zW_4 (i := 162) (by decide +kernel) (by decide +kernel)
theorem zw_4_163 : Cond.instanceMethod zy_Q_is ∈ zW := zW_4 (i := 163) (by decide +kernel) (by decide +kernel)
theorem zw_4_164 : Cond.selects "CronFinderModel" zy_Q_is zy_Q_is ∈ zW := zW_4 (i := 164) (by decide +kernel) (by decide +kernel)
theorem zw_4_165 : Cond.code zy_Q_is prog_10_method_33_code 3 (some .boolean) ∈ zW := zW_4 (i := 165) (by decide +kernel) (by decide +kernel)
theorem zw_4_166 : Cond.methodLink "CronFinderLaw" 90 zy_Q_place ∈ zW := zW_4 (i := 166) (by decide +kernel) (by decide +kernel)
theorem zw_4_167 : Cond.instanceMethod zy_Q_place ∈ zW := zW_4 (i := 167) (by decide +kernel) (by decide +kernel)
theorem zw_4_168 : Cond.selects "CronFinderModel" zy_Q_place zy_Q_place ∈ zW := zW_4 (i := 168) (by decide +kernel) (by decide +kernel)
theorem zw_4_169 : Cond.code zy_Q_place prog_10_method_34_code 1 (some .int) ∈ zW := zW_4 (i := 169) (by decide +kernel) (by decide +kernel)
theorem zw_4_170 : Cond.methodLink "CronFinderLaw" 54 zy_Q_feed ∈ zW := zW_4 (i := 170) (by decide +kernel) (by decide +kernel)
theorem zw_4_171 : Cond.instanceMethod zy_Q_feed ∈ zW := zW_4 (i := 171) (by decide +kernel) (by decide +kernel)
theorem zw_4_172 : Cond.selects "CronFinderModel" zy_Q_feed zy_Q_feed ∈ zW := zW_4 (i := 172) (by decide +kernel) (by decide +kernel)
theorem zw_4_173 : Cond.code zy_Q_feed prog_10_method_35_code 8 (some .int) ∈ zW := zW_4 (i := 173) (by decide +kernel) (by decide +kernel)
theorem zw_4_174 : Cond.methodLink "CronFinderLaw" 62 zy_Q_end ∈ zW := zW_4 (i := 174) (by decide +kernel) (by decide +kernel)
theorem zw_4_175 : Cond.instanceMethod zy_Q_end ∈ zW := zW_4 (i := 175) (by decide +kernel) (by decide +kernel)
theorem zw_4_176 : Cond.selects "CronFinderModel" zy_Q_end zy_Q_end ∈ zW := zW_4 (i := 176) (by decide +kernel) (by decide +kernel)
theorem zw_4_177 : Cond.code zy_Q_end prog_10_method_36_code 2 (some .int) ∈ zW := zW_4 (i := 177) (by decide +kernel) (by decide +kernel)
theorem zw_4_178 : Cond.constantLong "CronFinderLaw" 71 (4294967295 : Int64) ∈ zW := zW_4 (i := 178) (by decide +kernel) (by decide +kernel)
theorem zw_4_179 : Cond.arrayClass .long ∈ zW := zW_4 (i := 179) (by decide +kernel) (by decide +kernel)
theorem zw_4_180 : Cond.sameMethod "java/lang/Throwable" "java/lang/Throwable" "fillInStackTrace" "(I)Ljava/lang/Throwable;" ∈ zW := zW_4 (i := 180) (by decide +kernel) (by decide +kernel)
theorem zw_4_181 : Cond.fieldLink "java/lang/String" 9 "java/lang/String" "value" "[B" ∈ zW := zW_4 (i := 181) (by decide +kernel) (by decide +kernel)
theorem zw_4_182 : Cond.fieldLink "java/lang/String" 15 "java/lang/String" "coder" "B" ∈ zW := zW_4 (i := 182) (by decide +kernel) (by decide +kernel)
theorem zw_4_183 : Cond.fieldLink "java/lang/Enum" 7 "java/lang/Enum" "ordinal" "I" ∈ zW := zW_4 (i := 183) (by decide +kernel) (by decide +kernel)
def zR_F : String := "CronFinder"
def zT_F : u_T := fun k => match k with
  | 0 => ("CronFinder", "tape", "[C", true)
  | 1 => ("CronFinder", "tapeLength", "I", false)
  | 2 => ("CronFinder", "plan", "LCronFinder$Plan;", false)
  | 3 => ("CronFinder", "spare", "LCronFinder$Plan;", false)
  | 4 => ("CronFinder", "brokenAt", "I", false)
  | _ => ("CronFinder", "holidays", "LCronFinder$DaySet;", true)
def zt_F : Nat → FieldType := fun k => match k with
  | 0 => .array .char
  | 1 => .int
  | 2 => .object "CronFinder$Plan"
  | 3 => .object "CronFinder$Plan"
  | 4 => .int
  | _ => .object "CronFinder$DaySet"
theorem zn_F : ∀ a, a < 6 → ∀ b, b < 6 → a ≠ b → (zT_F a).2.1 ≠ (zT_F b).2.1 := by decide +kernel
theorem zto_F : ∀ k, k < 6 → parseFieldDescriptor (zT_F k).2.2.1 = some (zt_F k) := by decide +kernel
theorem zin_F : ∀ w ∈ u_ws zR_F zT_F 6, w ∈ zW := by
  intro w hw
  obtain ⟨k, hk, rfl⟩ := List.mem_map.mp hw
  have hk := List.mem_range.mp hk
  rcases (show k = 0 ∨ k = 1 ∨ k = 2 ∨ k = 3 ∨ k = 4 ∨ k = 5 by omega) with rfl | rfl | rfl | rfl | rfl | rfl
  · exact zw_1_112
  · exact zw_1_114
  · exact zw_1_116
  · exact zw_1_118
  · exact zw_1_120
  · exact zw_1_122
def zR_S : String := "CronFinder$DaySet"
def zT_S : u_T := fun k => match k with
  | 0 => ("CronFinder$DaySet", "days", "[I", true)
  | _ => ("CronFinder$DaySet", "count", "I", false)
def zt_S : Nat → FieldType := fun k => match k with
  | 0 => .array .int
  | _ => .int
theorem zn_S : ∀ a, a < 2 → ∀ b, b < 2 → a ≠ b → (zT_S a).2.1 ≠ (zT_S b).2.1 := by decide +kernel
theorem zto_S : ∀ k, k < 2 → parseFieldDescriptor (zT_S k).2.2.1 = some (zt_S k) := by decide +kernel
theorem zin_S : ∀ w ∈ u_ws zR_S zT_S 2, w ∈ zW := by
  intro w hw
  obtain ⟨k, hk, rfl⟩ := List.mem_map.mp hw
  have hk := List.mem_range.mp hk
  rcases (show k = 0 ∨ k = 1 by omega) with rfl | rfl
  · exact zw_1_100
  · exact zw_1_102
def zR_O : String := "CronFinder$Row"
def zT_O : u_T := fun k => match k with
  | 0 => ("CronFinder$Row", "first", "I", true)
  | 1 => ("CronFinder$Row", "highest", "I", true)
  | _ => ("CronFinder$Row", "allowed", "[Z", true)
def zt_O : Nat → FieldType := fun k => match k with
  | 0 => .int
  | 1 => .int
  | _ => .array .boolean
theorem zn_O : ∀ a, a < 3 → ∀ b, b < 3 → a ≠ b → (zT_O a).2.1 ≠ (zT_O b).2.1 := by decide +kernel
theorem zto_O : ∀ k, k < 3 → parseFieldDescriptor (zT_O k).2.2.1 = some (zt_O k) := by decide +kernel
theorem zin_O : ∀ w ∈ u_ws zR_O zT_O 3, w ∈ zW := by
  intro w hw
  obtain ⟨k, hk, rfl⟩ := List.mem_map.mp hw
  have hk := List.mem_range.mp hk
  rcases (show k = 0 ∨ k = 1 ∨ k = 2 by omega) with rfl | rfl | rfl
  · exact zw_1_47
  · exact zw_1_49
  · exact zw_1_51
def zR_P : String := "CronFinder$Plan"
def zT_P : u_T := fun k => match k with
  | 0 => ("CronFinder$Plan", "seconds", "LCronFinder$Row;", true)
  | 1 => ("CronFinder$Plan", "minutes", "LCronFinder$Row;", true)
  | 2 => ("CronFinder$Plan", "hours", "LCronFinder$Row;", true)
  | 3 => ("CronFinder$Plan", "days", "LCronFinder$Row;", true)
  | 4 => ("CronFinder$Plan", "months", "LCronFinder$Row;", true)
  | 5 => ("CronFinder$Plan", "weekdays", "LCronFinder$Row;", true)
  | 6 => ("CronFinder$Plan", "years", "LCronFinder$Row;", true)
  | 7 => ("CronFinder$Plan", "rule", "LCronFinder$DayRule;", false)
  | 8 => ("CronFinder$Plan", "subject", "I", false)
  | 9 => ("CronFinder$Plan", "ordinal", "I", false)
  | _ => ("CronFinder$Plan", "dayBits", "I", false)
def zt_P : Nat → FieldType := fun k => match k with
  | 0 => .object "CronFinder$Row"
  | 1 => .object "CronFinder$Row"
  | 2 => .object "CronFinder$Row"
  | 3 => .object "CronFinder$Row"
  | 4 => .object "CronFinder$Row"
  | 5 => .object "CronFinder$Row"
  | 6 => .object "CronFinder$Row"
  | 7 => .object "CronFinder$DayRule"
  | 8 => .int
  | 9 => .int
  | _ => .int
theorem zn_P : ∀ a, a < 11 → ∀ b, b < 11 → a ≠ b → (zT_P a).2.1 ≠ (zT_P b).2.1 := by decide +kernel
theorem zto_P : ∀ k, k < 11 → parseFieldDescriptor (zT_P k).2.2.1 = some (zt_P k) := by decide +kernel
theorem zin_P : ∀ w ∈ u_ws zR_P zT_P 11, w ∈ zW := by
  intro w hw
  obtain ⟨k, hk, rfl⟩ := List.mem_map.mp hw
  have hk := List.mem_range.mp hk
  rcases (show k = 0 ∨ k = 1 ∨ k = 2 ∨ k = 3 ∨ k = 4 ∨ k = 5 ∨ k = 6 ∨ k = 7 ∨ k = 8 ∨ k = 9 ∨ k = 10 by omega) with rfl | rfl | rfl | rfl | rfl | rfl | rfl | rfl | rfl | rfl | rfl
  · exact zw_1_69
  · exact zw_1_71
  · exact zw_1_73
  · exact zw_1_75
  · exact zw_1_77
  · exact zw_1_79
  · exact zw_1_81
  · exact zw_1_83
  · exact zw_1_85
  · exact zw_1_87
  · exact zw_1_89
def zR_R : String := "CronFinder$Reader"
def zT_R : u_T := fun k => match k with
  | 0 => ("CronFinder$Reader", "text", "[C", true)
  | 1 => ("CronFinder$Reader", "length", "I", true)
  | 2 => ("CronFinder$Reader", "plan", "LCronFinder$Plan;", true)
  | 3 => ("CronFinder$Reader", "at", "I", false)
  | 4 => ("CronFinder$Reader", "value", "I", false)
  | _ => ("CronFinder$Reader", "dayIsOpen", "Z", false)
def zt_R : Nat → FieldType := fun k => match k with
  | 0 => .array .char
  | 1 => .int
  | 2 => .object "CronFinder$Plan"
  | 3 => .int
  | 4 => .int
  | _ => .boolean
theorem zn_R : ∀ a, a < 6 → ∀ b, b < 6 → a ≠ b → (zT_R a).2.1 ≠ (zT_R b).2.1 := by decide +kernel
theorem zto_R : ∀ k, k < 6 → parseFieldDescriptor (zT_R k).2.2.1 = some (zt_R k) := by decide +kernel
theorem zin_R : ∀ w ∈ u_ws zR_R zT_R 6, w ∈ zW := by
  intro w hw
  obtain ⟨k, hk, rfl⟩ := List.mem_map.mp hw
  have hk := List.mem_range.mp hk
  rcases (show k = 0 ∨ k = 1 ∨ k = 2 ∨ k = 3 ∨ k = 4 ∨ k = 5 by omega) with rfl | rfl | rfl | rfl | rfl | rfl
  · exact zw_2_13
  · exact zw_2_15
  · exact zw_2_17
  · exact zw_2_19
  · exact zw_2_21
  · exact zw_2_23
def zR_Q : String := "CronFinderModel"
def zT_Q : u_T := fun k => match k with
  | 0 => ("CronFinderModel", "failed", "I", false)
  | 1 => ("CronFinderModel", "tape", "[B", true)
  | 2 => ("CronFinderModel", "taped", "I", false)
  | 3 => ("CronFinderModel", "place", "I", false)
  | 4 => ("CronFinderModel", "year", "I", false)
  | 5 => ("CronFinderModel", "month", "I", false)
  | 6 => ("CronFinderModel", "day", "I", false)
  | 7 => ("CronFinderModel", "at", "I", false)
  | 8 => ("CronFinderModel", "sets", "[[[Z", true)
  | 9 => ("CronFinderModel", "trial", "[[Z", true)
  | 10 => ("CronFinderModel", "told", "[Z", true)
  | 11 => ("CronFinderModel", "ways", "[[I", true)
  | 12 => ("CronFinderModel", "first", "[[I", true)
  | 13 => ("CronFinderModel", "second", "[[I", true)
  | 14 => ("CronFinderModel", "way", "I", false)
  | 15 => ("CronFinderModel", "one", "I", false)
  | 16 => ("CronFinderModel", "two", "I", false)
  | 17 => ("CronFinderModel", "months", "[Ljava/lang/String;", true)
  | 18 => ("CronFinderModel", "weekdays", "[Ljava/lang/String;", true)
  | 19 => ("CronFinderModel", "holidays", "[Z", true)
  | _ => ("CronFinderModel", "holidayCount", "I", false)
def zt_Q : Nat → FieldType := fun k => match k with
  | 0 => .int
  | 1 => .array .byte
  | 2 => .int
  | 3 => .int
  | 4 => .int
  | 5 => .int
  | 6 => .int
  | 7 => .int
  | 8 => .array (.array (.array .boolean))
  | 9 => .array (.array .boolean)
  | 10 => .array .boolean
  | 11 => .array (.array .int)
  | 12 => .array (.array .int)
  | 13 => .array (.array .int)
  | 14 => .int
  | 15 => .int
  | 16 => .int
  | 17 => .array (.object "java/lang/String")
  | 18 => .array (.object "java/lang/String")
  | 19 => .array .boolean
  | _ => .int
theorem zn_Q : ∀ a, a < 21 → ∀ b, b < 21 → a ≠ b → (zT_Q a).2.1 ≠ (zT_Q b).2.1 := by decide +kernel
theorem zto_Q : ∀ k, k < 21 → parseFieldDescriptor (zT_Q k).2.2.1 = some (zt_Q k) := by decide +kernel
theorem zin_Q : ∀ w ∈ u_ws zR_Q zT_Q 21, w ∈ zW := by
  intro w hw
  obtain ⟨k, hk, rfl⟩ := List.mem_map.mp hw
  have hk := List.mem_range.mp hk
  rcases (show k = 0 ∨ k = 1 ∨ k = 2 ∨ k = 3 ∨ k = 4 ∨ k = 5 ∨ k = 6 ∨ k = 7 ∨ k = 8 ∨ k = 9 ∨ k = 10 ∨ k = 11 ∨ k = 12 ∨ k = 13 ∨ k = 14 ∨ k = 15 ∨ k = 16 ∨ k = 17 ∨ k = 18 ∨ k = 19 ∨ k = 20 by omega) with rfl | rfl | rfl | rfl | rfl | rfl | rfl | rfl | rfl | rfl | rfl | rfl | rfl | rfl | rfl | rfl | rfl | rfl | rfl | rfl | rfl
  · exact zw_3_219
  · exact zw_3_221
  · exact zw_3_223
  · exact zw_3_225
  · exact zw_3_227
  · exact zw_3_229
  · exact zw_3_231
  · exact zw_3_233
  · exact zw_3_235
  · exact zw_3_237
  · exact zw_3_239
  · exact zw_4_1
  · exact zw_4_3
  · exact zw_4_5
  · exact zw_4_7
  · exact zw_4_9
  · exact zw_4_11
  · exact zw_4_13
  · exact zw_4_15
  · exact zw_4_17
  · exact zw_4_19
abbrev zCl : List vw_C := [(zR_F, zT_F, 6), (zR_S, zT_S, 2), (zR_O, zT_O, 3), (zR_P, zT_P, 11), (zR_R, zT_R, 6), (zR_Q, zT_Q, 21)]
