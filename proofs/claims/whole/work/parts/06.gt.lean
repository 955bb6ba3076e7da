/-! the words of the tables that stay good in a callee, one list for every method -/
def GT : List Cond := lw_tbl.filter goodWord
theorem gm_of {w : Cond} (h : w ∈ lw_tbl) (g : goodWord w = true) : w ∈ GT := List.mem_filter.mpr ⟨h, g⟩
theorem gm0 {w : Cond} {i : Nat} (h : (k2_sels lw_privs)[i]? = some w) (g : goodWord w = true) : w ∈ GT := gm_of (List.mem_append_left _ (List.mem_of_getElem? h)) g
theorem gm1 {w : Cond} {i : Nat} (h : tables_1_1[i]? = some w) (g : goodWord w = true) : w ∈ GT := gm_of (List.mem_append_right _ (List.mem_append_left _ (List.mem_of_getElem? h))) g
theorem gm2 {w : Cond} {i : Nat} (h : tables_1_2[i]? = some w) (g : goodWord w = true) : w ∈ GT := gm_of (List.mem_append_right _ (List.mem_append_right _ (List.mem_append_left _ (List.mem_of_getElem? h)))) g
theorem gm3 {w : Cond} {i : Nat} (h : tables_1_3[i]? = some w) (g : goodWord w = true) : w ∈ GT := gm_of (List.mem_append_right _ (List.mem_append_right _ (List.mem_append_right _ (List.mem_append_left _ (List.mem_of_getElem? h))))) g
theorem gm4 {w : Cond} {i : Nat} (h : tables_1_4[i]? = some w) (g : goodWord w = true) : w ∈ GT := gm_of (List.mem_append_right _ (List.mem_append_right _ (List.mem_append_right _ (List.mem_append_right _ (List.mem_of_getElem? h))))) g
theorem gt_good : ∀ w ∈ GT, goodWord w = true := fun w h => (List.mem_filter.mp h).2
theorem g_in_L : Cond.initialized RL ∈ GT := gm1 (i := 0) (by decide +kernel) rfl
theorem g_in_X8 : Cond.initialized RX8 ∈ GT := gm1 (i := 1) (by decide +kernel) rfl
theorem g_in_X2 : Cond.initialized RX2 ∈ GT := gm1 (i := 2) (by decide +kernel) rfl
theorem g_in_X3 : Cond.initialized RX3 ∈ GT := gm1 (i := 3) (by decide +kernel) rfl
theorem g_in_X9 : Cond.initialized RX9 ∈ GT := gm1 (i := 4) (by decide +kernel) rfl
theorem g_in_X5 : Cond.initialized RX5 ∈ GT := gm1 (i := 5) (by decide +kernel) rfl
theorem g_in_X7 : Cond.initialized RX7 ∈ GT := gm1 (i := 6) (by decide +kernel) rfl
theorem g_in_X6 : Cond.initialized RX6 ∈ GT := gm1 (i := 7) (by decide +kernel) rfl
theorem g_in_X4 : Cond.initialized RX4 ∈ GT := gm1 (i := 8) (by decide +kernel) rfl
theorem g_in_X0 : Cond.initialized RX0 ∈ GT := gm1 (i := 9) (by decide +kernel) rfl
theorem g_in_X1 : Cond.initialized RX1 ∈ GT := gm1 (i := 10) (by decide +kernel) rfl
theorem g_in_java_lang_Throwable : Cond.initialized "java/lang/Throwable" ∈ GT := gm1 (i := 11) (by decide +kernel) rfl
theorem g_in_java_lang_Exception : Cond.initialized "java/lang/Exception" ∈ GT := gm1 (i := 12) (by decide +kernel) rfl
theorem g_in_java_lang_RuntimeException : Cond.initialized "java/lang/RuntimeException" ∈ GT := gm1 (i := 13) (by decide +kernel) rfl
theorem g_in_java_lang_IndexOutOfBoundsException : Cond.initialized "java/lang/IndexOutOfBoundsException" ∈ GT := gm1 (i := 14) (by decide +kernel) rfl
theorem g_in_Jx00060 : Cond.initialized RJx00060 ∈ GT := gm1 (i := 15) (by decide +kernel) rfl
theorem g_in_J0 : Cond.initialized RJ0 ∈ GT := gm1 (i := 16) (by decide +kernel) rfl
theorem g_in_Jxde1cd : Cond.initialized RJxde1cd ∈ GT := gm1 (i := 17) (by decide +kernel) rfl
theorem g_in_java_lang_IllegalArgumentException : Cond.initialized "java/lang/IllegalArgumentException" ∈ GT := gm1 (i := 18) (by decide +kernel) rfl
theorem g_in_J7 : Cond.initialized RJ7 ∈ GT := gm1 (i := 19) (by decide +kernel) rfl
theorem g_cl_L_8 : Cond.classLink RL 8 RX8 ∈ GT := gm1 (i := 20) (by decide +kernel) rfl
theorem g_ins_X8 : Cond.instantiable RX8 8 ∈ GT := gm1 (i := 21) (by decide +kernel) rfl
theorem g_ml_L_46 : Cond.methodLink RL 46 yX8_init ∈ GT := gm1 (i := 22) (by decide +kernel) rfl
theorem g_im_yX8_init : Cond.instanceMethod yX8_init ∈ GT := gm1 (i := 23) (by decide +kernel) rfl
theorem g_cd_yX8_init : Cond.code yX8_init cX8_init 1 (none : Option Jvm.ClassFile.FieldType) ∈ GT := gm1 (i := 24) (by decide +kernel) rfl
theorem g_ml_X8_1 : Cond.methodLink RX8 1 ⟨"java/lang/Object", "<init>", "()V"⟩ ∈ GT := gm1 (i := 25) (by decide +kernel) rfl
theorem g_im_java_lang_Object__init__47f5 : Cond.instanceMethod ⟨"java/lang/Object", "<init>", "()V"⟩ ∈ GT := gm1 (i := 26) (by decide +kernel) rfl
theorem g_cd_java_lang_Object__init__47f5 : Cond.code ⟨"java/lang/Object", "<init>", "()V"⟩ object_method_1_code 1 (none : Option Jvm.ClassFile.FieldType) ∈ GT := gm1 (i := 27) (by decide +kernel) rfl
theorem g_cl_X8_7 : Cond.classLink RX8 7 RX2 ∈ GT := gm1 (i := 28) (by decide +kernel) rfl
theorem g_ins_X2 : Cond.instantiable RX2 1 ∈ GT := gm1 (i := 29) (by decide +kernel) rfl
theorem g_ml_X8_9 : Cond.methodLink RX8 9 yX2_init ∈ GT := gm1 (i := 30) (by decide +kernel) rfl
theorem g_im_yX2_init : Cond.instanceMethod yX2_init ∈ GT := gm1 (i := 31) (by decide +kernel) rfl
theorem g_cd_yX2_init : Cond.code yX2_init cX2_init 1 (none : Option Jvm.ClassFile.FieldType) ∈ GT := gm1 (i := 32) (by decide +kernel) rfl
theorem g_ml_X2_3 : Cond.methodLink RX2 3 ⟨"java/lang/Object", "<init>", "()V"⟩ ∈ GT := gm1 (i := 33) (by decide +kernel) rfl
theorem g_fl_X2_9 : Cond.fieldLink RX2 9 "IndexRanges$Hand" "numbers" "[J" ∈ GT := gm1 (i := 34) (by decide +kernel) rfl
theorem g_sup_X2_java_lang_Object : Cond.superclass RX2 "java/lang/Object" ∈ GT := gm1 (i := 37) (by decide +kernel) rfl
theorem g_ac_long : Cond.arrayClass .long ∈ GT := gm1 (i := 38) (by decide +kernel) rfl
theorem g_cl_X8_19 : Cond.classLink RX8 19 RX3 ∈ GT := gm1 (i := 39) (by decide +kernel) rfl
theorem g_ins_X3 : Cond.instantiable RX3 4 ∈ GT := gm1 (i := 40) (by decide +kernel) rfl
theorem g_im_yX3_init : Cond.instanceMethod yX3_init ∈ GT := gm1 (i := 42) (by decide +kernel) rfl
theorem g_cd_yX3_init : Cond.code yX3_init cX3_init 1 (none : Option Jvm.ClassFile.FieldType) ∈ GT := gm1 (i := 43) (by decide +kernel) rfl
theorem g_ml_X3_1 : Cond.methodLink RX3 1 ⟨"java/lang/Object", "<init>", "()V"⟩ ∈ GT := gm1 (i := 44) (by decide +kernel) rfl
theorem g_fl_X3_7 : Cond.fieldLink RX3 7 "IndexRanges$Miss" "times" "I" ∈ GT := gm1 (i := 45) (by decide +kernel) rfl
theorem g_fl_X8_145 : Cond.fieldLink RX8 145 "IndexRanges$Miss" "times" "I" ∈ GT := gm1 (i := 46) (by decide +kernel) rfl
theorem g_fl_X3_13 : Cond.fieldLink RX3 13 "IndexRanges$Miss" "single" "I" ∈ GT := gm1 (i := 47) (by decide +kernel) rfl
theorem g_fl_X8_148 : Cond.fieldLink RX8 148 "IndexRanges$Miss" "single" "I" ∈ GT := gm1 (i := 48) (by decide +kernel) rfl
theorem g_fl_X3_16 : Cond.fieldLink RX3 16 "IndexRanges$Miss" "number" "I" ∈ GT := gm1 (i := 49) (by decide +kernel) rfl
theorem g_fl_X8_151 : Cond.fieldLink RX8 151 "IndexRanges$Miss" "number" "I" ∈ GT := gm1 (i := 50) (by decide +kernel) rfl
theorem g_fl_X3_19 : Cond.fieldLink RX3 19 "IndexRanges$Miss" "depth" "I" ∈ GT := gm1 (i := 51) (by decide +kernel) rfl
theorem g_fl_X8_154 : Cond.fieldLink RX8 154 "IndexRanges$Miss" "depth" "I" ∈ GT := gm1 (i := 52) (by decide +kernel) rfl
theorem g_sup_X3_java_lang_Object : Cond.superclass RX3 "java/lang/Object" ∈ GT := gm1 (i := 61) (by decide +kernel) rfl
theorem g_cl_X8_26 : Cond.classLink RX8 26 RX5 ∈ GT := gm1 (i := 62) (by decide +kernel) rfl
theorem g_cl_X8_35 : Cond.classLink RX8 35 "[[I" ∈ GT := gm1 (i := 64) (by decide +kernel) rfl
theorem g_fl_X8_10 : Cond.fieldLink RX8 10 "IndexRanges" "hand" "LIndexRanges$Hand;" ∈ GT := gm1 (i := 66) (by decide +kernel) rfl
theorem g_fl_X8_16 : Cond.fieldLink RX8 16 "IndexRanges" "scratch" "LIndexRanges$Hand;" ∈ GT := gm1 (i := 67) (by decide +kernel) rfl
theorem g_fl_X8_22 : Cond.fieldLink RX8 22 "IndexRanges" "lastMiss" "LIndexRanges$Miss;" ∈ GT := gm1 (i := 68) (by decide +kernel) rfl
theorem g_fl_X8_28 : Cond.fieldLink RX8 28 "IndexRanges" "ranges" "[LIndexRanges$Range;" ∈ GT := gm1 (i := 69) (by decide +kernel) rfl
theorem g_fl_X8_32 : Cond.fieldLink RX8 32 "IndexRanges" "bases" "[LIndexRanges$Range;" ∈ GT := gm1 (i := 70) (by decide +kernel) rfl
theorem g_fl_X8_37 : Cond.fieldLink RX8 37 "IndexRanges" "cells" "[[I" ∈ GT := gm1 (i := 71) (by decide +kernel) rfl
theorem g_fl_X8_40 : Cond.fieldLink RX8 40 "IndexRanges" "rangeCount" "I" ∈ GT := gm1 (i := 72) (by decide +kernel) rfl
theorem g_fl_X8_44 : Cond.fieldLink RX8 44 "IndexRanges" "arrayCount" "I" ∈ GT := gm1 (i := 73) (by decide +kernel) rfl
theorem g_sup_X8_java_lang_Object : Cond.superclass RX8 "java/lang/Object" ∈ GT := gm1 (i := 90) (by decide +kernel) rfl
theorem g_ac_int : Cond.arrayClass .int ∈ GT := gm1 (i := 91) (by decide +kernel) rfl
theorem g_ml_L_52 : Cond.methodLink RL 52 yX8_wholes ∈ GT := gm1 (i := 92) (by decide +kernel) rfl
theorem g_im_yX8_wholes : Cond.instanceMethod yX8_wholes ∈ GT := gm1 (i := 93) (by decide +kernel) rfl
theorem g_se_X8_yX8_wholes_yX8_wholes : Cond.selects RX8 yX8_wholes yX8_wholes ∈ GT := gm1 (i := 94) (by decide +kernel) rfl
theorem g_cd_yX8_wholes : Cond.code yX8_wholes cX8_wholes 5 (some .int) ∈ GT := gm1 (i := 95) (by decide +kernel) rfl
theorem g_ml_X8_47 : Cond.methodLink RX8 47 yX8_addRow ∈ GT := gm1 (i := 96) (by decide +kernel) rfl
theorem g_im_yX8_addRow : Cond.instanceMethod yX8_addRow ∈ GT := gm1 (i := 98) (by decide +kernel) rfl
theorem g_cd_yX8_addRow : Cond.code yX8_addRow cX8_addRow 11 (some .int) ∈ GT := gm1 (i := 99) (by decide +kernel) rfl
theorem g_ml_X8_56 : Cond.methodLink RX8 56 yX8_isFull ∈ GT := gm1 (i := 100) (by decide +kernel) rfl
theorem g_im_yX8_isFull : Cond.instanceMethod yX8_isFull ∈ GT := gm1 (i := 102) (by decide +kernel) rfl
theorem g_cd_yX8_isFull : Cond.code yX8_isFull cX8_isFull 1 (some .boolean) ∈ GT := gm1 (i := 103) (by decide +kernel) rfl
theorem g_cl_X8_198 : Cond.classLink RX8 198 RX6 ∈ GT := gm1 (i := 104) (by decide +kernel) rfl
theorem g_ins_X6 : Cond.instantiable RX6 7 ∈ GT := gm1 (i := 105) (by decide +kernel) rfl
theorem g_ml_X8_200 : Cond.methodLink RX8 200 yX6_init ∈ GT := gm1 (i := 106) (by decide +kernel) rfl
theorem g_im_yX6_init : Cond.instanceMethod yX6_init ∈ GT := gm1 (i := 107) (by decide +kernel) rfl
theorem g_cd_yX6_init : Cond.code yX6_init cX6_init 10 (none : Option Jvm.ClassFile.FieldType) ∈ GT := gm1 (i := 108) (by decide +kernel) rfl
theorem g_ml_X6_3 : Cond.methodLink RX6 3 yX7_init ∈ GT := gm1 (i := 109) (by decide +kernel) rfl
theorem g_im_yX7_init : Cond.instanceMethod yX7_init ∈ GT := gm1 (i := 110) (by decide +kernel) rfl
theorem g_cd_yX7_init : Cond.code yX7_init cX7_init 5 (none : Option Jvm.ClassFile.FieldType) ∈ GT := gm1 (i := 111) (by decide +kernel) rfl
theorem g_ml_X7_3 : Cond.methodLink RX7 3 yX5_init ∈ GT := gm1 (i := 112) (by decide +kernel) rfl
theorem g_im_yX5_init : Cond.instanceMethod yX5_init ∈ GT := gm1 (i := 113) (by decide +kernel) rfl
theorem g_cd_yX5_init : Cond.code yX5_init cX5_init 6 (none : Option Jvm.ClassFile.FieldType) ∈ GT := gm1 (i := 114) (by decide +kernel) rfl
theorem g_ml_X5_3 : Cond.methodLink RX5 3 ⟨"java/lang/Object", "<init>", "()V"⟩ ∈ GT := gm1 (i := 115) (by decide +kernel) rfl
theorem g_fl_X6_9 : Cond.fieldLink RX6 9 "IndexRanges$Row" "first" "J" ∈ GT := gm1 (i := 116) (by decide +kernel) rfl
theorem g_fl_X6_15 : Cond.fieldLink RX6 15 "IndexRanges$Row" "last" "J" ∈ GT := gm1 (i := 117) (by decide +kernel) rfl
theorem g_fl_X6_18 : Cond.fieldLink RX6 18 "IndexRanges$Row" "step" "I" ∈ GT := gm1 (i := 118) (by decide +kernel) rfl
theorem g_fl_X5_9 : Cond.fieldLink RX5 9 "IndexRanges$Range" "number" "I" ∈ GT := gm1 (i := 119) (by decide +kernel) rfl
theorem g_fl_X7_23 : Cond.fieldLink RX7 23 "IndexRanges$Single" "number" "I" ∈ GT := gm1 (i := 120) (by decide +kernel) rfl
theorem g_sf_X7_number : Cond.sameField RX7 RX5 "number" "I" ∈ GT := gm1 (i := 121) (by decide +kernel) rfl
theorem g_fl_X8_186 : Cond.fieldLink RX8 186 "IndexRanges$Range" "number" "I" ∈ GT := gm1 (i := 122) (by decide +kernel) rfl
theorem g_fl_X5_15 : Cond.fieldLink RX5 15 "IndexRanges$Range" "kind" "I" ∈ GT := gm1 (i := 123) (by decide +kernel) rfl
theorem g_fl_X8_90 : Cond.fieldLink RX8 90 "IndexRanges$Range" "kind" "I" ∈ GT := gm1 (i := 124) (by decide +kernel) rfl
theorem g_fl_X0_3 : Cond.fieldLink RX0 3 "IndexRanges$Range" "width" "I" ∈ GT := gm1 (i := 125) (by decide +kernel) rfl
theorem g_fl_X5_18 : Cond.fieldLink RX5 18 "IndexRanges$Range" "width" "I" ∈ GT := gm1 (i := 126) (by decide +kernel) rfl
theorem g_fl_X1_32 : Cond.fieldLink RX1 32 "IndexRanges$Range" "width" "I" ∈ GT := gm1 (i := 127) (by decide +kernel) rfl
theorem g_fl_X1_36 : Cond.fieldLink RX1 36 "IndexRanges$Beside" "width" "I" ∈ GT := gm1 (i := 128) (by decide +kernel) rfl
theorem g_sf_X1_width : Cond.sameField RX1 RX5 "width" "I" ∈ GT := gm1 (i := 129) (by decide +kernel) rfl
theorem g_fl_X8_93 : Cond.fieldLink RX8 93 "IndexRanges$Range" "width" "I" ∈ GT := gm1 (i := 130) (by decide +kernel) rfl
theorem g_fl_X0_9 : Cond.fieldLink RX0 9 "IndexRanges$Range" "size" "J" ∈ GT := gm1 (i := 131) (by decide +kernel) rfl
theorem g_fl_X5_21 : Cond.fieldLink RX5 21 "IndexRanges$Range" "size" "J" ∈ GT := gm1 (i := 132) (by decide +kernel) rfl
theorem g_fl_X4_20 : Cond.fieldLink RX4 20 "IndexRanges$Names" "size" "J" ∈ GT := gm1 (i := 133) (by decide +kernel) rfl
theorem g_sf_X4_size : Cond.sameField RX4 RX5 "size" "J" ∈ GT := gm1 (i := 134) (by decide +kernel) rfl
theorem g_fl_X6_22 : Cond.fieldLink RX6 22 "IndexRanges$Row" "size" "J" ∈ GT := gm1 (i := 135) (by decide +kernel) rfl
theorem g_sf_X6_size : Cond.sameField RX6 RX5 "size" "J" ∈ GT := gm1 (i := 136) (by decide +kernel) rfl
theorem g_fl_X0_29 : Cond.fieldLink RX0 29 "IndexRanges$Back" "size" "J" ∈ GT := gm1 (i := 137) (by decide +kernel) rfl
theorem g_sf_X0_size : Cond.sameField RX0 RX5 "size" "J" ∈ GT := gm1 (i := 138) (by decide +kernel) rfl
theorem g_fl_X1_21 : Cond.fieldLink RX1 21 "IndexRanges$Range" "size" "J" ∈ GT := gm1 (i := 139) (by decide +kernel) rfl
theorem g_fl_X8_75 : Cond.fieldLink RX8 75 "IndexRanges$Range" "size" "J" ∈ GT := gm1 (i := 140) (by decide +kernel) rfl
theorem g_fl_X7_40 : Cond.fieldLink RX7 40 "IndexRanges$Single" "size" "J" ∈ GT := gm1 (i := 141) (by decide +kernel) rfl
theorem g_sf_X7_size : Cond.sameField RX7 RX5 "size" "J" ∈ GT := gm1 (i := 142) (by decide +kernel) rfl
theorem g_sup_X6_X7 : Cond.superclass RX6 RX7 ∈ GT := gm1 (i := 157) (by decide +kernel) rfl
theorem g_ml_X8_65 : Cond.methodLink RX8 65 yX8_add ∈ GT := gm1 (i := 158) (by decide +kernel) rfl
theorem g_im_yX8_add : Cond.instanceMethod yX8_add ∈ GT := gm1 (i := 160) (by decide +kernel) rfl
theorem g_cd_yX8_add : Cond.code yX8_add cX8_add 2 (some .int) ∈ GT := gm1 (i := 161) (by decide +kernel) rfl
theorem g_ml_X8_203 : Cond.methodLink RX8 203 yX8_quotient ∈ GT := gm1 (i := 162) (by decide +kernel) rfl
theorem g_st_yX8_quotient : Cond.static yX8_quotient ∈ GT := gm1 (i := 163) (by decide +kernel) rfl
theorem g_cd_yX8_quotient : Cond.code yX8_quotient cX8_quotient 6 (some .long) ∈ GT := gm1 (i := 164) (by decide +kernel) rfl
theorem g_kl_X8_141 : Cond.constantLong RX8 141 (9223372036854775807) ∈ GT := gm1 (i := 165) (by decide +kernel) rfl
theorem g_kl_X8_79 : Cond.constantLong RX8 79 (-1) ∈ GT := gm1 (i := 166) (by decide +kernel) rfl
theorem g_ml_L_57 : Cond.methodLink RL 57 yX8_signs ∈ GT := gm1 (i := 167) (by decide +kernel) rfl
theorem g_im_yX8_signs : Cond.instanceMethod yX8_signs ∈ GT := gm1 (i := 168) (by decide +kernel) rfl
theorem g_se_X8_yX8_signs_yX8_signs : Cond.selects RX8 yX8_signs yX8_signs ∈ GT := gm1 (i := 169) (by decide +kernel) rfl
theorem g_cd_yX8_signs : Cond.code yX8_signs cX8_signs 3 (some .int) ∈ GT := gm1 (i := 170) (by decide +kernel) rfl
theorem g_kc_X8_51 : Cond.constant RX8 51 (65535) ∈ GT := gm1 (i := 171) (by decide +kernel) rfl
theorem g_ml_X8_52 : Cond.methodLink RX8 52 yX8_isUpTo ∈ GT := gm1 (i := 172) (by decide +kernel) rfl
theorem g_st_yX8_isUpTo : Cond.static yX8_isUpTo ∈ GT := gm1 (i := 173) (by decide +kernel) rfl
theorem g_cd_yX8_isUpTo : Cond.code yX8_isUpTo cX8_isUpTo 2 (some .boolean) ∈ GT := gm1 (i := 174) (by decide +kernel) rfl
theorem g_ml_L_61 : Cond.methodLink RL 61 yX8_names ∈ GT := gm1 (i := 175) (by decide +kernel) rfl
theorem g_im_yX8_names : Cond.instanceMethod yX8_names ∈ GT := gm1 (i := 176) (by decide +kernel) rfl
theorem g_se_X8_yX8_names_yX8_names : Cond.selects RX8 yX8_names yX8_names ∈ GT := gm1 (i := 177) (by decide +kernel) rfl
theorem g_cd_yX8_names : Cond.code yX8_names cX8_names 5 (some .int) ∈ GT := gm1 (i := 178) (by decide +kernel) rfl
theorem g_cl_X8_60 : Cond.classLink RX8 60 RX4 ∈ GT := gm1 (i := 179) (by decide +kernel) rfl
theorem g_ins_X4 : Cond.instantiable RX4 6 ∈ GT := gm1 (i := 180) (by decide +kernel) rfl
theorem g_ml_X8_62 : Cond.methodLink RX8 62 yX4_init ∈ GT := gm1 (i := 181) (by decide +kernel) rfl
theorem g_im_yX4_init : Cond.instanceMethod yX4_init ∈ GT := gm1 (i := 182) (by decide +kernel) rfl
theorem g_cd_yX4_init : Cond.code yX4_init cX4_init 5 (none : Option Jvm.ClassFile.FieldType) ∈ GT := gm1 (i := 183) (by decide +kernel) rfl
theorem g_ml_X4_3 : Cond.methodLink RX4 3 yX7_init ∈ GT := gm1 (i := 184) (by decide +kernel) rfl
theorem g_fl_X4_9 : Cond.fieldLink RX4 9 "IndexRanges$Names" "around" "I" ∈ GT := gm1 (i := 185) (by decide +kernel) rfl
theorem g_fl_X4_15 : Cond.fieldLink RX4 15 "IndexRanges$Names" "first" "I" ∈ GT := gm1 (i := 186) (by decide +kernel) rfl
theorem g_sup_X4_X7 : Cond.superclass RX4 RX7 ∈ GT := gm1 (i := 195) (by decide +kernel) rfl
theorem g_ml_L_66 : Cond.methodLink RL 66 yX8_steps ∈ GT := gm1 (i := 196) (by decide +kernel) rfl
theorem g_im_yX8_steps : Cond.instanceMethod yX8_steps ∈ GT := gm1 (i := 197) (by decide +kernel) rfl
theorem g_se_X8_yX8_steps_yX8_steps : Cond.selects RX8 yX8_steps yX8_steps ∈ GT := gm1 (i := 198) (by decide +kernel) rfl
theorem g_cd_yX8_steps : Cond.code yX8_steps cX8_steps 6 (some .int) ∈ GT := gm1 (i := 199) (by decide +kernel) rfl
theorem g_kc_X8_69 : Cond.constant RX8 69 (-1000000) ∈ GT := gm1 (i := 200) (by decide +kernel) rfl
theorem g_kc_X8_70 : Cond.constant RX8 70 (1000000) ∈ GT := gm1 (i := 201) (by decide +kernel) rfl
theorem g_ml_L_71 : Cond.methodLink RL 71 yX8_back ∈ GT := gm1 (i := 202) (by decide +kernel) rfl
theorem g_im_yX8_back : Cond.instanceMethod yX8_back ∈ GT := gm1 (i := 203) (by decide +kernel) rfl
theorem g_se_X8_yX8_back_yX8_back : Cond.selects RX8 yX8_back yX8_back ∈ GT := gm1 (i := 204) (by decide +kernel) rfl
theorem g_cd_yX8_back : Cond.code yX8_back cX8_back 3 (some .int) ∈ GT := gm1 (i := 205) (by decide +kernel) rfl
theorem g_ml_X8_71 : Cond.methodLink RX8 71 yX8_rangeOf ∈ GT := gm1 (i := 206) (by decide +kernel) rfl
theorem g_im_yX8_rangeOf : Cond.instanceMethod yX8_rangeOf ∈ GT := gm1 (i := 208) (by decide +kernel) rfl
theorem g_cd_yX8_rangeOf : Cond.code yX8_rangeOf cX8_rangeOf 2 (some (.object "IndexRanges$Range")) ∈ GT := gm1 (i := 209) (by decide +kernel) rfl
theorem g_cl_X8_81 : Cond.classLink RX8 81 RX0 ∈ GT := gm1 (i := 210) (by decide +kernel) rfl
theorem g_ins_X0 : Cond.instantiable RX0 5 ∈ GT := gm1 (i := 211) (by decide +kernel) rfl
theorem g_ml_X8_83 : Cond.methodLink RX8 83 yX0_init ∈ GT := gm1 (i := 212) (by decide +kernel) rfl
theorem g_im_yX0_init : Cond.instanceMethod yX0_init ∈ GT := gm1 (i := 213) (by decide +kernel) rfl
theorem g_cd_yX0_init : Cond.code yX0_init cX0_init 3 (none : Option Jvm.ClassFile.FieldType) ∈ GT := gm1 (i := 214) (by decide +kernel) rfl
theorem g_ml_X0_13 : Cond.methodLink RX0 13 yX5_init ∈ GT := gm1 (i := 215) (by decide +kernel) rfl
theorem g_fl_X0_17 : Cond.fieldLink RX0 17 "IndexRanges$Back" "inner" "LIndexRanges$Range;" ∈ GT := gm1 (i := 216) (by decide +kernel) rfl
theorem g_sup_X0_X5 : Cond.superclass RX0 RX5 ∈ GT := gm1 (i := 223) (by decide +kernel) rfl
theorem g_ml_L_75 : Cond.methodLink RL 75 yX8_pair ∈ GT := gm1 (i := 224) (by decide +kernel) rfl
theorem g_im_yX8_pair : Cond.instanceMethod yX8_pair ∈ GT := gm1 (i := 225) (by decide +kernel) rfl
theorem g_se_X8_yX8_pair_yX8_pair : Cond.selects RX8 yX8_pair yX8_pair ∈ GT := gm1 (i := 226) (by decide +kernel) rfl
theorem g_cd_yX8_pair : Cond.code yX8_pair cX8_pair 5 (some .int) ∈ GT := gm1 (i := 227) (by decide +kernel) rfl
theorem g_ml_X8_86 : Cond.methodLink RX8 86 yX8_addBeside ∈ GT := gm1 (i := 228) (by decide +kernel) rfl
theorem g_im_yX8_addBeside : Cond.instanceMethod yX8_addBeside ∈ GT := gm1 (i := 230) (by decide +kernel) rfl
theorem g_cd_yX8_addBeside : Cond.code yX8_addBeside cX8_addBeside 10 (some .int) ∈ GT := gm1 (i := 231) (by decide +kernel) rfl
theorem g_ml_X8_207 : Cond.methodLink RX8 207 yX8_times ∈ GT := gm1 (i := 232) (by decide +kernel) rfl
theorem g_st_yX8_times : Cond.static yX8_times ∈ GT := gm1 (i := 233) (by decide +kernel) rfl
theorem g_cd_yX8_times : Cond.code yX8_times cX8_times 4 (some .long) ∈ GT := gm1 (i := 234) (by decide +kernel) rfl
theorem g_cl_X8_209 : Cond.classLink RX8 209 RX1 ∈ GT := gm1 (i := 235) (by decide +kernel) rfl
theorem g_ins_X1 : Cond.instantiable RX1 5 ∈ GT := gm1 (i := 236) (by decide +kernel) rfl
theorem g_ml_X8_211 : Cond.methodLink RX8 211 yX1_init ∈ GT := gm1 (i := 237) (by decide +kernel) rfl
theorem g_im_yX1_init : Cond.instanceMethod yX1_init ∈ GT := gm1 (i := 238) (by decide +kernel) rfl
theorem g_cd_yX1_init : Cond.code yX1_init cX1_init 7 (none : Option Jvm.ClassFile.FieldType) ∈ GT := gm1 (i := 239) (by decide +kernel) rfl
theorem g_ml_X1_3 : Cond.methodLink RX1 3 yX5_init ∈ GT := gm2 (i := 0) (by decide +kernel) rfl
theorem g_fl_X1_9 : Cond.fieldLink RX1 9 "IndexRanges$Beside" "parts" "[LIndexRanges$Range;" ∈ GT := gm2 (i := 1) (by decide +kernel) rfl
theorem g_sup_X1_X5 : Cond.superclass RX1 RX5 ∈ GT := gm2 (i := 8) (by decide +kernel) rfl
theorem g_ml_L_79 : Cond.methodLink RL 79 yX8_triple ∈ GT := gm2 (i := 9) (by decide +kernel) rfl
theorem g_im_yX8_triple : Cond.instanceMethod yX8_triple ∈ GT := gm2 (i := 10) (by decide +kernel) rfl
theorem g_se_X8_yX8_triple_yX8_triple : Cond.selects RX8 yX8_triple yX8_triple ∈ GT := gm2 (i := 11) (by decide +kernel) rfl
theorem g_cd_yX8_triple : Cond.code yX8_triple cX8_triple 7 (some .int) ∈ GT := gm2 (i := 12) (by decide +kernel) rfl
theorem g_ml_L_83 : Cond.methodLink RL 83 yX8_told ∈ GT := gm2 (i := 13) (by decide +kernel) rfl
theorem g_im_yX8_told : Cond.instanceMethod yX8_told ∈ GT := gm2 (i := 14) (by decide +kernel) rfl
theorem g_se_X8_yX8_told_yX8_told : Cond.selects RX8 yX8_told yX8_told ∈ GT := gm2 (i := 15) (by decide +kernel) rfl
theorem g_cd_yX8_told : Cond.code yX8_told cX8_told 4 (some .int) ∈ GT := gm2 (i := 16) (by decide +kernel) rfl
theorem g_ml_X8_96 : Cond.methodLink RX8 96 ⟨"IndexRanges$Range", "madeOf", "()I"⟩ ∈ GT := gm2 (i := 17) (by decide +kernel) rfl
theorem g_sm_X5_X5_madeOf : Cond.sameMethod RX5 RX5 "madeOf" "()I" ∈ GT := gm2 (i := 19) (by decide +kernel) rfl
theorem g_se_X0_X5_madeOf_1728_yX0_madeOf : Cond.selects RX0 ⟨"IndexRanges$Range", "madeOf", "()I"⟩ yX0_madeOf ∈ GT := gm2 (i := 20) (by decide +kernel) rfl
theorem g_im_yX0_madeOf : Cond.instanceMethod yX0_madeOf ∈ GT := gm2 (i := 21) (by decide +kernel) rfl
theorem g_cd_yX0_madeOf : Cond.code yX0_madeOf cX0_madeOf 1 (some .int) ∈ GT := gm2 (i := 22) (by decide +kernel) rfl
theorem g_se_X1_X5_madeOf_1728_yX1_madeOf : Cond.selects RX1 ⟨"IndexRanges$Range", "madeOf", "()I"⟩ yX1_madeOf ∈ GT := gm2 (i := 23) (by decide +kernel) rfl
theorem g_im_yX1_madeOf : Cond.instanceMethod yX1_madeOf ∈ GT := gm2 (i := 24) (by decide +kernel) rfl
theorem g_cd_yX1_madeOf : Cond.code yX1_madeOf cX1_madeOf 1 (some .int) ∈ GT := gm2 (i := 25) (by decide +kernel) rfl
theorem g_se_X4_X5_madeOf_1728_yX7_madeOf : Cond.selects RX4 ⟨"IndexRanges$Range", "madeOf", "()I"⟩ yX7_madeOf ∈ GT := gm2 (i := 26) (by decide +kernel) rfl
theorem g_im_yX7_madeOf : Cond.instanceMethod yX7_madeOf ∈ GT := gm2 (i := 27) (by decide +kernel) rfl
theorem g_cd_yX7_madeOf : Cond.code yX7_madeOf cX7_madeOf 1 (some .int) ∈ GT := gm2 (i := 28) (by decide +kernel) rfl
theorem g_se_X6_X5_madeOf_1728_yX7_madeOf : Cond.selects RX6 ⟨"IndexRanges$Range", "madeOf", "()I"⟩ yX7_madeOf ∈ GT := gm2 (i := 29) (by decide +kernel) rfl
theorem g_ml_L_87 : Cond.methodLink RL 87 yX8_size ∈ GT := gm2 (i := 30) (by decide +kernel) rfl
theorem g_im_yX8_size : Cond.instanceMethod yX8_size ∈ GT := gm2 (i := 31) (by decide +kernel) rfl
theorem g_se_X8_yX8_size_yX8_size : Cond.selects RX8 yX8_size yX8_size ∈ GT := gm2 (i := 32) (by decide +kernel) rfl
theorem g_cd_yX8_size : Cond.code yX8_size cX8_size 3 (some .long) ∈ GT := gm2 (i := 33) (by decide +kernel) rfl
theorem g_ml_X8_100 : Cond.methodLink RX8 100 yX8_longCode ∈ GT := gm2 (i := 34) (by decide +kernel) rfl
theorem g_st_yX8_longCode : Cond.static yX8_longCode ∈ GT := gm2 (i := 35) (by decide +kernel) rfl
theorem g_cd_yX8_longCode : Cond.code yX8_longCode cX8_longCode 1 (some .long) ∈ GT := gm2 (i := 36) (by decide +kernel) rfl
theorem g_kl_X8_196 : Cond.constantLong RX8 196 (1000000000) ∈ GT := gm2 (i := 37) (by decide +kernel) rfl
theorem g_ml_L_108 : Cond.methodLink RL 108 yX8_has ∈ GT := gm2 (i := 38) (by decide +kernel) rfl
theorem g_im_yX8_has : Cond.instanceMethod yX8_has ∈ GT := gm2 (i := 39) (by decide +kernel) rfl
theorem g_se_X8_yX8_has_yX8_has : Cond.selects RX8 yX8_has yX8_has ∈ GT := gm2 (i := 40) (by decide +kernel) rfl
theorem g_cd_yX8_has : Cond.code yX8_has cX8_has 3 (some .int) ∈ GT := gm2 (i := 41) (by decide +kernel) rfl
theorem g_ml_X8_118 : Cond.methodLink RX8 118 yX8_placeOfHand ∈ GT := gm2 (i := 42) (by decide +kernel) rfl
theorem g_im_yX8_placeOfHand : Cond.instanceMethod yX8_placeOfHand ∈ GT := gm2 (i := 44) (by decide +kernel) rfl
theorem g_cd_yX8_placeOfHand : Cond.code yX8_placeOfHand cX8_placeOfHand 2 (some .long) ∈ GT := gm2 (i := 45) (by decide +kernel) rfl
theorem g_ml_X8_214 : Cond.methodLink RX8 214 ⟨"IndexRanges$Range", "place", "(LIndexRanges$Hand;IILIndexRanges$Miss;)J"⟩ ∈ GT := gm2 (i := 46) (by decide +kernel) rfl
theorem g_sm_X5_X5_place : Cond.sameMethod RX5 RX5 "place" "(LIndexRanges$Hand;IILIndexRanges$Miss;)J" ∈ GT := gm2 (i := 48) (by decide +kernel) rfl
theorem g_se_X0_X5_place_4ad2_yX0_place : Cond.selects RX0 ⟨"IndexRanges$Range", "place", "(LIndexRanges$Hand;IILIndexRanges$Miss;)J"⟩ yX0_place ∈ GT := gm2 (i := 49) (by decide +kernel) rfl
theorem g_im_yX0_place : Cond.instanceMethod yX0_place ∈ GT := gm2 (i := 50) (by decide +kernel) rfl
theorem g_cd_yX0_place : Cond.code yX0_place cX0_place 7 (some .long) ∈ GT := gm2 (i := 51) (by decide +kernel) rfl
theorem g_ml_X0_23 : Cond.methodLink RX0 23 ⟨"IndexRanges$Range", "place", "(LIndexRanges$Hand;IILIndexRanges$Miss;)J"⟩ ∈ GT := gm2 (i := 52) (by decide +kernel) rfl
theorem g_im_yX1_place : Cond.instanceMethod yX1_place ∈ GT := gm2 (i := 53) (by decide +kernel) rfl
theorem g_cd_yX1_place : Cond.code yX1_place cX1_place 14 (some .long) ∈ GT := gm2 (i := 54) (by decide +kernel) rfl
theorem g_ml_X1_15 : Cond.methodLink RX1 15 ⟨"IndexRanges$Range", "place", "(LIndexRanges$Hand;IILIndexRanges$Miss;)J"⟩ ∈ GT := gm2 (i := 55) (by decide +kernel) rfl
theorem g_im_yX7_place : Cond.instanceMethod yX7_place ∈ GT := gm2 (i := 56) (by decide +kernel) rfl
theorem g_cd_yX7_place : Cond.code yX7_place cX7_place 7 (some .long) ∈ GT := gm2 (i := 57) (by decide +kernel) rfl
theorem g_ml_X7_9 : Cond.methodLink RX7 9 yX2_look ∈ GT := gm2 (i := 58) (by decide +kernel) rfl
theorem g_im_yX2_look : Cond.instanceMethod yX2_look ∈ GT := gm2 (i := 59) (by decide +kernel) rfl
theorem g_se_X2_yX2_look_yX2_look : Cond.selects RX2 yX2_look yX2_look ∈ GT := gm2 (i := 60) (by decide +kernel) rfl
theorem g_cd_yX2_look : Cond.code yX2_look cX2_look 2 (some .long) ∈ GT := gm2 (i := 61) (by decide +kernel) rfl
theorem g_ml_X7_15 : Cond.methodLink RX7 15 ⟨"IndexRanges$Single", "placeOf", "(J)J"⟩ ∈ GT := gm2 (i := 62) (by decide +kernel) rfl
theorem g_sm_X7_X7_placeOf : Cond.sameMethod RX7 RX7 "placeOf" "(J)J" ∈ GT := gm2 (i := 64) (by decide +kernel) rfl
theorem g_se_X4_X7_placeOf_467d_yX4_placeOf : Cond.selects RX4 ⟨"IndexRanges$Single", "placeOf", "(J)J"⟩ yX4_placeOf ∈ GT := gm2 (i := 65) (by decide +kernel) rfl
theorem g_im_yX4_placeOf : Cond.instanceMethod yX4_placeOf ∈ GT := gm2 (i := 66) (by decide +kernel) rfl
theorem g_cd_yX4_placeOf : Cond.code yX4_placeOf cX4_placeOf 5 (some .long) ∈ GT := gm2 (i := 67) (by decide +kernel) rfl
theorem g_kl_X4_18 : Cond.constantLong RX4 18 (-2) ∈ GT := gm2 (i := 68) (by decide +kernel) rfl
theorem g_se_X6_X7_placeOf_467d_yX6_placeOf : Cond.selects RX6 ⟨"IndexRanges$Single", "placeOf", "(J)J"⟩ yX6_placeOf ∈ GT := gm2 (i := 69) (by decide +kernel) rfl
theorem g_im_yX6_placeOf : Cond.instanceMethod yX6_placeOf ∈ GT := gm2 (i := 70) (by decide +kernel) rfl
theorem g_cd_yX6_placeOf : Cond.code yX6_placeOf cX6_placeOf 11 (some .long) ∈ GT := gm2 (i := 71) (by decide +kernel) rfl
theorem g_kl_X6_25 : Cond.constantLong RX6 25 (-2) ∈ GT := gm2 (i := 72) (by decide +kernel) rfl
theorem g_kl_X6_31 : Cond.constantLong RX6 31 (-1) ∈ GT := gm2 (i := 74) (by decide +kernel) rfl
theorem g_kl_X7_21 : Cond.constantLong RX7 21 (-2) ∈ GT := gm2 (i := 75) (by decide +kernel) rfl
theorem g_ml_X7_27 : Cond.methodLink RX7 27 yX3_note ∈ GT := gm2 (i := 76) (by decide +kernel) rfl
theorem g_im_yX3_note : Cond.instanceMethod yX3_note ∈ GT := gm2 (i := 77) (by decide +kernel) rfl
theorem g_se_X3_yX3_note_yX3_note : Cond.selects RX3 yX3_note yX3_note ∈ GT := gm2 (i := 78) (by decide +kernel) rfl
theorem g_cd_yX3_note : Cond.code yX3_note cX3_note 4 (none : Option Jvm.ClassFile.FieldType) ∈ GT := gm2 (i := 79) (by decide +kernel) rfl
theorem g_kl_X1_19 : Cond.constantLong RX1 19 (-2) ∈ GT := gm2 (i := 80) (by decide +kernel) rfl
theorem g_st_yX8_plus : Cond.static yX8_plus ∈ GT := gm2 (i := 83) (by decide +kernel) rfl
theorem g_cd_yX8_plus : Cond.code yX8_plus cX8_plus 4 (some .long) ∈ GT := gm2 (i := 84) (by decide +kernel) rfl
theorem g_kl_X0_27 : Cond.constantLong RX0 27 (-2) ∈ GT := gm2 (i := 85) (by decide +kernel) rfl
theorem g_se_X1_X5_place_4ad2_yX1_place : Cond.selects RX1 ⟨"IndexRanges$Range", "place", "(LIndexRanges$Hand;IILIndexRanges$Miss;)J"⟩ yX1_place ∈ GT := gm2 (i := 86) (by decide +kernel) rfl
theorem g_se_X4_X5_place_4ad2_yX7_place : Cond.selects RX4 ⟨"IndexRanges$Range", "place", "(LIndexRanges$Hand;IILIndexRanges$Miss;)J"⟩ yX7_place ∈ GT := gm2 (i := 87) (by decide +kernel) rfl
theorem g_se_X6_X5_place_4ad2_yX7_place : Cond.selects RX6 ⟨"IndexRanges$Range", "place", "(LIndexRanges$Hand;IILIndexRanges$Miss;)J"⟩ yX7_place ∈ GT := gm2 (i := 88) (by decide +kernel) rfl
theorem g_kl_X8_122 : Cond.constantLong RX8 122 (-2) ∈ GT := gm2 (i := 89) (by decide +kernel) rfl
theorem g_ml_L_118 : Cond.methodLink RL 118 yX8_miss ∈ GT := gm2 (i := 90) (by decide +kernel) rfl
theorem g_im_yX8_miss : Cond.instanceMethod yX8_miss ∈ GT := gm2 (i := 91) (by decide +kernel) rfl
theorem g_se_X8_yX8_miss_yX8_miss : Cond.selects RX8 yX8_miss yX8_miss ∈ GT := gm2 (i := 92) (by decide +kernel) rfl
theorem g_cd_yX8_miss : Cond.code yX8_miss cX8_miss 2 (some .int) ∈ GT := gm2 (i := 93) (by decide +kernel) rfl
theorem g_ml_L_122 : Cond.methodLink RL 122 yX8_within ∈ GT := gm2 (i := 94) (by decide +kernel) rfl
theorem g_im_yX8_within : Cond.instanceMethod yX8_within ∈ GT := gm2 (i := 95) (by decide +kernel) rfl
theorem g_se_X8_yX8_within_yX8_within : Cond.selects RX8 yX8_within yX8_within ∈ GT := gm2 (i := 96) (by decide +kernel) rfl
theorem g_cd_yX8_within : Cond.code yX8_within cX8_within 5 (some .int) ∈ GT := gm2 (i := 97) (by decide +kernel) rfl
theorem g_ml_X8_157 : Cond.methodLink RX8 157 yX8_liesWithin ∈ GT := gm2 (i := 98) (by decide +kernel) rfl
theorem g_st_yX8_liesWithin : Cond.static yX8_liesWithin ∈ GT := gm2 (i := 99) (by decide +kernel) rfl
theorem g_cd_yX8_liesWithin : Cond.code yX8_liesWithin cX8_liesWithin 5 (some .boolean) ∈ GT := gm2 (i := 100) (by decide +kernel) rfl
theorem g_ml_X8_218 : Cond.methodLink RX8 218 ⟨"IndexRanges$Range", "singleAt", "(I)LIndexRanges$Single;"⟩ ∈ GT := gm2 (i := 101) (by decide +kernel) rfl
theorem g_sm_X5_X5_singleAt : Cond.sameMethod RX5 RX5 "singleAt" "(I)LIndexRanges$Single;" ∈ GT := gm2 (i := 103) (by decide +kernel) rfl
theorem g_se_X0_X5_singleAt_591b_yX0_singleAt : Cond.selects RX0 ⟨"IndexRanges$Range", "singleAt", "(I)LIndexRanges$Single;"⟩ yX0_singleAt ∈ GT := gm2 (i := 104) (by decide +kernel) rfl
theorem g_im_yX0_singleAt : Cond.instanceMethod yX0_singleAt ∈ GT := gm2 (i := 105) (by decide +kernel) rfl
theorem g_cd_yX0_singleAt : Cond.code yX0_singleAt cX0_singleAt 2 (some (.object "IndexRanges$Single")) ∈ GT := gm2 (i := 106) (by decide +kernel) rfl
theorem g_ml_X0_34 : Cond.methodLink RX0 34 ⟨"IndexRanges$Range", "singleAt", "(I)LIndexRanges$Single;"⟩ ∈ GT := gm2 (i := 107) (by decide +kernel) rfl
theorem g_im_yX1_singleAt : Cond.instanceMethod yX1_singleAt ∈ GT := gm2 (i := 108) (by decide +kernel) rfl
theorem g_cd_yX1_singleAt : Cond.code yX1_singleAt cX1_singleAt 7 (some (.object "IndexRanges$Single")) ∈ GT := gm2 (i := 109) (by decide +kernel) rfl
theorem g_ml_X1_41 : Cond.methodLink RX1 41 ⟨"IndexRanges$Range", "singleAt", "(I)LIndexRanges$Single;"⟩ ∈ GT := gm2 (i := 110) (by decide +kernel) rfl
theorem g_im_yX7_singleAt : Cond.instanceMethod yX7_singleAt ∈ GT := gm2 (i := 111) (by decide +kernel) rfl
theorem g_cd_yX7_singleAt : Cond.code yX7_singleAt cX7_singleAt 2 (some (.object "IndexRanges$Single")) ∈ GT := gm2 (i := 112) (by decide +kernel) rfl
theorem g_se_X1_X5_singleAt_591b_yX1_singleAt : Cond.selects RX1 ⟨"IndexRanges$Range", "singleAt", "(I)LIndexRanges$Single;"⟩ yX1_singleAt ∈ GT := gm2 (i := 113) (by decide +kernel) rfl
theorem g_se_X4_X5_singleAt_591b_yX7_singleAt : Cond.selects RX4 ⟨"IndexRanges$Range", "singleAt", "(I)LIndexRanges$Single;"⟩ yX7_singleAt ∈ GT := gm2 (i := 114) (by decide +kernel) rfl
theorem g_se_X6_X5_singleAt_591b_yX7_singleAt : Cond.selects RX6 ⟨"IndexRanges$Range", "singleAt", "(I)LIndexRanges$Single;"⟩ yX7_singleAt ∈ GT := gm2 (i := 115) (by decide +kernel) rfl
theorem g_ml_X8_222 : Cond.methodLink RX8 222 ⟨"IndexRanges$Single", "liesIn", "(LIndexRanges$Single;)Z"⟩ ∈ GT := gm2 (i := 116) (by decide +kernel) rfl
theorem g_sm_X7_X7_liesIn : Cond.sameMethod RX7 RX7 "liesIn" "(LIndexRanges$Single;)Z" ∈ GT := gm2 (i := 118) (by decide +kernel) rfl
theorem g_se_X4_X7_liesIn_7dde_yX4_liesIn : Cond.selects RX4 ⟨"IndexRanges$Single", "liesIn", "(LIndexRanges$Single;)Z"⟩ yX4_liesIn ∈ GT := gm2 (i := 119) (by decide +kernel) rfl
theorem g_im_yX4_liesIn : Cond.instanceMethod yX4_liesIn ∈ GT := gm2 (i := 120) (by decide +kernel) rfl
theorem g_cd_yX4_liesIn : Cond.code yX4_liesIn cX4_liesIn 2 (some .boolean) ∈ GT := gm2 (i := 121) (by decide +kernel) rfl
theorem g_ml_X4_24 : Cond.methodLink RX4 24 ⟨"IndexRanges$Names", "eachLiesIn", "(LIndexRanges$Single;)Z"⟩ ∈ GT := gm2 (i := 122) (by decide +kernel) rfl
theorem g_sm_X4_X7_eachLiesIn : Cond.sameMethod RX4 RX7 "eachLiesIn" "(LIndexRanges$Single;)Z" ∈ GT := gm2 (i := 123) (by decide +kernel) rfl
theorem g_se_X4_X4_eachLiesIn_7dde_yX7_eachLiesIn : Cond.selects RX4 ⟨"IndexRanges$Names", "eachLiesIn", "(LIndexRanges$Single;)Z"⟩ yX7_eachLiesIn ∈ GT := gm2 (i := 125) (by decide +kernel) rfl
theorem g_im_yX7_eachLiesIn : Cond.instanceMethod yX7_eachLiesIn ∈ GT := gm2 (i := 126) (by decide +kernel) rfl
theorem g_cd_yX7_eachLiesIn : Cond.code yX7_eachLiesIn cX7_eachLiesIn 3 (some .boolean) ∈ GT := gm2 (i := 127) (by decide +kernel) rfl
theorem g_kl_X7_44 : Cond.constantLong RX7 44 (-1) ∈ GT := gm2 (i := 128) (by decide +kernel) rfl
theorem g_kl_X7_46 : Cond.constantLong RX7 46 (20) ∈ GT := gm2 (i := 129) (by decide +kernel) rfl
theorem g_ml_X7_33 : Cond.methodLink RX7 33 ⟨"IndexRanges$Single", "valueAt", "(J)J"⟩ ∈ GT := gm2 (i := 130) (by decide +kernel) rfl
theorem g_sm_X7_X7_valueAt : Cond.sameMethod RX7 RX7 "valueAt" "(J)J" ∈ GT := gm2 (i := 132) (by decide +kernel) rfl
theorem g_se_X4_X7_valueAt_467d_yX4_valueAt : Cond.selects RX4 ⟨"IndexRanges$Single", "valueAt", "(J)J"⟩ yX4_valueAt ∈ GT := gm2 (i := 133) (by decide +kernel) rfl
theorem g_im_yX4_valueAt : Cond.instanceMethod yX4_valueAt ∈ GT := gm2 (i := 134) (by decide +kernel) rfl
theorem g_cd_yX4_valueAt : Cond.code yX4_valueAt cX4_valueAt 5 (some .long) ∈ GT := gm2 (i := 135) (by decide +kernel) rfl
theorem g_se_X6_X7_valueAt_467d_yX6_valueAt : Cond.selects RX6 ⟨"IndexRanges$Single", "valueAt", "(J)J"⟩ yX6_valueAt ∈ GT := gm2 (i := 136) (by decide +kernel) rfl
theorem g_im_yX6_valueAt : Cond.instanceMethod yX6_valueAt ∈ GT := gm2 (i := 137) (by decide +kernel) rfl
theorem g_cd_yX6_valueAt : Cond.code yX6_valueAt cX6_valueAt 3 (some .long) ∈ GT := gm2 (i := 138) (by decide +kernel) rfl
theorem g_se_X6_X7_liesIn_7dde_yX6_liesIn : Cond.selects RX6 ⟨"IndexRanges$Single", "liesIn", "(LIndexRanges$Single;)Z"⟩ yX6_liesIn ∈ GT := gm2 (i := 139) (by decide +kernel) rfl
theorem g_im_yX6_liesIn : Cond.instanceMethod yX6_liesIn ∈ GT := gm2 (i := 140) (by decide +kernel) rfl
theorem g_cd_yX6_liesIn : Cond.code yX6_liesIn cX6_liesIn 3 (some .boolean) ∈ GT := gm2 (i := 141) (by decide +kernel) rfl
theorem g_cl_X6_10 : Cond.classLink RX6 10 RX6 ∈ GT := gm2 (i := 142) (by decide +kernel) rfl
theorem g_ml_X6_33 : Cond.methodLink RX6 33 yX6_liesInRow ∈ GT := gm2 (i := 143) (by decide +kernel) rfl
theorem g_im_yX6_liesInRow : Cond.instanceMethod yX6_liesInRow ∈ GT := gm2 (i := 145) (by decide +kernel) rfl
theorem g_cd_yX6_liesInRow : Cond.code yX6_liesInRow cX6_liesInRow 2 (some .boolean) ∈ GT := gm2 (i := 146) (by decide +kernel) rfl
theorem g_ml_X6_41 : Cond.methodLink RX6 41 yX6_placeOf ∈ GT := gm2 (i := 147) (by decide +kernel) rfl
theorem g_ml_X6_37 : Cond.methodLink RX6 37 ⟨"IndexRanges$Row", "eachLiesIn", "(LIndexRanges$Single;)Z"⟩ ∈ GT := gm2 (i := 148) (by decide +kernel) rfl
theorem g_sm_X6_X7_eachLiesIn : Cond.sameMethod RX6 RX7 "eachLiesIn" "(LIndexRanges$Single;)Z" ∈ GT := gm2 (i := 149) (by decide +kernel) rfl
theorem g_se_X6_X6_eachLiesIn_7dde_yX7_eachLiesIn : Cond.selects RX6 ⟨"IndexRanges$Row", "eachLiesIn", "(LIndexRanges$Single;)Z"⟩ yX7_eachLiesIn ∈ GT := gm2 (i := 150) (by decide +kernel) rfl
theorem g_ml_L_136 : Cond.methodLink RL 136 yX8_sum ∈ GT := gm2 (i := 151) (by decide +kernel) rfl
theorem g_im_yX8_sum : Cond.instanceMethod yX8_sum ∈ GT := gm2 (i := 152) (by decide +kernel) rfl
theorem g_se_X8_yX8_sum_yX8_sum : Cond.selects RX8 yX8_sum yX8_sum ∈ GT := gm2 (i := 153) (by decide +kernel) rfl
theorem g_cd_yX8_sum : Cond.code yX8_sum cX8_sum 9 (some .long) ∈ GT := gm2 (i := 154) (by decide +kernel) rfl
theorem g_ml_X8_178 : Cond.methodLink RX8 178 yX8_baseOf ∈ GT := gm2 (i := 155) (by decide +kernel) rfl
theorem g_im_yX8_baseOf : Cond.instanceMethod yX8_baseOf ∈ GT := gm2 (i := 157) (by decide +kernel) rfl
theorem g_cd_yX8_baseOf : Cond.code yX8_baseOf cX8_baseOf 2 (some (.object "IndexRanges$Range")) ∈ GT := gm2 (i := 158) (by decide +kernel) rfl
theorem g_ml_X8_135 : Cond.methodLink RX8 135 ⟨"IndexRanges$Range", "fill", "(LIndexRanges$Hand;IJ)V"⟩ ∈ GT := gm2 (i := 159) (by decide +kernel) rfl
theorem g_sm_X5_X5_fill : Cond.sameMethod RX5 RX5 "fill" "(LIndexRanges$Hand;IJ)V" ∈ GT := gm2 (i := 161) (by decide +kernel) rfl
theorem g_se_X0_X5_fill_66fc_yX0_fill : Cond.selects RX0 ⟨"IndexRanges$Range", "fill", "(LIndexRanges$Hand;IJ)V"⟩ yX0_fill ∈ GT := gm2 (i := 162) (by decide +kernel) rfl
theorem g_im_yX0_fill : Cond.instanceMethod yX0_fill ∈ GT := gm2 (i := 163) (by decide +kernel) rfl
theorem g_cd_yX0_fill : Cond.code yX0_fill cX0_fill 5 (none : Option Jvm.ClassFile.FieldType) ∈ GT := gm2 (i := 164) (by decide +kernel) rfl
theorem g_ml_X0_30 : Cond.methodLink RX0 30 ⟨"IndexRanges$Range", "fill", "(LIndexRanges$Hand;IJ)V"⟩ ∈ GT := gm2 (i := 165) (by decide +kernel) rfl
theorem g_im_yX1_fill : Cond.instanceMethod yX1_fill ∈ GT := gm2 (i := 166) (by decide +kernel) rfl
theorem g_cd_yX1_fill : Cond.code yX1_fill cX1_fill 11 (none : Option Jvm.ClassFile.FieldType) ∈ GT := gm2 (i := 167) (by decide +kernel) rfl
theorem g_ml_X1_37 : Cond.methodLink RX1 37 ⟨"IndexRanges$Range", "fill", "(LIndexRanges$Hand;IJ)V"⟩ ∈ GT := gm2 (i := 168) (by decide +kernel) rfl
theorem g_im_yX7_fill : Cond.instanceMethod yX7_fill ∈ GT := gm2 (i := 169) (by decide +kernel) rfl
theorem g_cd_yX7_fill : Cond.code yX7_fill cX7_fill 5 (none : Option Jvm.ClassFile.FieldType) ∈ GT := gm2 (i := 170) (by decide +kernel) rfl
theorem g_ml_X7_36 : Cond.methodLink RX7 36 yX2_take ∈ GT := gm2 (i := 171) (by decide +kernel) rfl
theorem g_im_yX2_take : Cond.instanceMethod yX2_take ∈ GT := gm2 (i := 172) (by decide +kernel) rfl
theorem g_se_X2_yX2_take_yX2_take : Cond.selects RX2 yX2_take yX2_take ∈ GT := gm2 (i := 173) (by decide +kernel) rfl
theorem g_cd_yX2_take : Cond.code yX2_take cX2_take 4 (none : Option Jvm.ClassFile.FieldType) ∈ GT := gm2 (i := 174) (by decide +kernel) rfl
theorem g_se_X1_X5_fill_66fc_yX1_fill : Cond.selects RX1 ⟨"IndexRanges$Range", "fill", "(LIndexRanges$Hand;IJ)V"⟩ yX1_fill ∈ GT := gm2 (i := 175) (by decide +kernel) rfl
theorem g_se_X4_X5_fill_66fc_yX7_fill : Cond.selects RX4 ⟨"IndexRanges$Range", "fill", "(LIndexRanges$Hand;IJ)V"⟩ yX7_fill ∈ GT := gm2 (i := 176) (by decide +kernel) rfl
theorem g_se_X6_X5_fill_66fc_yX7_fill : Cond.selects RX6 ⟨"IndexRanges$Range", "fill", "(LIndexRanges$Hand;IJ)V"⟩ yX7_fill ∈ GT := gm2 (i := 177) (by decide +kernel) rfl
theorem g_ml_X8_111 : Cond.methodLink RX8 111 yX2_look ∈ GT := gm2 (i := 178) (by decide +kernel) rfl
theorem g_ml_L_141 : Cond.methodLink RL 141 yX8_over ∈ GT := gm2 (i := 179) (by decide +kernel) rfl
theorem g_im_yX8_over : Cond.instanceMethod yX8_over ∈ GT := gm2 (i := 180) (by decide +kernel) rfl
theorem g_se_X8_yX8_over_yX8_over : Cond.selects RX8 yX8_over yX8_over ∈ GT := gm2 (i := 181) (by decide +kernel) rfl
theorem g_cd_yX8_over : Cond.code yX8_over cX8_over 3 (some .int) ∈ GT := gm2 (i := 182) (by decide +kernel) rfl
theorem g_ml_L_145 : Cond.methodLink RL 145 yX8_count ∈ GT := gm2 (i := 183) (by decide +kernel) rfl
theorem g_im_yX8_count : Cond.instanceMethod yX8_count ∈ GT := gm2 (i := 184) (by decide +kernel) rfl
theorem g_se_X8_yX8_count_yX8_count : Cond.selects RX8 yX8_count yX8_count ∈ GT := gm2 (i := 185) (by decide +kernel) rfl
theorem g_cd_yX8_count : Cond.code yX8_count cX8_count 2 (some .int) ∈ GT := gm2 (i := 186) (by decide +kernel) rfl
theorem g_ml_X8_187 : Cond.methodLink RX8 187 yX8_cellsInUse ∈ GT := gm2 (i := 187) (by decide +kernel) rfl
theorem g_im_yX8_cellsInUse : Cond.instanceMethod yX8_cellsInUse ∈ GT := gm2 (i := 189) (by decide +kernel) rfl
theorem g_cd_yX8_cellsInUse : Cond.code yX8_cellsInUse cX8_cellsInUse 4 (some .int) ∈ GT := gm2 (i := 190) (by decide +kernel) rfl
theorem g_ml_L_149 : Cond.methodLink RL 149 yX8_clear ∈ GT := gm2 (i := 191) (by decide +kernel) rfl
theorem g_im_yX8_clear : Cond.instanceMethod yX8_clear ∈ GT := gm2 (i := 192) (by decide +kernel) rfl
theorem g_se_X8_yX8_clear_yX8_clear : Cond.selects RX8 yX8_clear yX8_clear ∈ GT := gm2 (i := 193) (by decide +kernel) rfl
theorem g_cd_yX8_clear : Cond.code yX8_clear cX8_clear 2 (some .int) ∈ GT := gm2 (i := 194) (by decide +kernel) rfl
theorem g_ml_X8_190 : Cond.methodLink RX8 190 yX2_drop ∈ GT := gm2 (i := 195) (by decide +kernel) rfl
theorem g_im_yX2_drop : Cond.instanceMethod yX2_drop ∈ GT := gm2 (i := 196) (by decide +kernel) rfl
theorem g_se_X2_yX2_drop_yX2_drop : Cond.selects RX2 yX2_drop yX2_drop ∈ GT := gm2 (i := 197) (by decide +kernel) rfl
theorem g_cd_yX2_drop : Cond.code yX2_drop cX2_drop 1 (none : Option Jvm.ClassFile.FieldType) ∈ GT := gm2 (i := 198) (by decide +kernel) rfl
theorem g_ml_X2_15 : Cond.methodLink RX2 15 yJ7_fill_d0a16 ∈ GT := gm2 (i := 199) (by decide +kernel) rfl
theorem g_st_yJ7_fill_d0a16 : Cond.static yJ7_fill_d0a16 ∈ GT := gm2 (i := 200) (by decide +kernel) rfl
theorem g_cd_yJ7_fill_d0a16 : Cond.code yJ7_fill_d0a16 cJ7_fill_d0a16 5 (none : Option Jvm.ClassFile.FieldType) ∈ GT := gm2 (i := 201) (by decide +kernel) rfl
theorem g_ml_X8_193 : Cond.methodLink RX8 193 yX3_forget ∈ GT := gm2 (i := 202) (by decide +kernel) rfl
theorem g_im_yX3_forget : Cond.instanceMethod yX3_forget ∈ GT := gm2 (i := 203) (by decide +kernel) rfl
theorem g_se_X3_yX3_forget_yX3_forget : Cond.selects RX3 yX3_forget yX3_forget ∈ GT := gm2 (i := 204) (by decide +kernel) rfl
theorem g_cd_yX3_forget : Cond.code yX3_forget cX3_forget 1 (none : Option Jvm.ClassFile.FieldType) ∈ GT := gm2 (i := 205) (by decide +kernel) rfl
theorem g_ml_L_91 : Cond.methodLink RL 91 yL_hold ∈ GT := gm2 (i := 206) (by decide +kernel) rfl
theorem g_st_yL_hold : Cond.static yL_hold ∈ GT := gm2 (i := 207) (by decide +kernel) rfl
theorem g_cw_yL_hold : Cond.codeWith yL_hold cL_hold 6 (some .int) [(0, 10, 13, 13)] ∈ GT := gm2 (i := 208) (by decide +kernel) rfl
theorem g_cl_L_13 : Cond.classLink RL 13 RJx00060 ∈ GT := gm2 (i := 209) (by decide +kernel) rfl
theorem g_ins_Jx00060 : Cond.instantiable RJx00060 6 ∈ GT := gm2 (i := 210) (by decide +kernel) rfl
theorem g_im_yJx00060_init_a7421 : Cond.instanceMethod yJx00060_init_a7421 ∈ GT := gm2 (i := 211) (by decide +kernel) rfl
theorem g_cd_yJx00060_init_a7421 : Cond.code yJx00060_init_a7421 cJx00060_init_a7421 2 (none : Option Jvm.ClassFile.FieldType) ∈ GT := gm2 (i := 212) (by decide +kernel) rfl
theorem g_ml_Jx00060_7 : Cond.methodLink RJx00060 7 ⟨"java/lang/IndexOutOfBoundsException", "<init>", "(Ljava/lang/String;)V"⟩ ∈ GT := gm2 (i := 213) (by decide +kernel) rfl
theorem g_im_java_lang_IndexOutOfBoundsException__init__db43 : Cond.instanceMethod ⟨"java/lang/IndexOutOfBoundsException", "<init>", "(Ljava/lang/String;)V"⟩ ∈ GT := gm2 (i := 214) (by decide +kernel) rfl
theorem g_cd_java_lang_IndexOutOfBoundsException__init__db43 : Cond.code ⟨"java/lang/IndexOutOfBoundsException", "<init>", "(Ljava/lang/String;)V"⟩ prog_15_method_2_code 2 (none : Option Jvm.ClassFile.FieldType) ∈ GT := gm2 (i := 215) (by decide +kernel) rfl
theorem g_ml_java_lang_IndexOutOfBoundsException_7 : Cond.methodLink "java/lang/IndexOutOfBoundsException" 7 ⟨"java/lang/RuntimeException", "<init>", "(Ljava/lang/String;)V"⟩ ∈ GT := gm2 (i := 216) (by decide +kernel) rfl
theorem g_im_java_lang_RuntimeException__init__db43 : Cond.instanceMethod ⟨"java/lang/RuntimeException", "<init>", "(Ljava/lang/String;)V"⟩ ∈ GT := gm2 (i := 217) (by decide +kernel) rfl
theorem g_cd_java_lang_RuntimeException__init__db43 : Cond.code ⟨"java/lang/RuntimeException", "<init>", "(Ljava/lang/String;)V"⟩ prog_17_method_2_code 2 (none : Option Jvm.ClassFile.FieldType) ∈ GT := gm2 (i := 218) (by decide +kernel) rfl
theorem g_ml_java_lang_RuntimeException_7 : Cond.methodLink "java/lang/RuntimeException" 7 ⟨"java/lang/Exception", "<init>", "(Ljava/lang/String;)V"⟩ ∈ GT := gm2 (i := 219) (by decide +kernel) rfl
theorem g_im_java_lang_Exception__init__db43 : Cond.instanceMethod ⟨"java/lang/Exception", "<init>", "(Ljava/lang/String;)V"⟩ ∈ GT := gm2 (i := 220) (by decide +kernel) rfl
theorem g_cd_java_lang_Exception__init__db43 : Cond.code ⟨"java/lang/Exception", "<init>", "(Ljava/lang/String;)V"⟩ prog_13_method_2_code 2 (none : Option Jvm.ClassFile.FieldType) ∈ GT := gm2 (i := 221) (by decide +kernel) rfl
theorem g_ml_java_lang_Exception_7 : Cond.methodLink "java/lang/Exception" 7 ⟨"java/lang/Throwable", "<init>", "(Ljava/lang/String;)V"⟩ ∈ GT := gm2 (i := 222) (by decide +kernel) rfl
theorem g_im_java_lang_Throwable__init__db43 : Cond.instanceMethod ⟨"java/lang/Throwable", "<init>", "(Ljava/lang/String;)V"⟩ ∈ GT := gm2 (i := 223) (by decide +kernel) rfl
theorem g_cd_java_lang_Throwable__init__db43 : Cond.code ⟨"java/lang/Throwable", "<init>", "(Ljava/lang/String;)V"⟩ prog_19_method_2_code 2 (none : Option Jvm.ClassFile.FieldType) ∈ GT := gm2 (i := 224) (by decide +kernel) rfl
theorem g_ml_java_lang_Throwable_1 : Cond.methodLink "java/lang/Throwable" 1 ⟨"java/lang/Object", "<init>", "()V"⟩ ∈ GT := gm2 (i := 225) (by decide +kernel) rfl
theorem g_fl_java_lang_Throwable_13 : Cond.fieldLink "java/lang/Throwable" 13 "java/lang/Throwable" "UNASSIGNED_STACK" "[Ljava/lang/StackTraceElement;" ∈ GT := gm2 (i := 226) (by decide +kernel) rfl
theorem g_fl_java_lang_Throwable_20 : Cond.fieldLink "java/lang/Throwable" 20 "java/lang/Throwable" "SUPPRESSED_SENTINEL" "Ljava/util/List;" ∈ GT := gm2 (i := 228) (by decide +kernel) rfl
theorem g_ml_java_lang_Throwable_27 : Cond.methodLink "java/lang/Throwable" 27 ⟨"java/lang/Throwable", "fillInStackTrace", "()Ljava/lang/Throwable;"⟩ ∈ GT := gm2 (i := 230) (by decide +kernel) rfl
theorem g_im_java_lang_Throwable_fillInStackTrace_4ef2 : Cond.instanceMethod ⟨"java/lang/Throwable", "fillInStackTrace", "()Ljava/lang/Throwable;"⟩ ∈ GT := gm2 (i := 231) (by decide +kernel) rfl
theorem g_se_Jx00060_java_lang_Throwable_fillInStackTrace_4ef2_java_lang_Throwable_fillInStackTrace_4ef2 : Cond.selects RJx00060 ⟨"java/lang/Throwable", "fillInStackTrace", "()Ljava/lang/Throwable;"⟩ ⟨"java/lang/Throwable", "fillInStackTrace", "()Ljava/lang/Throwable;"⟩ ∈ GT := gm2 (i := 233) (by decide +kernel) rfl
theorem g_se_java_lang_IllegalArgumentException_java_lang_Throwable_fillInStackTrace_4ef2_java_lang_Throwable_fillInStackTrace_4ef2 : Cond.selects "java/lang/IllegalArgumentException" ⟨"java/lang/Throwable", "fillInStackTrace", "()Ljava/lang/Throwable;"⟩ ⟨"java/lang/Throwable", "fillInStackTrace", "()Ljava/lang/Throwable;"⟩ ∈ GT := gm2 (i := 234) (by decide +kernel) rfl
theorem g_se_java_lang_IndexOutOfBoundsException_java_lang_Throwable_fillInStackTrace_4ef2_java_lang_Throwable_fillInStackTrace_4ef2 : Cond.selects "java/lang/IndexOutOfBoundsException" ⟨"java/lang/Throwable", "fillInStackTrace", "()Ljava/lang/Throwable;"⟩ ⟨"java/lang/Throwable", "fillInStackTrace", "()Ljava/lang/Throwable;"⟩ ∈ GT := gm2 (i := 235) (by decide +kernel) rfl
theorem g_se_Jxde1cd_java_lang_Throwable_fillInStackTrace_4ef2_java_lang_Throwable_fillInStackTrace_4ef2 : Cond.selects RJxde1cd ⟨"java/lang/Throwable", "fillInStackTrace", "()Ljava/lang/Throwable;"⟩ ⟨"java/lang/Throwable", "fillInStackTrace", "()Ljava/lang/Throwable;"⟩ ∈ GT := gm2 (i := 236) (by decide +kernel) rfl
theorem g_ml_java_lang_Throwable_202 : Cond.methodLink "java/lang/Throwable" 202 ⟨"java/lang/Throwable", "fillInStackTrace", "(I)Ljava/lang/Throwable;"⟩ ∈ GT := gm2 (i := 238) (by decide +kernel) rfl
theorem g_im_java_lang_Throwable_fillInStackTrace_ecd7 : Cond.instanceMethod ⟨"java/lang/Throwable", "fillInStackTrace", "(I)Ljava/lang/Throwable;"⟩ ∈ GT := gm3 (i := 0) (by decide +kernel) rfl
theorem g_ins_java_lang_Throwable : Cond.instantiable "java/lang/Throwable" 6 ∈ GT := gm3 (i := 1) (by decide +kernel) rfl
theorem g_fl_java_lang_Throwable_198 : Cond.fieldLink "java/lang/Throwable" 198 "java/lang/Throwable" "backtrace" "Ljava/lang/Object;" ∈ GT := gm3 (i := 3) (by decide +kernel) rfl
theorem g_fl_java_lang_Throwable_31 : Cond.fieldLink "java/lang/Throwable" 31 "java/lang/Throwable" "detailMessage" "Ljava/lang/String;" ∈ GT := gm3 (i := 4) (by decide +kernel) rfl
theorem g_fl_java_lang_Throwable_7 : Cond.fieldLink "java/lang/Throwable" 7 "java/lang/Throwable" "cause" "Ljava/lang/Throwable;" ∈ GT := gm3 (i := 5) (by decide +kernel) rfl
theorem g_fl_java_lang_Throwable_17 : Cond.fieldLink "java/lang/Throwable" 17 "java/lang/Throwable" "stackTrace" "[Ljava/lang/StackTraceElement;" ∈ GT := gm3 (i := 6) (by decide +kernel) rfl
theorem g_fl_java_lang_Throwable_24 : Cond.fieldLink "java/lang/Throwable" 24 "java/lang/Throwable" "suppressedExceptions" "Ljava/util/List;" ∈ GT := gm3 (i := 7) (by decide +kernel) rfl
theorem g_sup_Jx00060_java_lang_IndexOutOfBoundsException : Cond.superclass RJx00060 "java/lang/IndexOutOfBoundsException" ∈ GT := gm3 (i := 20) (by decide +kernel) rfl
theorem g_se_Jx00060_java_lang_Throwable_fillInStackTrace_ecd7_java_lang_Throwable_fillInStackTrace_ecd7 : Cond.selects RJx00060 ⟨"java/lang/Throwable", "fillInStackTrace", "(I)Ljava/lang/Throwable;"⟩ ⟨"java/lang/Throwable", "fillInStackTrace", "(I)Ljava/lang/Throwable;"⟩ ∈ GT := gm3 (i := 30) (by decide +kernel) rfl
theorem g_sup_java_lang_Throwable_java_lang_Object : Cond.superclass "java/lang/Throwable" "java/lang/Object" ∈ GT := gm3 (i := 37) (by decide +kernel) rfl
theorem g_im_java_lang_Throwable__init__47f5 : Cond.instanceMethod ⟨"java/lang/Throwable", "<init>", "()V"⟩ ∈ GT := gm3 (i := 38) (by decide +kernel) rfl
theorem g_cd_java_lang_Throwable__init__47f5 : Cond.code ⟨"java/lang/Throwable", "<init>", "()V"⟩ prog_19_method_1_code 1 (none : Option Jvm.ClassFile.FieldType) ∈ GT := gm3 (i := 39) (by decide +kernel) rfl
theorem g_ins_J0 : Cond.instantiable RJ0 4 ∈ GT := gm3 (i := 40) (by decide +kernel) rfl
theorem g_ac_byte : Cond.arrayClass .byte ∈ GT := gm3 (i := 41) (by decide +kernel) rfl
theorem g_ml_L_7 : Cond.methodLink RL 7 yX8_hold ∈ GT := gm3 (i := 46) (by decide +kernel) rfl
theorem g_im_yX8_hold : Cond.instanceMethod yX8_hold ∈ GT := gm3 (i := 47) (by decide +kernel) rfl
theorem g_se_X8_yX8_hold_yX8_hold : Cond.selects RX8 yX8_hold yX8_hold ∈ GT := gm3 (i := 48) (by decide +kernel) rfl
theorem g_cd_yX8_hold : Cond.code yX8_hold cX8_hold 6 (some .long) ∈ GT := gm3 (i := 49) (by decide +kernel) rfl
theorem g_cl_X8_104 : Cond.classLink RX8 104 RJx00060 ∈ GT := gm3 (i := 50) (by decide +kernel) rfl
theorem g_ml_X8_108 : Cond.methodLink RX8 108 yJx00060_init_a7421 ∈ GT := gm3 (i := 52) (by decide +kernel) rfl
theorem g_ml_X8_114 : Cond.methodLink RX8 114 yX2_take ∈ GT := gm3 (i := 53) (by decide +kernel) rfl
theorem g_ml_L_101 : Cond.methodLink RL 101 yL_held ∈ GT := gm3 (i := 54) (by decide +kernel) rfl
theorem g_st_yL_held : Cond.static yL_held ∈ GT := gm3 (i := 55) (by decide +kernel) rfl
theorem g_cw_yL_held : Cond.codeWith yL_held cL_held 4 (some .int) [(0, 8, 11, 13)] ∈ GT := gm3 (i := 56) (by decide +kernel) rfl
theorem g_ml_L_15 : Cond.methodLink RL 15 yX8_held ∈ GT := gm3 (i := 57) (by decide +kernel) rfl
theorem g_im_yX8_held : Cond.instanceMethod yX8_held ∈ GT := gm3 (i := 58) (by decide +kernel) rfl
theorem g_se_X8_yX8_held_yX8_held : Cond.selects RX8 yX8_held yX8_held ∈ GT := gm3 (i := 59) (by decide +kernel) rfl
theorem g_cd_yX8_held : Cond.code yX8_held cX8_held 2 (some .long) ∈ GT := gm3 (i := 60) (by decide +kernel) rfl
theorem g_ml_L_105 : Cond.methodLink RL 105 yL_index ∈ GT := gm3 (i := 61) (by decide +kernel) rfl
theorem g_st_yL_index : Cond.static yL_index ∈ GT := gm3 (i := 62) (by decide +kernel) rfl
theorem g_cw_yL_index : Cond.codeWith yL_index cL_index 4 (some .int) [(0, 8, 11, 22)] ∈ GT := gm3 (i := 63) (by decide +kernel) rfl
theorem g_cl_L_22 : Cond.classLink RL 22 "java/lang/IndexOutOfBoundsException" ∈ GT := gm3 (i := 64) (by decide +kernel) rfl
theorem g_ml_L_19 : Cond.methodLink RL 19 yX8_index ∈ GT := gm3 (i := 65) (by decide +kernel) rfl
theorem g_im_yX8_index : Cond.instanceMethod yX8_index ∈ GT := gm3 (i := 66) (by decide +kernel) rfl
theorem g_se_X8_yX8_index_yX8_index : Cond.selects RX8 yX8_index yX8_index ∈ GT := gm3 (i := 67) (by decide +kernel) rfl
theorem g_cd_yX8_index : Cond.code yX8_index cX8_index 5 (some .long) ∈ GT := gm3 (i := 68) (by decide +kernel) rfl
theorem g_cl_X8_124 : Cond.classLink RX8 124 "java/lang/IndexOutOfBoundsException" ∈ GT := gm3 (i := 69) (by decide +kernel) rfl
theorem g_ins_java_lang_IndexOutOfBoundsException : Cond.instantiable "java/lang/IndexOutOfBoundsException" 6 ∈ GT := gm3 (i := 70) (by decide +kernel) rfl
theorem g_se_java_lang_IndexOutOfBoundsException_java_lang_Throwable_fillInStackTrace_ecd7_java_lang_Throwable_fillInStackTrace_ecd7 : Cond.selects "java/lang/IndexOutOfBoundsException" ⟨"java/lang/Throwable", "fillInStackTrace", "(I)Ljava/lang/Throwable;"⟩ ⟨"java/lang/Throwable", "fillInStackTrace", "(I)Ljava/lang/Throwable;"⟩ ∈ GT := gm3 (i := 72) (by decide +kernel) rfl
theorem g_ml_X8_128 : Cond.methodLink RX8 128 ⟨"java/lang/IndexOutOfBoundsException", "<init>", "(Ljava/lang/String;)V"⟩ ∈ GT := gm3 (i := 79) (by decide +kernel) rfl
theorem g_sup_java_lang_IndexOutOfBoundsException_java_lang_RuntimeException : Cond.superclass "java/lang/IndexOutOfBoundsException" "java/lang/RuntimeException" ∈ GT := gm3 (i := 81) (by decide +kernel) rfl
theorem g_ml_L_112 : Cond.methodLink RL 112 yL_element ∈ GT := gm3 (i := 82) (by decide +kernel) rfl
theorem g_st_yL_element : Cond.static yL_element ∈ GT := gm3 (i := 83) (by decide +kernel) rfl
theorem g_cw_yL_element : Cond.codeWith yL_element cL_element 6 (some .int) [(0, 11, 14, 22)] ∈ GT := gm3 (i := 84) (by decide +kernel) rfl
theorem g_ml_L_24 : Cond.methodLink RL 24 yX8_element ∈ GT := gm3 (i := 85) (by decide +kernel) rfl
theorem g_im_yX8_element : Cond.instanceMethod yX8_element ∈ GT := gm3 (i := 86) (by decide +kernel) rfl
theorem g_se_X8_yX8_element_yX8_element : Cond.selects RX8 yX8_element yX8_element ∈ GT := gm3 (i := 87) (by decide +kernel) rfl
theorem g_cd_yX8_element : Cond.code yX8_element cX8_element 5 (some .int) ∈ GT := gm3 (i := 88) (by decide +kernel) rfl
theorem g_ml_X8_129 : Cond.methodLink RX8 129 yX5_reaches ∈ GT := gm3 (i := 89) (by decide +kernel) rfl
theorem g_im_yX5_reaches : Cond.instanceMethod yX5_reaches ∈ GT := gm3 (i := 90) (by decide +kernel) rfl
theorem g_sm_X5_X5_reaches : Cond.sameMethod RX5 RX5 "reaches" "(J)Z" ∈ GT := gm3 (i := 91) (by decide +kernel) rfl
theorem g_se_X0_yX5_reaches_yX5_reaches : Cond.selects RX0 yX5_reaches yX5_reaches ∈ GT := gm3 (i := 92) (by decide +kernel) rfl
theorem g_se_X1_yX5_reaches_yX5_reaches : Cond.selects RX1 yX5_reaches yX5_reaches ∈ GT := gm3 (i := 93) (by decide +kernel) rfl
theorem g_se_X4_yX5_reaches_yX5_reaches : Cond.selects RX4 yX5_reaches yX5_reaches ∈ GT := gm3 (i := 94) (by decide +kernel) rfl
theorem g_se_X6_yX5_reaches_yX5_reaches : Cond.selects RX6 yX5_reaches yX5_reaches ∈ GT := gm3 (i := 95) (by decide +kernel) rfl
theorem g_cd_yX5_reaches : Cond.code yX5_reaches cX5_reaches 3 (some .boolean) ∈ GT := gm3 (i := 96) (by decide +kernel) rfl
theorem g_kl_X5_25 : Cond.constantLong RX5 25 (-1) ∈ GT := gm3 (i := 97) (by decide +kernel) rfl
theorem g_ml_L_115 : Cond.methodLink RL 115 yL_go ∈ GT := gm3 (i := 99) (by decide +kernel) rfl
theorem g_st_yL_go : Cond.static yL_go ∈ GT := gm3 (i := 100) (by decide +kernel) rfl
theorem g_cw_yL_go : Cond.codeWith yL_go cL_go 6 (some .int) [(0, 10, 13, 22)] ∈ GT := gm3 (i := 101) (by decide +kernel) rfl
theorem g_ml_L_28 : Cond.methodLink RL 28 yX8_go ∈ GT := gm3 (i := 102) (by decide +kernel) rfl
theorem g_im_yX8_go : Cond.instanceMethod yX8_go ∈ GT := gm3 (i := 103) (by decide +kernel) rfl
theorem g_se_X8_yX8_go_yX8_go : Cond.selects RX8 yX8_go yX8_go ∈ GT := gm3 (i := 104) (by decide +kernel) rfl
theorem g_cd_yX8_go : Cond.code yX8_go cX8_go 7 (some .long) ∈ GT := gm3 (i := 105) (by decide +kernel) rfl
theorem g_ml_L_126 : Cond.methodLink RL 126 yL_array ∈ GT := gm3 (i := 107) (by decide +kernel) rfl
theorem g_st_yL_array : Cond.static yL_array ∈ GT := gm3 (i := 108) (by decide +kernel) rfl
theorem g_cw_yL_array : Cond.codeWith yL_array cL_array 4 (some .int) [(0, 9, 12, 35), (0, 9, 15, 37)] ∈ GT := gm3 (i := 109) (by decide +kernel) rfl
theorem g_cl_L_35 : Cond.classLink RL 35 RJxde1cd ∈ GT := gm3 (i := 110) (by decide +kernel) rfl
theorem g_ins_Jxde1cd : Cond.instantiable RJxde1cd 6 ∈ GT := gm3 (i := 111) (by decide +kernel) rfl
theorem g_im_yJxde1cd_init_a7421 : Cond.instanceMethod yJxde1cd_init_a7421 ∈ GT := gm3 (i := 112) (by decide +kernel) rfl
theorem g_cd_yJxde1cd_init_a7421 : Cond.code yJxde1cd_init_a7421 cJxde1cd_init_a7421 2 (none : Option Jvm.ClassFile.FieldType) ∈ GT := gm3 (i := 113) (by decide +kernel) rfl
theorem g_ml_Jxde1cd_7 : Cond.methodLink RJxde1cd 7 ⟨"java/lang/RuntimeException", "<init>", "(Ljava/lang/String;)V"⟩ ∈ GT := gm3 (i := 114) (by decide +kernel) rfl
theorem g_sup_Jxde1cd_java_lang_RuntimeException : Cond.superclass RJxde1cd "java/lang/RuntimeException" ∈ GT := gm3 (i := 121) (by decide +kernel) rfl
theorem g_se_Jxde1cd_java_lang_Throwable_fillInStackTrace_ecd7_java_lang_Throwable_fillInStackTrace_ecd7 : Cond.selects RJxde1cd ⟨"java/lang/Throwable", "fillInStackTrace", "(I)Ljava/lang/Throwable;"⟩ ⟨"java/lang/Throwable", "fillInStackTrace", "(I)Ljava/lang/Throwable;"⟩ ∈ GT := gm3 (i := 123) (by decide +kernel) rfl
theorem g_cl_L_37 : Cond.classLink RL 37 "java/lang/IllegalArgumentException" ∈ GT := gm3 (i := 124) (by decide +kernel) rfl
theorem g_ml_L_31 : Cond.methodLink RL 31 yX8_array ∈ GT := gm3 (i := 125) (by decide +kernel) rfl
theorem g_im_yX8_array : Cond.instanceMethod yX8_array ∈ GT := gm3 (i := 126) (by decide +kernel) rfl
theorem g_se_X8_yX8_array_yX8_array : Cond.selects RX8 yX8_array yX8_array ∈ GT := gm3 (i := 127) (by decide +kernel) rfl
theorem g_cd_yX8_array : Cond.code yX8_array cX8_array 3 (some .int) ∈ GT := gm3 (i := 128) (by decide +kernel) rfl
theorem g_cl_X8_161 : Cond.classLink RX8 161 RJxde1cd ∈ GT := gm3 (i := 129) (by decide +kernel) rfl
theorem g_ml_X8_165 : Cond.methodLink RX8 165 yJxde1cd_init_a7421 ∈ GT := gm3 (i := 131) (by decide +kernel) rfl
theorem g_kl_X8_166 : Cond.constantLong RX8 166 (400) ∈ GT := gm3 (i := 132) (by decide +kernel) rfl
theorem g_cl_X8_168 : Cond.classLink RX8 168 "java/lang/IllegalArgumentException" ∈ GT := gm3 (i := 133) (by decide +kernel) rfl
theorem g_ins_java_lang_IllegalArgumentException : Cond.instantiable "java/lang/IllegalArgumentException" 6 ∈ GT := gm3 (i := 134) (by decide +kernel) rfl
theorem g_se_java_lang_IllegalArgumentException_java_lang_Throwable_fillInStackTrace_ecd7_java_lang_Throwable_fillInStackTrace_ecd7 : Cond.selects "java/lang/IllegalArgumentException" ⟨"java/lang/Throwable", "fillInStackTrace", "(I)Ljava/lang/Throwable;"⟩ ⟨"java/lang/Throwable", "fillInStackTrace", "(I)Ljava/lang/Throwable;"⟩ ∈ GT := gm3 (i := 136) (by decide +kernel) rfl
theorem g_ml_X8_172 : Cond.methodLink RX8 172 ⟨"java/lang/IllegalArgumentException", "<init>", "(Ljava/lang/String;)V"⟩ ∈ GT := gm3 (i := 143) (by decide +kernel) rfl
theorem g_im_java_lang_IllegalArgumentException__init__db43 : Cond.instanceMethod ⟨"java/lang/IllegalArgumentException", "<init>", "(Ljava/lang/String;)V"⟩ ∈ GT := gm3 (i := 144) (by decide +kernel) rfl
theorem g_cd_java_lang_IllegalArgumentException__init__db43 : Cond.code ⟨"java/lang/IllegalArgumentException", "<init>", "(Ljava/lang/String;)V"⟩ prog_14_method_2_code 2 (none : Option Jvm.ClassFile.FieldType) ∈ GT := gm3 (i := 145) (by decide +kernel) rfl
theorem g_ml_java_lang_IllegalArgumentException_7 : Cond.methodLink "java/lang/IllegalArgumentException" 7 ⟨"java/lang/RuntimeException", "<init>", "(Ljava/lang/String;)V"⟩ ∈ GT := gm3 (i := 146) (by decide +kernel) rfl
theorem g_sup_java_lang_IllegalArgumentException_java_lang_RuntimeException : Cond.superclass "java/lang/IllegalArgumentException" "java/lang/RuntimeException" ∈ GT := gm3 (i := 148) (by decide +kernel) rfl
theorem g_ml_X8_173 : Cond.methodLink RX8 173 yJ7_fill_53178 ∈ GT := gm3 (i := 149) (by decide +kernel) rfl
theorem g_st_yJ7_fill_53178 : Cond.static yJ7_fill_53178 ∈ GT := gm3 (i := 150) (by decide +kernel) rfl
theorem g_cd_yJ7_fill_53178 : Cond.code yJ7_fill_53178 cJ7_fill_53178 4 (none : Option Jvm.ClassFile.FieldType) ∈ GT := gm3 (i := 151) (by decide +kernel) rfl
theorem g_ml_L_129 : Cond.methodLink RL 129 yL_put ∈ GT := gm3 (i := 152) (by decide +kernel) rfl
theorem g_st_yL_put : Cond.static yL_put ∈ GT := gm3 (i := 153) (by decide +kernel) rfl
theorem g_cw_yL_put : Cond.codeWith yL_put cL_put 5 (some .int) [(0, 10, 13, 22)] ∈ GT := gm3 (i := 154) (by decide +kernel) rfl
theorem g_ml_L_39 : Cond.methodLink RL 39 yX8_put ∈ GT := gm3 (i := 155) (by decide +kernel) rfl
theorem g_im_yX8_put : Cond.instanceMethod yX8_put ∈ GT := gm3 (i := 156) (by decide +kernel) rfl
theorem g_se_X8_yX8_put_yX8_put : Cond.selects RX8 yX8_put yX8_put ∈ GT := gm3 (i := 157) (by decide +kernel) rfl
theorem g_cd_yX8_put : Cond.code yX8_put cX8_put 6 (some .int) ∈ GT := gm3 (i := 158) (by decide +kernel) rfl
theorem g_ml_X8_181 : Cond.methodLink RX8 181 yX8_cellOfHand ∈ GT := gm3 (i := 159) (by decide +kernel) rfl
theorem g_im_yX8_cellOfHand : Cond.instanceMethod yX8_cellOfHand ∈ GT := gm3 (i := 161) (by decide +kernel) rfl
theorem g_cd_yX8_cellOfHand : Cond.code yX8_cellOfHand cX8_cellOfHand 4 (some .int) ∈ GT := gm3 (i := 162) (by decide +kernel) rfl
theorem g_ml_L_133 : Cond.methodLink RL 133 yL_at ∈ GT := gm3 (i := 164) (by decide +kernel) rfl
theorem g_st_yL_at : Cond.static yL_at ∈ GT := gm3 (i := 165) (by decide +kernel) rfl
theorem g_cw_yL_at : Cond.codeWith yL_at cL_at 4 (some .int) [(0, 9, 12, 22)] ∈ GT := gm3 (i := 166) (by decide +kernel) rfl
theorem g_ml_L_43 : Cond.methodLink RL 43 yX8_at ∈ GT := gm3 (i := 167) (by decide +kernel) rfl
theorem g_im_yX8_at : Cond.instanceMethod yX8_at ∈ GT := gm3 (i := 168) (by decide +kernel) rfl
theorem g_se_X8_yX8_at_yX8_at : Cond.selects RX8 yX8_at yX8_at ∈ GT := gm3 (i := 169) (by decide +kernel) rfl
theorem g_cd_yX8_at : Cond.code yX8_at cX8_at 4 (some .int) ∈ GT := gm3 (i := 170) (by decide +kernel) rfl
theorem g_cl_L_47 : Cond.classLink RL 47 RX9 ∈ GT := gm3 (i := 171) (by decide +kernel) rfl
theorem g_ins_X9 : Cond.instantiable RX9 22 ∈ GT := gm3 (i := 172) (by decide +kernel) rfl
theorem g_ml_L_49 : Cond.methodLink RL 49 yX9_init ∈ GT := gm3 (i := 173) (by decide +kernel) rfl
theorem g_im_yX9_init : Cond.instanceMethod yX9_init ∈ GT := gm3 (i := 174) (by decide +kernel) rfl
theorem g_cd_yX9_init : Cond.code yX9_init cX9_init 1 (none : Option Jvm.ClassFile.FieldType) ∈ GT := gm3 (i := 175) (by decide +kernel) rfl
theorem g_ml_X9_1 : Cond.methodLink RX9 1 ⟨"java/lang/Object", "<init>", "()V"⟩ ∈ GT := gm3 (i := 176) (by decide +kernel) rfl
theorem g_fl_X9_54 : Cond.fieldLink RX9 54 "IndexRangesModel" "ranges" "I" ∈ GT := gm3 (i := 177) (by decide +kernel) rfl
theorem g_fl_X9_7 : Cond.fieldLink RX9 7 "IndexRangesModel" "kind" "[I" ∈ GT := gm3 (i := 178) (by decide +kernel) rfl
theorem g_fl_X9_13 : Cond.fieldLink RX9 13 "IndexRangesModel" "parts" "[I" ∈ GT := gm3 (i := 179) (by decide +kernel) rfl
theorem g_fl_X9_16 : Cond.fieldLink RX9 16 "IndexRangesModel" "width" "[I" ∈ GT := gm3 (i := 180) (by decide +kernel) rfl
theorem g_fl_X9_19 : Cond.fieldLink RX9 19 "IndexRangesModel" "sizes" "[J" ∈ GT := gm3 (i := 181) (by decide +kernel) rfl
theorem g_fl_X9_23 : Cond.fieldLink RX9 23 "IndexRangesModel" "from" "[J" ∈ GT := gm3 (i := 182) (by decide +kernel) rfl
theorem g_fl_X9_26 : Cond.fieldLink RX9 26 "IndexRangesModel" "to" "[J" ∈ GT := gm3 (i := 183) (by decide +kernel) rfl
theorem g_fl_X9_29 : Cond.fieldLink RX9 29 "IndexRangesModel" "step" "[I" ∈ GT := gm3 (i := 184) (by decide +kernel) rfl
theorem g_fl_X9_32 : Cond.fieldLink RX9 32 "IndexRangesModel" "single" "[I" ∈ GT := gm3 (i := 185) (by decide +kernel) rfl
theorem g_fl_X9_35 : Cond.fieldLink RX9 35 "IndexRangesModel" "turned" "[Z" ∈ GT := gm3 (i := 186) (by decide +kernel) rfl
theorem g_fl_X9_39 : Cond.fieldLink RX9 39 "IndexRangesModel" "deep" "[I" ∈ GT := gm3 (i := 187) (by decide +kernel) rfl
theorem g_fl_X9_42 : Cond.fieldLink RX9 42 "IndexRangesModel" "hand" "[J" ∈ GT := gm3 (i := 188) (by decide +kernel) rfl
theorem g_fl_X9_45 : Cond.fieldLink RX9 45 "IndexRangesModel" "look" "[J" ∈ GT := gm3 (i := 189) (by decide +kernel) rfl
theorem g_fl_X9_124 : Cond.fieldLink RX9 124 "IndexRangesModel" "hasMissed" "Z" ∈ GT := gm3 (i := 190) (by decide +kernel) rfl
theorem g_fl_X9_128 : Cond.fieldLink RX9 128 "IndexRangesModel" "missSingle" "I" ∈ GT := gm3 (i := 191) (by decide +kernel) rfl
theorem g_fl_X9_131 : Cond.fieldLink RX9 131 "IndexRangesModel" "missNumber" "I" ∈ GT := gm3 (i := 192) (by decide +kernel) rfl
theorem g_fl_X9_134 : Cond.fieldLink RX9 134 "IndexRangesModel" "missDeep" "I" ∈ GT := gm3 (i := 193) (by decide +kernel) rfl
theorem g_fl_X9_137 : Cond.fieldLink RX9 137 "IndexRangesModel" "misses" "I" ∈ GT := gm3 (i := 194) (by decide +kernel) rfl
theorem g_fl_X9_62 : Cond.fieldLink RX9 62 "IndexRangesModel" "arrays" "I" ∈ GT := gm3 (i := 195) (by decide +kernel) rfl
theorem g_fl_X9_48 : Cond.fieldLink RX9 48 "IndexRangesModel" "arrayRange" "[I" ∈ GT := gm3 (i := 196) (by decide +kernel) rfl
theorem g_fl_X9_51 : Cond.fieldLink RX9 51 "IndexRangesModel" "cells" "[I" ∈ GT := gm3 (i := 197) (by decide +kernel) rfl
theorem g_fl_X9_65 : Cond.fieldLink RX9 65 "IndexRangesModel" "thrownNow" "I" ∈ GT := gm3 (i := 198) (by decide +kernel) rfl
theorem g_sup_X9_java_lang_Object : Cond.superclass RX9 "java/lang/Object" ∈ GT := gm4 (i := 3) (by decide +kernel) rfl
theorem g_ac_boolean : Cond.arrayClass .boolean ∈ GT := gm4 (i := 4) (by decide +kernel) rfl
theorem g_ml_L_97 : Cond.methodLink RL 97 yX9_thrown ∈ GT := gm4 (i := 5) (by decide +kernel) rfl
theorem g_im_yX9_thrown : Cond.instanceMethod yX9_thrown ∈ GT := gm4 (i := 6) (by decide +kernel) rfl
theorem g_se_X9_yX9_thrown_yX9_thrown : Cond.selects RX9 yX9_thrown yX9_thrown ∈ GT := gm4 (i := 7) (by decide +kernel) rfl
theorem g_cd_yX9_thrown : Cond.code yX9_thrown cX9_thrown 1 (some .int) ∈ GT := gm4 (i := 8) (by decide +kernel) rfl
theorem g_ml_L_56 : Cond.methodLink RL 56 yX9_wholes ∈ GT := gm4 (i := 9) (by decide +kernel) rfl
theorem g_im_yX9_wholes : Cond.instanceMethod yX9_wholes ∈ GT := gm4 (i := 10) (by decide +kernel) rfl
theorem g_se_X9_yX9_wholes_yX9_wholes : Cond.selects RX9 yX9_wholes yX9_wholes ∈ GT := gm4 (i := 11) (by decide +kernel) rfl
theorem g_cd_yX9_wholes : Cond.code yX9_wholes cX9_wholes 5 (some .int) ∈ GT := gm4 (i := 12) (by decide +kernel) rfl
theorem g_ml_X9_82 : Cond.methodLink RX9 82 yX9_addSingle ∈ GT := gm4 (i := 13) (by decide +kernel) rfl
theorem g_im_yX9_addSingle : Cond.instanceMethod yX9_addSingle ∈ GT := gm4 (i := 15) (by decide +kernel) rfl
theorem g_cd_yX9_addSingle : Cond.code yX9_addSingle cX9_addSingle 8 (some .int) ∈ GT := gm4 (i := 16) (by decide +kernel) rfl
theorem g_ml_X9_78 : Cond.methodLink RX9 78 yX9_singleSize ∈ GT := gm4 (i := 17) (by decide +kernel) rfl
theorem g_im_yX9_singleSize : Cond.instanceMethod yX9_singleSize ∈ GT := gm4 (i := 19) (by decide +kernel) rfl
theorem g_cd_yX9_singleSize : Cond.code yX9_singleSize cX9_singleSize 9 (some .long) ∈ GT := gm4 (i := 20) (by decide +kernel) rfl
theorem g_ml_X9_72 : Cond.methodLink RX9 72 yX9_stepsUp ∈ GT := gm4 (i := 21) (by decide +kernel) rfl
theorem g_st_yX9_stepsUp : Cond.static yX9_stepsUp ∈ GT := gm4 (i := 22) (by decide +kernel) rfl
theorem g_cd_yX9_stepsUp : Cond.code yX9_stepsUp cX9_stepsUp 14 (some .long) ∈ GT := gm4 (i := 23) (by decide +kernel) rfl
theorem g_kl_X9_68 : Cond.constantLong RX9 68 (-1) ∈ GT := gm4 (i := 24) (by decide +kernel) rfl
theorem g_kl_X9_70 : Cond.constantLong RX9 70 (2) ∈ GT := gm4 (i := 25) (by decide +kernel) rfl
theorem g_kl_X9_76 : Cond.constantLong RX9 76 (9223372036854775807) ∈ GT := gm4 (i := 26) (by decide +kernel) rfl
theorem g_ml_L_60 : Cond.methodLink RL 60 yX9_signs ∈ GT := gm4 (i := 27) (by decide +kernel) rfl
theorem g_im_yX9_signs : Cond.instanceMethod yX9_signs ∈ GT := gm4 (i := 28) (by decide +kernel) rfl
theorem g_se_X9_yX9_signs_yX9_signs : Cond.selects RX9 yX9_signs yX9_signs ∈ GT := gm4 (i := 29) (by decide +kernel) rfl
theorem g_cd_yX9_signs : Cond.code yX9_signs cX9_signs 3 (some .int) ∈ GT := gm4 (i := 30) (by decide +kernel) rfl
theorem g_kl_X9_86 : Cond.constantLong RX9 86 (65535) ∈ GT := gm4 (i := 31) (by decide +kernel) rfl
theorem g_ml_X9_58 : Cond.methodLink RX9 58 yX9_in ∈ GT := gm4 (i := 32) (by decide +kernel) rfl
theorem g_st_yX9_in : Cond.static yX9_in ∈ GT := gm4 (i := 33) (by decide +kernel) rfl
theorem g_cd_yX9_in : Cond.code yX9_in cX9_in 6 (some .boolean) ∈ GT := gm4 (i := 34) (by decide +kernel) rfl
theorem g_ml_L_65 : Cond.methodLink RL 65 yX9_names ∈ GT := gm4 (i := 35) (by decide +kernel) rfl
theorem g_im_yX9_names : Cond.instanceMethod yX9_names ∈ GT := gm4 (i := 36) (by decide +kernel) rfl
theorem g_se_X9_yX9_names_yX9_names : Cond.selects RX9 yX9_names yX9_names ∈ GT := gm4 (i := 37) (by decide +kernel) rfl
theorem g_cd_yX9_names : Cond.code yX9_names cX9_names 4 (some .int) ∈ GT := gm4 (i := 38) (by decide +kernel) rfl
theorem g_kl_X9_88 : Cond.constantLong RX9 88 (20) ∈ GT := gm4 (i := 39) (by decide +kernel) rfl
theorem g_ml_L_70 : Cond.methodLink RL 70 yX9_steps ∈ GT := gm4 (i := 40) (by decide +kernel) rfl
theorem g_im_yX9_steps : Cond.instanceMethod yX9_steps ∈ GT := gm4 (i := 41) (by decide +kernel) rfl
theorem g_se_X9_yX9_steps_yX9_steps : Cond.selects RX9 yX9_steps yX9_steps ∈ GT := gm4 (i := 42) (by decide +kernel) rfl
theorem g_cd_yX9_steps : Cond.code yX9_steps cX9_steps 6 (some .int) ∈ GT := gm4 (i := 43) (by decide +kernel) rfl
theorem g_kl_X9_90 : Cond.constantLong RX9 90 (-1000000) ∈ GT := gm4 (i := 44) (by decide +kernel) rfl
theorem g_kl_X9_92 : Cond.constantLong RX9 92 (1000000) ∈ GT := gm4 (i := 45) (by decide +kernel) rfl
theorem g_ml_L_74 : Cond.methodLink RL 74 yX9_back ∈ GT := gm4 (i := 46) (by decide +kernel) rfl
theorem g_im_yX9_back : Cond.instanceMethod yX9_back ∈ GT := gm4 (i := 47) (by decide +kernel) rfl
theorem g_se_X9_yX9_back_yX9_back : Cond.selects RX9 yX9_back yX9_back ∈ GT := gm4 (i := 48) (by decide +kernel) rfl
theorem g_cd_yX9_back : Cond.code yX9_back cX9_back 3 (some .int) ∈ GT := gm4 (i := 49) (by decide +kernel) rfl
theorem g_ml_X9_101 : Cond.methodLink RX9 101 yX9_noRange ∈ GT := gm4 (i := 50) (by decide +kernel) rfl
theorem g_im_yX9_noRange : Cond.instanceMethod yX9_noRange ∈ GT := gm4 (i := 52) (by decide +kernel) rfl
theorem g_cd_yX9_noRange : Cond.code yX9_noRange cX9_noRange 2 (some .boolean) ∈ GT := gm4 (i := 53) (by decide +kernel) rfl
theorem g_ml_X9_105 : Cond.methodLink RX9 105 yX9_begin ∈ GT := gm4 (i := 54) (by decide +kernel) rfl
theorem g_im_yX9_begin : Cond.instanceMethod yX9_begin ∈ GT := gm4 (i := 56) (by decide +kernel) rfl
theorem g_cd_yX9_begin : Cond.code yX9_begin cX9_begin 5 (some .int) ∈ GT := gm4 (i := 57) (by decide +kernel) rfl
theorem g_ml_X9_109 : Cond.methodLink RX9 109 yX9_take ∈ GT := gm4 (i := 58) (by decide +kernel) rfl
theorem g_im_yX9_take : Cond.instanceMethod yX9_take ∈ GT := gm4 (i := 60) (by decide +kernel) rfl
theorem g_cd_yX9_take : Cond.code yX9_take cX9_take 6 (none : Option Jvm.ClassFile.FieldType) ∈ GT := gm4 (i := 61) (by decide +kernel) rfl
theorem g_ml_X9_113 : Cond.methodLink RX9 113 yX9_sizeOf ∈ GT := gm4 (i := 62) (by decide +kernel) rfl
theorem g_im_yX9_sizeOf : Cond.instanceMethod yX9_sizeOf ∈ GT := gm4 (i := 64) (by decide +kernel) rfl
theorem g_cd_yX9_sizeOf : Cond.code yX9_sizeOf cX9_sizeOf 8 (some .long) ∈ GT := gm4 (i := 65) (by decide +kernel) rfl
theorem g_ml_X9_97 : Cond.methodLink RX9 97 yX9_times ∈ GT := gm4 (i := 66) (by decide +kernel) rfl
theorem g_st_yX9_times : Cond.static yX9_times ∈ GT := gm4 (i := 67) (by decide +kernel) rfl
theorem g_cd_yX9_times : Cond.code yX9_times cX9_times 4 (some .long) ∈ GT := gm4 (i := 68) (by decide +kernel) rfl
theorem g_ml_L_78 : Cond.methodLink RL 78 yX9_pair ∈ GT := gm4 (i := 69) (by decide +kernel) rfl
theorem g_im_yX9_pair : Cond.instanceMethod yX9_pair ∈ GT := gm4 (i := 70) (by decide +kernel) rfl
theorem g_se_X9_yX9_pair_yX9_pair : Cond.selects RX9 yX9_pair yX9_pair ∈ GT := gm4 (i := 71) (by decide +kernel) rfl
theorem g_cd_yX9_pair : Cond.code yX9_pair cX9_pair 4 (some .int) ∈ GT := gm4 (i := 72) (by decide +kernel) rfl
theorem g_ml_L_82 : Cond.methodLink RL 82 yX9_triple ∈ GT := gm4 (i := 73) (by decide +kernel) rfl
theorem g_im_yX9_triple : Cond.instanceMethod yX9_triple ∈ GT := gm4 (i := 74) (by decide +kernel) rfl
theorem g_se_X9_yX9_triple_yX9_triple : Cond.selects RX9 yX9_triple yX9_triple ∈ GT := gm4 (i := 75) (by decide +kernel) rfl
theorem g_cd_yX9_triple : Cond.code yX9_triple cX9_triple 5 (some .int) ∈ GT := gm4 (i := 76) (by decide +kernel) rfl
theorem g_ml_L_86 : Cond.methodLink RL 86 yX9_told ∈ GT := gm4 (i := 77) (by decide +kernel) rfl
theorem g_im_yX9_told : Cond.instanceMethod yX9_told ∈ GT := gm4 (i := 78) (by decide +kernel) rfl
theorem g_se_X9_yX9_told_yX9_told : Cond.selects RX9 yX9_told yX9_told ∈ GT := gm4 (i := 79) (by decide +kernel) rfl
theorem g_cd_yX9_told : Cond.code yX9_told cX9_told 3 (some .int) ∈ GT := gm4 (i := 80) (by decide +kernel) rfl
theorem g_ml_L_90 : Cond.methodLink RL 90 yX9_size ∈ GT := gm4 (i := 81) (by decide +kernel) rfl
theorem g_im_yX9_size : Cond.instanceMethod yX9_size ∈ GT := gm4 (i := 82) (by decide +kernel) rfl
theorem g_se_X9_yX9_size_yX9_size : Cond.selects RX9 yX9_size yX9_size ∈ GT := gm4 (i := 83) (by decide +kernel) rfl
theorem g_cd_yX9_size : Cond.code yX9_size cX9_size 2 (some .long) ∈ GT := gm4 (i := 84) (by decide +kernel) rfl
theorem g_kl_X9_116 : Cond.constantLong RX9 116 (-1000000101) ∈ GT := gm4 (i := 85) (by decide +kernel) rfl
theorem g_ml_L_96 : Cond.methodLink RL 96 yX9_hold ∈ GT := gm4 (i := 86) (by decide +kernel) rfl
theorem g_im_yX9_hold : Cond.instanceMethod yX9_hold ∈ GT := gm4 (i := 87) (by decide +kernel) rfl
theorem g_se_X9_yX9_hold_yX9_hold : Cond.selects RX9 yX9_hold yX9_hold ∈ GT := gm4 (i := 88) (by decide +kernel) rfl
theorem g_cd_yX9_hold : Cond.code yX9_hold cX9_hold 6 (some .long) ∈ GT := gm4 (i := 89) (by decide +kernel) rfl
theorem g_kl_X9_118 : Cond.constantLong RX9 118 (7) ∈ GT := gm4 (i := 90) (by decide +kernel) rfl
theorem g_ml_L_104 : Cond.methodLink RL 104 yX9_held ∈ GT := gm4 (i := 91) (by decide +kernel) rfl
theorem g_im_yX9_held : Cond.instanceMethod yX9_held ∈ GT := gm4 (i := 92) (by decide +kernel) rfl
theorem g_se_X9_yX9_held_yX9_held : Cond.selects RX9 yX9_held yX9_held ∈ GT := gm4 (i := 93) (by decide +kernel) rfl
theorem g_cd_yX9_held : Cond.code yX9_held cX9_held 2 (some .long) ∈ GT := gm4 (i := 94) (by decide +kernel) rfl
theorem g_ml_L_107 : Cond.methodLink RL 107 yX9_index ∈ GT := gm4 (i := 95) (by decide +kernel) rfl
theorem g_im_yX9_index : Cond.instanceMethod yX9_index ∈ GT := gm4 (i := 96) (by decide +kernel) rfl
theorem g_se_X9_yX9_index_yX9_index : Cond.selects RX9 yX9_index yX9_index ∈ GT := gm4 (i := 97) (by decide +kernel) rfl
theorem g_cd_yX9_index : Cond.code yX9_index cX9_index 2 (some .long) ∈ GT := gm4 (i := 98) (by decide +kernel) rfl
theorem g_ml_X9_147 : Cond.methodLink RX9 147 yX9_isHeld ∈ GT := gm4 (i := 99) (by decide +kernel) rfl
theorem g_im_yX9_isHeld : Cond.instanceMethod yX9_isHeld ∈ GT := gm4 (i := 101) (by decide +kernel) rfl
theorem g_cd_yX9_isHeld : Cond.code yX9_isHeld cX9_isHeld 4 (some .boolean) ∈ GT := gm4 (i := 102) (by decide +kernel) rfl
theorem g_ml_X9_120 : Cond.methodLink RX9 120 yX9_hasNumber ∈ GT := gm4 (i := 103) (by decide +kernel) rfl
theorem g_im_yX9_hasNumber : Cond.instanceMethod yX9_hasNumber ∈ GT := gm4 (i := 105) (by decide +kernel) rfl
theorem g_cd_yX9_hasNumber : Cond.code yX9_hasNumber cX9_hasNumber 7 (some .boolean) ∈ GT := gm4 (i := 106) (by decide +kernel) rfl
theorem g_ml_X9_94 : Cond.methodLink RX9 94 yX9_leftOver ∈ GT := gm4 (i := 107) (by decide +kernel) rfl
theorem g_st_yX9_leftOver : Cond.static yX9_leftOver ∈ GT := gm4 (i := 108) (by decide +kernel) rfl
theorem g_cd_yX9_leftOver : Cond.code yX9_leftOver cX9_leftOver 12 (some .long) ∈ GT := gm4 (i := 109) (by decide +kernel) rfl
theorem g_ml_X9_150 : Cond.methodLink RX9 150 yX9_place ∈ GT := gm4 (i := 110) (by decide +kernel) rfl
theorem g_im_yX9_place : Cond.instanceMethod yX9_place ∈ GT := gm4 (i := 112) (by decide +kernel) rfl
theorem g_cd_yX9_place : Cond.code yX9_place cX9_place 10 (some .long) ∈ GT := gm4 (i := 113) (by decide +kernel) rfl
theorem g_ml_X9_140 : Cond.methodLink RX9 140 yX9_placeOf ∈ GT := gm4 (i := 114) (by decide +kernel) rfl
theorem g_im_yX9_placeOf : Cond.instanceMethod yX9_placeOf ∈ GT := gm4 (i := 116) (by decide +kernel) rfl
theorem g_cd_yX9_placeOf : Cond.code yX9_placeOf cX9_placeOf 5 (some .long) ∈ GT := gm4 (i := 117) (by decide +kernel) rfl
theorem g_ml_L_111 : Cond.methodLink RL 111 yX9_has ∈ GT := gm4 (i := 118) (by decide +kernel) rfl
theorem g_im_yX9_has : Cond.instanceMethod yX9_has ∈ GT := gm4 (i := 119) (by decide +kernel) rfl
theorem g_se_X9_yX9_has_yX9_has : Cond.selects RX9 yX9_has yX9_has ∈ GT := gm4 (i := 120) (by decide +kernel) rfl
theorem g_cd_yX9_has : Cond.code yX9_has cX9_has 2 (some .int) ∈ GT := gm4 (i := 121) (by decide +kernel) rfl
theorem g_ml_L_114 : Cond.methodLink RL 114 yX9_element ∈ GT := gm4 (i := 122) (by decide +kernel) rfl
theorem g_im_yX9_element : Cond.instanceMethod yX9_element ∈ GT := gm4 (i := 123) (by decide +kernel) rfl
theorem g_se_X9_yX9_element_yX9_element : Cond.selects RX9 yX9_element yX9_element ∈ GT := gm4 (i := 124) (by decide +kernel) rfl
theorem g_cd_yX9_element : Cond.code yX9_element cX9_element 4 (some .int) ∈ GT := gm4 (i := 125) (by decide +kernel) rfl
theorem g_ml_X9_153 : Cond.methodLink RX9 153 yX9_hasPlace ∈ GT := gm4 (i := 126) (by decide +kernel) rfl
theorem g_im_yX9_hasPlace : Cond.instanceMethod yX9_hasPlace ∈ GT := gm4 (i := 128) (by decide +kernel) rfl
theorem g_cd_yX9_hasPlace : Cond.code yX9_hasPlace cX9_hasPlace 4 (some .boolean) ∈ GT := gm4 (i := 129) (by decide +kernel) rfl
theorem g_ml_X9_156 : Cond.methodLink RX9 156 yX9_lay ∈ GT := gm4 (i := 130) (by decide +kernel) rfl
theorem g_im_yX9_lay : Cond.instanceMethod yX9_lay ∈ GT := gm4 (i := 132) (by decide +kernel) rfl
theorem g_cd_yX9_lay : Cond.code yX9_lay cX9_lay 11 (none : Option Jvm.ClassFile.FieldType) ∈ GT := gm4 (i := 133) (by decide +kernel) rfl
theorem g_ml_X9_144 : Cond.methodLink RX9 144 yX9_numberAt ∈ GT := gm4 (i := 134) (by decide +kernel) rfl
theorem g_im_yX9_numberAt : Cond.instanceMethod yX9_numberAt ∈ GT := gm4 (i := 136) (by decide +kernel) rfl
theorem g_cd_yX9_numberAt : Cond.code yX9_numberAt cX9_numberAt 4 (some .long) ∈ GT := gm4 (i := 137) (by decide +kernel) rfl
theorem g_ml_L_117 : Cond.methodLink RL 117 yX9_go ∈ GT := gm4 (i := 138) (by decide +kernel) rfl
theorem g_im_yX9_go : Cond.instanceMethod yX9_go ∈ GT := gm4 (i := 139) (by decide +kernel) rfl
theorem g_se_X9_yX9_go_yX9_go : Cond.selects RX9 yX9_go yX9_go ∈ GT := gm4 (i := 140) (by decide +kernel) rfl
theorem g_cd_yX9_go : Cond.code yX9_go cX9_go 6 (some .long) ∈ GT := gm4 (i := 141) (by decide +kernel) rfl
theorem g_kl_X9_160 : Cond.constantLong RX9 160 (-1000000103) ∈ GT := gm4 (i := 142) (by decide +kernel) rfl
theorem g_ml_L_121 : Cond.methodLink RL 121 yX9_miss ∈ GT := gm4 (i := 143) (by decide +kernel) rfl
theorem g_im_yX9_miss : Cond.instanceMethod yX9_miss ∈ GT := gm4 (i := 144) (by decide +kernel) rfl
theorem g_se_X9_yX9_miss_yX9_miss : Cond.selects RX9 yX9_miss yX9_miss ∈ GT := gm4 (i := 145) (by decide +kernel) rfl
theorem g_cd_yX9_miss : Cond.code yX9_miss cX9_miss 2 (some .int) ∈ GT := gm4 (i := 146) (by decide +kernel) rfl
theorem g_ml_L_125 : Cond.methodLink RL 125 yX9_within ∈ GT := gm4 (i := 147) (by decide +kernel) rfl
theorem g_im_yX9_within : Cond.instanceMethod yX9_within ∈ GT := gm4 (i := 148) (by decide +kernel) rfl
theorem g_se_X9_yX9_within_yX9_within : Cond.selects RX9 yX9_within yX9_within ∈ GT := gm4 (i := 149) (by decide +kernel) rfl
theorem g_cd_yX9_within : Cond.code yX9_within cX9_within 5 (some .int) ∈ GT := gm4 (i := 150) (by decide +kernel) rfl
theorem g_ml_X9_165 : Cond.methodLink RX9 165 yX9_liesIn ∈ GT := gm4 (i := 151) (by decide +kernel) rfl
theorem g_im_yX9_liesIn : Cond.instanceMethod yX9_liesIn ∈ GT := gm4 (i := 153) (by decide +kernel) rfl
theorem g_cd_yX9_liesIn : Cond.code yX9_liesIn cX9_liesIn 9 (some .boolean) ∈ GT := gm4 (i := 154) (by decide +kernel) rfl
theorem g_ml_X9_162 : Cond.methodLink RX9 162 yX9_lastOf ∈ GT := gm4 (i := 155) (by decide +kernel) rfl
theorem g_im_yX9_lastOf : Cond.instanceMethod yX9_lastOf ∈ GT := gm4 (i := 157) (by decide +kernel) rfl
theorem g_cd_yX9_lastOf : Cond.code yX9_lastOf cX9_lastOf 6 (some .long) ∈ GT := gm4 (i := 158) (by decide +kernel) rfl
theorem g_ml_L_128 : Cond.methodLink RL 128 yX9_array ∈ GT := gm4 (i := 159) (by decide +kernel) rfl
theorem g_im_yX9_array : Cond.instanceMethod yX9_array ∈ GT := gm4 (i := 160) (by decide +kernel) rfl
theorem g_se_X9_yX9_array_yX9_array : Cond.selects RX9 yX9_array yX9_array ∈ GT := gm4 (i := 161) (by decide +kernel) rfl
theorem g_cd_yX9_array : Cond.code yX9_array cX9_array 3 (some .int) ∈ GT := gm4 (i := 162) (by decide +kernel) rfl
theorem g_kl_X9_169 : Cond.constantLong RX9 169 (400) ∈ GT := gm4 (i := 163) (by decide +kernel) rfl
theorem g_ml_L_132 : Cond.methodLink RL 132 yX9_put ∈ GT := gm4 (i := 164) (by decide +kernel) rfl
theorem g_im_yX9_put : Cond.instanceMethod yX9_put ∈ GT := gm4 (i := 165) (by decide +kernel) rfl
theorem g_se_X9_yX9_put_yX9_put : Cond.selects RX9 yX9_put yX9_put ∈ GT := gm4 (i := 166) (by decide +kernel) rfl
theorem g_cd_yX9_put : Cond.code yX9_put cX9_put 5 (some .int) ∈ GT := gm4 (i := 167) (by decide +kernel) rfl
theorem g_ml_X9_171 : Cond.methodLink RX9 171 yX9_noArray ∈ GT := gm4 (i := 168) (by decide +kernel) rfl
theorem g_im_yX9_noArray : Cond.instanceMethod yX9_noArray ∈ GT := gm4 (i := 170) (by decide +kernel) rfl
theorem g_cd_yX9_noArray : Cond.code yX9_noArray cX9_noArray 2 (some .boolean) ∈ GT := gm4 (i := 171) (by decide +kernel) rfl
theorem g_ml_X9_174 : Cond.methodLink RX9 174 yX9_cellOf ∈ GT := gm4 (i := 172) (by decide +kernel) rfl
theorem g_im_yX9_cellOf : Cond.instanceMethod yX9_cellOf ∈ GT := gm4 (i := 174) (by decide +kernel) rfl
theorem g_cd_yX9_cellOf : Cond.code yX9_cellOf cX9_cellOf 2 (some .int) ∈ GT := gm4 (i := 175) (by decide +kernel) rfl
theorem g_ml_L_135 : Cond.methodLink RL 135 yX9_at ∈ GT := gm4 (i := 176) (by decide +kernel) rfl
theorem g_im_yX9_at : Cond.instanceMethod yX9_at ∈ GT := gm4 (i := 177) (by decide +kernel) rfl
theorem g_se_X9_yX9_at_yX9_at : Cond.selects RX9 yX9_at yX9_at ∈ GT := gm4 (i := 178) (by decide +kernel) rfl
theorem g_cd_yX9_at : Cond.code yX9_at cX9_at 3 (some .int) ∈ GT := gm4 (i := 179) (by decide +kernel) rfl
theorem g_ml_L_140 : Cond.methodLink RL 140 yX9_sum ∈ GT := gm4 (i := 180) (by decide +kernel) rfl
theorem g_im_yX9_sum : Cond.instanceMethod yX9_sum ∈ GT := gm4 (i := 181) (by decide +kernel) rfl
theorem g_se_X9_yX9_sum_yX9_sum : Cond.selects RX9 yX9_sum yX9_sum ∈ GT := gm4 (i := 182) (by decide +kernel) rfl
theorem g_cd_yX9_sum : Cond.code yX9_sum cX9_sum 9 (some .long) ∈ GT := gm4 (i := 183) (by decide +kernel) rfl
theorem g_kl_X9_178 : Cond.constantLong RX9 178 (-1000000102) ∈ GT := gm4 (i := 184) (by decide +kernel) rfl
theorem g_ml_L_144 : Cond.methodLink RL 144 yX9_over ∈ GT := gm4 (i := 185) (by decide +kernel) rfl
theorem g_im_yX9_over : Cond.instanceMethod yX9_over ∈ GT := gm4 (i := 186) (by decide +kernel) rfl
theorem g_se_X9_yX9_over_yX9_over : Cond.selects RX9 yX9_over yX9_over ∈ GT := gm4 (i := 187) (by decide +kernel) rfl
theorem g_cd_yX9_over : Cond.code yX9_over cX9_over 2 (some .int) ∈ GT := gm4 (i := 188) (by decide +kernel) rfl
theorem g_ml_L_148 : Cond.methodLink RL 148 yX9_count ∈ GT := gm4 (i := 189) (by decide +kernel) rfl
theorem g_im_yX9_count : Cond.instanceMethod yX9_count ∈ GT := gm4 (i := 190) (by decide +kernel) rfl
theorem g_se_X9_yX9_count_yX9_count : Cond.selects RX9 yX9_count yX9_count ∈ GT := gm4 (i := 191) (by decide +kernel) rfl
theorem g_cd_yX9_count : Cond.code yX9_count cX9_count 4 (some .int) ∈ GT := gm4 (i := 192) (by decide +kernel) rfl
theorem g_ml_L_152 : Cond.methodLink RL 152 yX9_clear ∈ GT := gm4 (i := 193) (by decide +kernel) rfl
theorem g_im_yX9_clear : Cond.instanceMethod yX9_clear ∈ GT := gm4 (i := 194) (by decide +kernel) rfl
theorem g_se_X9_yX9_clear_yX9_clear : Cond.selects RX9 yX9_clear yX9_clear ∈ GT := gm4 (i := 195) (by decide +kernel) rfl
theorem g_cd_yX9_clear : Cond.code yX9_clear cX9_clear 3 (some .int) ∈ GT := gm4 (i := 196) (by decide +kernel) rfl
theorem g_kl_L_50 : Cond.constantLong RL 50 (4294967295) ∈ GT := gm4 (i := 197) (by decide +kernel) rfl
theorem g_se_X6_yX6_placeOf_yX6_placeOf : Cond.selects RX6 yX6_placeOf yX6_placeOf ∈ GT := gm4 (i := 198) (by decide +kernel) rfl
theorem g_se_X8_yX8_addRow_yX8_addRow : Cond.selects RX8 yX8_addRow yX8_addRow ∈ GT := gm0 (i := 0) (by decide +kernel) rfl
theorem g_se_X8_yX8_isFull_yX8_isFull : Cond.selects RX8 yX8_isFull yX8_isFull ∈ GT := gm0 (i := 1) (by decide +kernel) rfl
theorem g_se_X8_yX8_add_yX8_add : Cond.selects RX8 yX8_add yX8_add ∈ GT := gm0 (i := 2) (by decide +kernel) rfl
theorem g_se_X8_yX8_rangeOf_yX8_rangeOf : Cond.selects RX8 yX8_rangeOf yX8_rangeOf ∈ GT := gm0 (i := 3) (by decide +kernel) rfl
theorem g_se_X8_yX8_addBeside_yX8_addBeside : Cond.selects RX8 yX8_addBeside yX8_addBeside ∈ GT := gm0 (i := 4) (by decide +kernel) rfl
theorem g_se_X8_yX8_placeOfHand_yX8_placeOfHand : Cond.selects RX8 yX8_placeOfHand yX8_placeOfHand ∈ GT := gm0 (i := 5) (by decide +kernel) rfl
theorem g_se_X6_yX6_liesInRow_yX6_liesInRow : Cond.selects RX6 yX6_liesInRow yX6_liesInRow ∈ GT := gm0 (i := 6) (by decide +kernel) rfl
theorem g_se_X8_yX8_baseOf_yX8_baseOf : Cond.selects RX8 yX8_baseOf yX8_baseOf ∈ GT := gm0 (i := 7) (by decide +kernel) rfl
theorem g_se_X8_yX8_cellsInUse_yX8_cellsInUse : Cond.selects RX8 yX8_cellsInUse yX8_cellsInUse ∈ GT := gm0 (i := 8) (by decide +kernel) rfl
theorem g_se_X8_yX8_cellOfHand_yX8_cellOfHand : Cond.selects RX8 yX8_cellOfHand yX8_cellOfHand ∈ GT := gm0 (i := 10) (by decide +kernel) rfl
theorem g_se_X9_yX9_addSingle_yX9_addSingle : Cond.selects RX9 yX9_addSingle yX9_addSingle ∈ GT := gm0 (i := 11) (by decide +kernel) rfl
theorem g_se_X9_yX9_singleSize_yX9_singleSize : Cond.selects RX9 yX9_singleSize yX9_singleSize ∈ GT := gm0 (i := 12) (by decide +kernel) rfl
theorem g_se_X9_yX9_noRange_yX9_noRange : Cond.selects RX9 yX9_noRange yX9_noRange ∈ GT := gm0 (i := 13) (by decide +kernel) rfl
theorem g_se_X9_yX9_begin_yX9_begin : Cond.selects RX9 yX9_begin yX9_begin ∈ GT := gm0 (i := 14) (by decide +kernel) rfl
theorem g_se_X9_yX9_take_yX9_take : Cond.selects RX9 yX9_take yX9_take ∈ GT := gm0 (i := 15) (by decide +kernel) rfl
theorem g_se_X9_yX9_sizeOf_yX9_sizeOf : Cond.selects RX9 yX9_sizeOf yX9_sizeOf ∈ GT := gm0 (i := 16) (by decide +kernel) rfl
theorem g_se_X9_yX9_isHeld_yX9_isHeld : Cond.selects RX9 yX9_isHeld yX9_isHeld ∈ GT := gm0 (i := 17) (by decide +kernel) rfl
theorem g_se_X9_yX9_hasNumber_yX9_hasNumber : Cond.selects RX9 yX9_hasNumber yX9_hasNumber ∈ GT := gm0 (i := 18) (by decide +kernel) rfl
theorem g_se_X9_yX9_place_yX9_place : Cond.selects RX9 yX9_place yX9_place ∈ GT := gm0 (i := 19) (by decide +kernel) rfl
theorem g_se_X9_yX9_placeOf_yX9_placeOf : Cond.selects RX9 yX9_placeOf yX9_placeOf ∈ GT := gm0 (i := 20) (by decide +kernel) rfl
theorem g_se_X9_yX9_hasPlace_yX9_hasPlace : Cond.selects RX9 yX9_hasPlace yX9_hasPlace ∈ GT := gm0 (i := 21) (by decide +kernel) rfl
theorem g_se_X9_yX9_lay_yX9_lay : Cond.selects RX9 yX9_lay yX9_lay ∈ GT := gm0 (i := 22) (by decide +kernel) rfl
theorem g_se_X9_yX9_numberAt_yX9_numberAt : Cond.selects RX9 yX9_numberAt yX9_numberAt ∈ GT := gm0 (i := 23) (by decide +kernel) rfl
theorem g_se_X9_yX9_liesIn_yX9_liesIn : Cond.selects RX9 yX9_liesIn yX9_liesIn ∈ GT := gm0 (i := 24) (by decide +kernel) rfl
theorem g_se_X9_yX9_lastOf_yX9_lastOf : Cond.selects RX9 yX9_lastOf yX9_lastOf ∈ GT := gm0 (i := 25) (by decide +kernel) rfl
theorem g_se_X9_yX9_noArray_yX9_noArray : Cond.selects RX9 yX9_noArray yX9_noArray ∈ GT := gm0 (i := 26) (by decide +kernel) rfl
theorem g_se_X9_yX9_cellOf_yX9_cellOf : Cond.selects RX9 yX9_cellOf yX9_cellOf ∈ GT := gm0 (i := 27) (by decide +kernel) rfl
theorem in_X0 : ∀ w ∈ u_ws RX0 TX0 5, w ∈ GT := fun w h => gm_of ((by decide +kernel : ∀ w ∈ u_ws RX0 TX0 5, w ∈ lw_tbl) w h) ((by decide +kernel : ∀ w ∈ u_ws RX0 TX0 5, goodWord w = true) w h)
theorem in_X1 : ∀ w ∈ u_ws RX1 TX1 5, w ∈ GT := fun w h => gm_of ((by decide +kernel : ∀ w ∈ u_ws RX1 TX1 5, w ∈ lw_tbl) w h) ((by decide +kernel : ∀ w ∈ u_ws RX1 TX1 5, goodWord w = true) w h)
theorem in_X2 : ∀ w ∈ u_ws RX2 TX2 1, w ∈ GT := fun w h => gm_of ((by decide +kernel : ∀ w ∈ u_ws RX2 TX2 1, w ∈ lw_tbl) w h) ((by decide +kernel : ∀ w ∈ u_ws RX2 TX2 1, goodWord w = true) w h)
theorem in_X3 : ∀ w ∈ u_ws RX3 TX3 4, w ∈ GT := fun w h => gm_of ((by decide +kernel : ∀ w ∈ u_ws RX3 TX3 4, w ∈ lw_tbl) w h) ((by decide +kernel : ∀ w ∈ u_ws RX3 TX3 4, goodWord w = true) w h)
theorem in_X4 : ∀ w ∈ u_ws RX4 TX4 6, w ∈ GT := fun w h => gm_of ((by decide +kernel : ∀ w ∈ u_ws RX4 TX4 6, w ∈ lw_tbl) w h) ((by decide +kernel : ∀ w ∈ u_ws RX4 TX4 6, goodWord w = true) w h)
theorem in_X6 : ∀ w ∈ u_ws RX6 TX6 7, w ∈ GT := fun w h => gm_of ((by decide +kernel : ∀ w ∈ u_ws RX6 TX6 7, w ∈ lw_tbl) w h) ((by decide +kernel : ∀ w ∈ u_ws RX6 TX6 7, goodWord w = true) w h)
theorem in_X8 : ∀ w ∈ u_ws RX8 TX8 8, w ∈ GT := fun w h => gm_of ((by decide +kernel : ∀ w ∈ u_ws RX8 TX8 8, w ∈ lw_tbl) w h) ((by decide +kernel : ∀ w ∈ u_ws RX8 TX8 8, goodWord w = true) w h)
theorem in_X9 : ∀ w ∈ u_ws RX9 TX9 22, w ∈ GT := fun w h => gm_of ((by decide +kernel : ∀ w ∈ u_ws RX9 TX9 22, w ∈ lw_tbl) w h) ((by decide +kernel : ∀ w ∈ u_ws RX9 TX9 22, goodWord w = true) w h)
