theorem kw_0 : Cond.fieldLink R_Heap 9 "LazyCounts$Heap" "owners" "[I" ∈ zz_tb := List.mem_filter.mpr ⟨List.mem_of_getElem? (i := 39) (by decide +kernel), rfl⟩
theorem kw_1 : Cond.fieldLink R_Heap 15 "LazyCounts$Heap" "words" "[I" ∈ zz_tb := List.mem_filter.mpr ⟨List.mem_of_getElem? (i := 40) (by decide +kernel), rfl⟩
theorem kc_2 : Cond.code y_Heap_isFirst b_Heap_isFirst 2 (some .boolean) ∈ zz_tb := List.mem_filter.mpr ⟨List.mem_of_getElem? (i := 162) rfl, rfl⟩
theorem kw_3 : Cond.methodLink R_Heap 37 y_Heap_isFirst ∈ zz_tb := List.mem_filter.mpr ⟨List.mem_of_getElem? (i := 159) (by decide +kernel), rfl⟩
theorem kw_4 : Cond.instanceMethod y_Heap_isFirst ∈ zz_tb := List.mem_filter.mpr ⟨List.mem_of_getElem? (i := 160) (by decide +kernel), rfl⟩
theorem kw_5 : Cond.selects R_Heap y_Heap_isFirst y_Heap_isFirst ∈ zz_tb := List.mem_filter.mpr ⟨List.mem_of_getElem? (i := 161) (by decide +kernel), rfl⟩
theorem kw_6 : Cond.initialized R_Heap ∈ zz_tb := List.mem_filter.mpr ⟨List.mem_of_getElem? (i := 21) (by decide +kernel), rfl⟩
theorem kc_7 : Cond.code y_Heap_slotsAt b_Heap_slotsAt 4 (some .int) ∈ zz_tb := List.mem_filter.mpr ⟨List.mem_of_getElem? (i := 129) rfl, rfl⟩
theorem kw_8 : Cond.methodLink R_Heap 22 y_Heap_slotsAt ∈ zz_tb := List.mem_filter.mpr ⟨List.mem_of_getElem? (i := 175) (by decide +kernel), rfl⟩
theorem kw_9 : Cond.instanceMethod y_Heap_slotsAt ∈ zz_tb := List.mem_filter.mpr ⟨List.mem_of_getElem? (i := 127) (by decide +kernel), rfl⟩
theorem kw_10 : Cond.selects R_Heap y_Heap_slotsAt y_Heap_slotsAt ∈ zz_tb := List.mem_filter.mpr ⟨List.mem_of_getElem? (i := 128) (by decide +kernel), rfl⟩
theorem kc_11 : Cond.code y_Heap_isUncounted b_Heap_isUncounted 2 (some .boolean) ∈ zz_tb := List.mem_filter.mpr ⟨List.mem_of_getElem? (i := 158) rfl, rfl⟩
theorem kw_12 : Cond.methodLink R_Heap 41 y_Heap_isUncounted ∈ zz_tb := List.mem_filter.mpr ⟨List.mem_of_getElem? (i := 294) (by decide +kernel), rfl⟩
theorem kw_13 : Cond.instanceMethod y_Heap_isUncounted ∈ zz_tb := List.mem_filter.mpr ⟨List.mem_of_getElem? (i := 156) (by decide +kernel), rfl⟩
theorem kw_14 : Cond.selects R_Heap y_Heap_isUncounted y_Heap_isUncounted ∈ zz_tb := List.mem_filter.mpr ⟨List.mem_of_getElem? (i := 157) (by decide +kernel), rfl⟩
theorem kc_15 : Cond.code y_Heap_firstCellOf b_Heap_firstCellOf 3 (some .int) ∈ zz_tb := List.mem_filter.mpr ⟨List.mem_of_getElem? (i := 125) rfl, rfl⟩
theorem kw_16 : Cond.methodLink R_Heap 34 y_Heap_firstCellOf ∈ zz_tb := List.mem_filter.mpr ⟨List.mem_of_getElem? (i := 138) (by decide +kernel), rfl⟩
theorem kw_17 : Cond.instanceMethod y_Heap_firstCellOf ∈ zz_tb := List.mem_filter.mpr ⟨List.mem_of_getElem? (i := 123) (by decide +kernel), rfl⟩
theorem kw_18 : Cond.selects R_Heap y_Heap_firstCellOf y_Heap_firstCellOf ∈ zz_tb := List.mem_filter.mpr ⟨List.mem_of_getElem? (i := 124) (by decide +kernel), rfl⟩
theorem kw_19 : Cond.fieldLink R_Heap 18 "LazyCounts$Heap" "made" "I" ∈ zz_tb := List.mem_filter.mpr ⟨List.mem_of_getElem? (i := 41) (by decide +kernel), rfl⟩
theorem kc_20 : Cond.code y_Heap_inSlot b_Heap_inSlot 3 (some .int) ∈ zz_tb := List.mem_filter.mpr ⟨List.mem_of_getElem? (i := 142) rfl, rfl⟩
theorem kw_21 : Cond.methodLink R_Heap 26 y_Heap_inSlot ∈ zz_tb := List.mem_filter.mpr ⟨List.mem_of_getElem? (i := 176) (by decide +kernel), rfl⟩
theorem kw_22 : Cond.instanceMethod y_Heap_inSlot ∈ zz_tb := List.mem_filter.mpr ⟨List.mem_of_getElem? (i := 140) (by decide +kernel), rfl⟩
theorem kw_23 : Cond.selects R_Heap y_Heap_inSlot y_Heap_inSlot ∈ zz_tb := List.mem_filter.mpr ⟨List.mem_of_getElem? (i := 141) (by decide +kernel), rfl⟩
theorem kc_24 : Cond.code y_Heap_addToCount b_Heap_addToCount 4 none ∈ zz_tb := List.mem_filter.mpr ⟨List.mem_of_getElem? (i := 137) rfl, rfl⟩
theorem kw_25 : Cond.methodLink R_Heap 30 y_Heap_addToCount ∈ zz_tb := List.mem_filter.mpr ⟨List.mem_of_getElem? (i := 177) (by decide +kernel), rfl⟩
theorem kw_26 : Cond.instanceMethod y_Heap_addToCount ∈ zz_tb := List.mem_filter.mpr ⟨List.mem_of_getElem? (i := 135) (by decide +kernel), rfl⟩
theorem kw_27 : Cond.selects R_Heap y_Heap_addToCount y_Heap_addToCount ∈ zz_tb := List.mem_filter.mpr ⟨List.mem_of_getElem? (i := 136) (by decide +kernel), rfl⟩
theorem kw_28 : Cond.fieldLink R_Places 15 "LazyCounts$Places" "height" "I" ∈ zz_tb := List.mem_filter.mpr ⟨List.mem_of_getElem? (i := 57) (by decide +kernel), rfl⟩
theorem kw_29 : Cond.fieldLink R_Places 9 "LazyCounts$Places" "objects" "[I" ∈ zz_tb := List.mem_filter.mpr ⟨List.mem_of_getElem? (i := 56) (by decide +kernel), rfl⟩
theorem kw_30 : Cond.fieldLink R_Entries 20 "LazyCounts$Entries" "length" "I" ∈ zz_tb := List.mem_filter.mpr ⟨List.mem_of_getElem? (i := 73) (by decide +kernel), rfl⟩
theorem kw_31 : Cond.fieldLink R_Entries 9 "LazyCounts$Entries" "objects" "[I" ∈ zz_tb := List.mem_filter.mpr ⟨List.mem_of_getElem? (i := 71) (by decide +kernel), rfl⟩
theorem kw_32 : Cond.fieldLink R_Entries 17 "LazyCounts$Entries" "slotsBefore" "[[I" ∈ zz_tb := List.mem_filter.mpr ⟨List.mem_of_getElem? (i := 72) (by decide +kernel), rfl⟩
theorem kw_33 : Cond.fieldLink R_X 19 "LazyCounts" "places" "LLazyCounts$Places;" ∈ zz_tb := List.mem_filter.mpr ⟨List.mem_of_getElem? (i := 82) (by decide +kernel), rfl⟩
theorem kc_34 : Cond.code y_Places_has b_Places_has 2 (some .boolean) ∈ zz_tb := List.mem_filter.mpr ⟨List.mem_of_getElem? (i := 193) rfl, rfl⟩
theorem kw_35 : Cond.methodLink R_X 53 y_Places_has ∈ zz_tb := List.mem_filter.mpr ⟨List.mem_of_getElem? (i := 190) (by decide +kernel), rfl⟩
theorem kw_36 : Cond.instanceMethod y_Places_has ∈ zz_tb := List.mem_filter.mpr ⟨List.mem_of_getElem? (i := 191) (by decide +kernel), rfl⟩
theorem kw_37 : Cond.selects R_Places y_Places_has y_Places_has ∈ zz_tb := List.mem_filter.mpr ⟨List.mem_of_getElem? (i := 192) (by decide +kernel), rfl⟩
theorem kw_38 : Cond.initialized R_Places ∈ zz_tb := List.mem_filter.mpr ⟨List.mem_of_getElem? (i := 22) (by decide +kernel), rfl⟩
theorem kw_39 : Cond.fieldLink R_X 10 "LazyCounts" "heap" "LLazyCounts$Heap;" ∈ zz_tb := List.mem_filter.mpr ⟨List.mem_of_getElem? (i := 81) (by decide +kernel), rfl⟩
theorem kc_40 : Cond.code y_Places_at b_Places_at 2 (some .int) ∈ zz_tb := List.mem_filter.mpr ⟨List.mem_of_getElem? (i := 197) rfl, rfl⟩
theorem kw_41 : Cond.methodLink R_X 57 y_Places_at ∈ zz_tb := List.mem_filter.mpr ⟨List.mem_of_getElem? (i := 194) (by decide +kernel), rfl⟩
theorem kw_42 : Cond.instanceMethod y_Places_at ∈ zz_tb := List.mem_filter.mpr ⟨List.mem_of_getElem? (i := 195) (by decide +kernel), rfl⟩
theorem kw_43 : Cond.selects R_Places y_Places_at y_Places_at ∈ zz_tb := List.mem_filter.mpr ⟨List.mem_of_getElem? (i := 196) (by decide +kernel), rfl⟩
theorem kw_44 : Cond.methodLink R_X 87 y_Heap_firstCellOf ∈ zz_tb := List.mem_filter.mpr ⟨List.mem_of_getElem? (i := 122) (by decide +kernel), rfl⟩
theorem kw_45 : Cond.methodLink R_X 96 y_Heap_isUncounted ∈ zz_tb := List.mem_filter.mpr ⟨List.mem_of_getElem? (i := 155) (by decide +kernel), rfl⟩
theorem kc_46 : Cond.code y_Heap_objectIn b_Heap_objectIn 2 (some .int) ∈ zz_tb := List.mem_filter.mpr ⟨List.mem_of_getElem? (i := 166) rfl, rfl⟩
theorem kw_47 : Cond.methodLink R_X 113 y_Heap_objectIn ∈ zz_tb := List.mem_filter.mpr ⟨List.mem_of_getElem? (i := 163) (by decide +kernel), rfl⟩
theorem kw_48 : Cond.instanceMethod y_Heap_objectIn ∈ zz_tb := List.mem_filter.mpr ⟨List.mem_of_getElem? (i := 164) (by decide +kernel), rfl⟩
theorem kw_49 : Cond.selects R_Heap y_Heap_objectIn y_Heap_objectIn ∈ zz_tb := List.mem_filter.mpr ⟨List.mem_of_getElem? (i := 165) (by decide +kernel), rfl⟩
theorem kc_50 : Cond.code y_Places_hold b_Places_hold 3 (some .boolean) ∈ zz_tb := List.mem_filter.mpr ⟨List.mem_of_getElem? (i := 170) rfl, rfl⟩
theorem kw_51 : Cond.methodLink R_X 145 y_Places_hold ∈ zz_tb := List.mem_filter.mpr ⟨List.mem_of_getElem? (i := 167) (by decide +kernel), rfl⟩
theorem kw_52 : Cond.instanceMethod y_Places_hold ∈ zz_tb := List.mem_filter.mpr ⟨List.mem_of_getElem? (i := 168) (by decide +kernel), rfl⟩
theorem kw_53 : Cond.selects R_Places y_Places_hold y_Places_hold ∈ zz_tb := List.mem_filter.mpr ⟨List.mem_of_getElem? (i := 169) (by decide +kernel), rfl⟩
theorem kc_54 : Cond.code y_X_firstUnheld b_X_firstUnheld 2 (some .int) ∈ zz_tb := List.mem_filter.mpr ⟨List.mem_of_getElem? (i := 154) rfl, rfl⟩
theorem kw_55 : Cond.methodLink R_X 139 y_X_firstUnheld ∈ zz_tb := List.mem_filter.mpr ⟨List.mem_of_getElem? (i := 151) (by decide +kernel), rfl⟩
theorem kw_56 : Cond.instanceMethod y_X_firstUnheld ∈ zz_tb := List.mem_filter.mpr ⟨List.mem_of_getElem? (i := 153) (by decide +kernel), rfl⟩
theorem kw_57 : Cond.selects R_X y_X_firstUnheld y_X_firstUnheld ∈ zz_tb := List.mem_filter.mpr ⟨List.mem_of_getElem? (i := 3) (by decide +kernel), rfl⟩
theorem kw_58 : Cond.initialized R_X ∈ zz_tb := List.mem_filter.mpr ⟨List.mem_of_getElem? (i := 20) (by decide +kernel), rfl⟩
theorem kc_59 : Cond.code y_Heap_giveBack b_Heap_giveBack 4 none ∈ zz_tb := List.mem_filter.mpr ⟨List.mem_of_getElem? (i := 174) rfl, rfl⟩
theorem kw_60 : Cond.methodLink R_X 142 y_Heap_giveBack ∈ zz_tb := List.mem_filter.mpr ⟨List.mem_of_getElem? (i := 171) (by decide +kernel), rfl⟩
theorem kw_61 : Cond.instanceMethod y_Heap_giveBack ∈ zz_tb := List.mem_filter.mpr ⟨List.mem_of_getElem? (i := 172) (by decide +kernel), rfl⟩
theorem kw_62 : Cond.selects R_Heap y_Heap_giveBack y_Heap_giveBack ∈ zz_tb := List.mem_filter.mpr ⟨List.mem_of_getElem? (i := 173) (by decide +kernel), rfl⟩
theorem kw_63 : Cond.fieldLink R_X 26 "LazyCounts" "entries" "LLazyCounts$Entries;" ∈ zz_tb := List.mem_filter.mpr ⟨List.mem_of_getElem? (i := 83) (by decide +kernel), rfl⟩
theorem kc_64 : Cond.code y_Entries_objectOf b_Entries_objectOf 2 (some .int) ∈ zz_tb := List.mem_filter.mpr ⟨List.mem_of_getElem? (i := 121) rfl, rfl⟩
theorem kw_65 : Cond.methodLink R_X 104 y_Entries_objectOf ∈ zz_tb := List.mem_filter.mpr ⟨List.mem_of_getElem? (i := 118) (by decide +kernel), rfl⟩
theorem kw_66 : Cond.instanceMethod y_Entries_objectOf ∈ zz_tb := List.mem_filter.mpr ⟨List.mem_of_getElem? (i := 119) (by decide +kernel), rfl⟩
theorem kw_67 : Cond.selects R_Entries y_Entries_objectOf y_Entries_objectOf ∈ zz_tb := List.mem_filter.mpr ⟨List.mem_of_getElem? (i := 120) (by decide +kernel), rfl⟩
theorem kw_68 : Cond.initialized R_Entries ∈ zz_tb := List.mem_filter.mpr ⟨List.mem_of_getElem? (i := 23) (by decide +kernel), rfl⟩
theorem kw_69 : Cond.methodLink R_X 120 y_Heap_slotsAt ∈ zz_tb := List.mem_filter.mpr ⟨List.mem_of_getElem? (i := 126) (by decide +kernel), rfl⟩
theorem kc_70 : Cond.code y_Entries_before b_Entries_before 3 (some .int) ∈ zz_tb := List.mem_filter.mpr ⟨List.mem_of_getElem? (i := 133) rfl, rfl⟩
theorem kw_71 : Cond.methodLink R_X 107 y_Entries_before ∈ zz_tb := List.mem_filter.mpr ⟨List.mem_of_getElem? (i := 130) (by decide +kernel), rfl⟩
theorem kw_72 : Cond.instanceMethod y_Entries_before ∈ zz_tb := List.mem_filter.mpr ⟨List.mem_of_getElem? (i := 131) (by decide +kernel), rfl⟩
theorem kw_73 : Cond.selects R_Entries y_Entries_before y_Entries_before ∈ zz_tb := List.mem_filter.mpr ⟨List.mem_of_getElem? (i := 132) (by decide +kernel), rfl⟩
theorem kw_74 : Cond.methodLink R_X 135 y_Heap_addToCount ∈ zz_tb := List.mem_filter.mpr ⟨List.mem_of_getElem? (i := 134) (by decide +kernel), rfl⟩
theorem kw_75 : Cond.methodLink R_X 67 y_Heap_inSlot ∈ zz_tb := List.mem_filter.mpr ⟨List.mem_of_getElem? (i := 139) (by decide +kernel), rfl⟩
theorem kw_76 : Cond.fieldLink R_X 30 "LazyCounts" "reckoned" "I" ∈ zz_tb := List.mem_filter.mpr ⟨List.mem_of_getElem? (i := 84) (by decide +kernel), rfl⟩
theorem kc_77 : Cond.code y_Entries_size b_Entries_size 1 (some .int) ∈ zz_tb := List.mem_filter.mpr ⟨List.mem_of_getElem? (i := 113) rfl, rfl⟩
theorem kw_78 : Cond.methodLink R_X 102 y_Entries_size ∈ zz_tb := List.mem_filter.mpr ⟨List.mem_of_getElem? (i := 110) (by decide +kernel), rfl⟩
theorem kw_79 : Cond.instanceMethod y_Entries_size ∈ zz_tb := List.mem_filter.mpr ⟨List.mem_of_getElem? (i := 111) (by decide +kernel), rfl⟩
theorem kw_80 : Cond.selects R_Entries y_Entries_size y_Entries_size ∈ zz_tb := List.mem_filter.mpr ⟨List.mem_of_getElem? (i := 112) (by decide +kernel), rfl⟩
theorem kc_81 : Cond.code y_Entries_clear b_Entries_clear 1 none ∈ zz_tb := List.mem_filter.mpr ⟨List.mem_of_getElem? (i := 146) rfl, rfl⟩
theorem kw_82 : Cond.methodLink R_X 129 y_Entries_clear ∈ zz_tb := List.mem_filter.mpr ⟨List.mem_of_getElem? (i := 143) (by decide +kernel), rfl⟩
theorem kw_83 : Cond.instanceMethod y_Entries_clear ∈ zz_tb := List.mem_filter.mpr ⟨List.mem_of_getElem? (i := 144) (by decide +kernel), rfl⟩
theorem kw_84 : Cond.selects R_Entries y_Entries_clear y_Entries_clear ∈ zz_tb := List.mem_filter.mpr ⟨List.mem_of_getElem? (i := 145) (by decide +kernel), rfl⟩
theorem kc_85 : Cond.code y_X_freeUnheld b_X_freeUnheld 3 (some .int) ∈ zz_tb := List.mem_filter.mpr ⟨List.mem_of_getElem? (i := 150) rfl, rfl⟩
theorem kw_86 : Cond.methodLink R_X 132 y_X_freeUnheld ∈ zz_tb := List.mem_filter.mpr ⟨List.mem_of_getElem? (i := 147) (by decide +kernel), rfl⟩
theorem kw_87 : Cond.instanceMethod y_X_freeUnheld ∈ zz_tb := List.mem_filter.mpr ⟨List.mem_of_getElem? (i := 149) (by decide +kernel), rfl⟩
theorem kw_88 : Cond.selects R_X y_X_freeUnheld y_X_freeUnheld ∈ zz_tb := List.mem_filter.mpr ⟨List.mem_of_getElem? (i := 2) (by decide +kernel), rfl⟩
theorem kc_89 : Cond.code y_X_countChangesOf b_X_countChangesOf 5 none ∈ zz_tb := List.mem_filter.mpr ⟨List.mem_of_getElem? (i := 117) rfl, rfl⟩
theorem kw_90 : Cond.methodLink R_X 126 y_X_countChangesOf ∈ zz_tb := List.mem_filter.mpr ⟨List.mem_of_getElem? (i := 114) (by decide +kernel), rfl⟩
theorem kw_91 : Cond.instanceMethod y_X_countChangesOf ∈ zz_tb := List.mem_filter.mpr ⟨List.mem_of_getElem? (i := 116) (by decide +kernel), rfl⟩
theorem kw_92 : Cond.selects R_X y_X_countChangesOf y_X_countChangesOf ∈ zz_tb := List.mem_filter.mpr ⟨List.mem_of_getElem? (i := 1) (by decide +kernel), rfl⟩
theorem kc_93 : Cond.code y_Entries_tellOf b_Entries_tellOf 3 (some .boolean) ∈ zz_tb := List.mem_filter.mpr ⟨List.mem_of_getElem? (i := 221) rfl, rfl⟩
theorem kw_94 : Cond.methodLink R_X 99 y_Entries_tellOf ∈ zz_tb := List.mem_filter.mpr ⟨List.mem_of_getElem? (i := 218) (by decide +kernel), rfl⟩
theorem kw_95 : Cond.instanceMethod y_Entries_tellOf ∈ zz_tb := List.mem_filter.mpr ⟨List.mem_of_getElem? (i := 219) (by decide +kernel), rfl⟩
theorem kw_96 : Cond.selects R_Entries y_Entries_tellOf y_Entries_tellOf ∈ zz_tb := List.mem_filter.mpr ⟨List.mem_of_getElem? (i := 220) (by decide +kernel), rfl⟩
theorem kc_97 : Cond.code y_Entries_areFull b_Entries_areFull 1 (some .boolean) ∈ zz_tb := List.mem_filter.mpr ⟨List.mem_of_getElem? (i := 225) rfl, rfl⟩
theorem kw_98 : Cond.methodLink R_X 116 y_Entries_areFull ∈ zz_tb := List.mem_filter.mpr ⟨List.mem_of_getElem? (i := 222) (by decide +kernel), rfl⟩
theorem kw_99 : Cond.instanceMethod y_Entries_areFull ∈ zz_tb := List.mem_filter.mpr ⟨List.mem_of_getElem? (i := 223) (by decide +kernel), rfl⟩
theorem kw_100 : Cond.selects R_Entries y_Entries_areFull y_Entries_areFull ∈ zz_tb := List.mem_filter.mpr ⟨List.mem_of_getElem? (i := 224) (by decide +kernel), rfl⟩
theorem kc_101 : Cond.code y_X_bringUpToDate b_X_bringUpToDate 2 (some .int) ∈ zz_tb := List.mem_filter.mpr ⟨List.mem_of_getElem? (i := 109) rfl, rfl⟩
theorem kw_102 : Cond.methodLink R_X 42 y_X_bringUpToDate ∈ zz_tb := List.mem_filter.mpr ⟨List.mem_of_getElem? (i := 106) (by decide +kernel), rfl⟩
theorem kw_103 : Cond.instanceMethod y_X_bringUpToDate ∈ zz_tb := List.mem_filter.mpr ⟨List.mem_of_getElem? (i := 108) (by decide +kernel), rfl⟩
theorem kw_104 : Cond.selects R_X y_X_bringUpToDate y_X_bringUpToDate ∈ zz_tb := List.mem_filter.mpr ⟨List.mem_of_getElem? (i := 0) (by decide +kernel), rfl⟩
theorem kc_105 : Cond.code y_Entries_open b_Entries_open 3 (some .int) ∈ zz_tb := List.mem_filter.mpr ⟨List.mem_of_getElem? (i := 229) rfl, rfl⟩
theorem kw_106 : Cond.methodLink R_X 117 y_Entries_open ∈ zz_tb := List.mem_filter.mpr ⟨List.mem_of_getElem? (i := 226) (by decide +kernel), rfl⟩
theorem kw_107 : Cond.instanceMethod y_Entries_open ∈ zz_tb := List.mem_filter.mpr ⟨List.mem_of_getElem? (i := 227) (by decide +kernel), rfl⟩
theorem kw_108 : Cond.selects R_Entries y_Entries_open y_Entries_open ∈ zz_tb := List.mem_filter.mpr ⟨List.mem_of_getElem? (i := 228) (by decide +kernel), rfl⟩
theorem kc_109 : Cond.code y_Entries_setBefore b_Entries_setBefore 4 none ∈ zz_tb := List.mem_filter.mpr ⟨List.mem_of_getElem? (i := 233) rfl, rfl⟩
theorem kw_110 : Cond.methodLink R_X 123 y_Entries_setBefore ∈ zz_tb := List.mem_filter.mpr ⟨List.mem_of_getElem? (i := 230) (by decide +kernel), rfl⟩
theorem kw_111 : Cond.instanceMethod y_Entries_setBefore ∈ zz_tb := List.mem_filter.mpr ⟨List.mem_of_getElem? (i := 231) (by decide +kernel), rfl⟩
theorem kw_112 : Cond.selects R_Entries y_Entries_setBefore y_Entries_setBefore ∈ zz_tb := List.mem_filter.mpr ⟨List.mem_of_getElem? (i := 232) (by decide +kernel), rfl⟩
theorem kc_113 : Cond.code y_Places_areFull b_Places_areFull 1 (some .boolean) ∈ zz_tb := List.mem_filter.mpr ⟨List.mem_of_getElem? (i := 101) rfl, rfl⟩
theorem kw_114 : Cond.methodLink R_X 34 y_Places_areFull ∈ zz_tb := List.mem_filter.mpr ⟨List.mem_of_getElem? (i := 98) (by decide +kernel), rfl⟩
theorem kw_115 : Cond.instanceMethod y_Places_areFull ∈ zz_tb := List.mem_filter.mpr ⟨List.mem_of_getElem? (i := 99) (by decide +kernel), rfl⟩
theorem kw_116 : Cond.selects R_Places y_Places_areFull y_Places_areFull ∈ zz_tb := List.mem_filter.mpr ⟨List.mem_of_getElem? (i := 100) (by decide +kernel), rfl⟩
theorem kc_117 : Cond.code y_Heap_lowestRoom b_Heap_lowestRoom 4 (some .int) ∈ zz_tb := List.mem_filter.mpr ⟨List.mem_of_getElem? (i := 105) rfl, rfl⟩
theorem kw_118 : Cond.methodLink R_X 38 y_Heap_lowestRoom ∈ zz_tb := List.mem_filter.mpr ⟨List.mem_of_getElem? (i := 102) (by decide +kernel), rfl⟩
theorem kw_119 : Cond.instanceMethod y_Heap_lowestRoom ∈ zz_tb := List.mem_filter.mpr ⟨List.mem_of_getElem? (i := 103) (by decide +kernel), rfl⟩
theorem kw_120 : Cond.selects R_Heap y_Heap_lowestRoom y_Heap_lowestRoom ∈ zz_tb := List.mem_filter.mpr ⟨List.mem_of_getElem? (i := 104) (by decide +kernel), rfl⟩
theorem kc_121 : Cond.code y_Heap_layNew b_Heap_layNew 4 (some .int) ∈ zz_tb := List.mem_filter.mpr ⟨List.mem_of_getElem? (i := 181) rfl, rfl⟩
theorem kw_122 : Cond.methodLink R_X 46 y_Heap_layNew ∈ zz_tb := List.mem_filter.mpr ⟨List.mem_of_getElem? (i := 178) (by decide +kernel), rfl⟩
theorem kw_123 : Cond.instanceMethod y_Heap_layNew ∈ zz_tb := List.mem_filter.mpr ⟨List.mem_of_getElem? (i := 179) (by decide +kernel), rfl⟩
theorem kw_124 : Cond.selects R_Heap y_Heap_layNew y_Heap_layNew ∈ zz_tb := List.mem_filter.mpr ⟨List.mem_of_getElem? (i := 180) (by decide +kernel), rfl⟩
theorem kc_125 : Cond.code y_Places_push b_Places_push 2 (some .int) ∈ zz_tb := List.mem_filter.mpr ⟨List.mem_of_getElem? (i := 185) rfl, rfl⟩
theorem kw_126 : Cond.methodLink R_X 50 y_Places_push ∈ zz_tb := List.mem_filter.mpr ⟨List.mem_of_getElem? (i := 182) (by decide +kernel), rfl⟩
theorem kw_127 : Cond.instanceMethod y_Places_push ∈ zz_tb := List.mem_filter.mpr ⟨List.mem_of_getElem? (i := 183) (by decide +kernel), rfl⟩
theorem kw_128 : Cond.selects R_Places y_Places_push y_Places_push ∈ zz_tb := List.mem_filter.mpr ⟨List.mem_of_getElem? (i := 184) (by decide +kernel), rfl⟩
theorem kc_129 : Cond.code y_X_firstCellAt b_X_firstCellAt 2 (some .int) ∈ zz_tb := List.mem_filter.mpr ⟨List.mem_of_getElem? (i := 205) rfl, rfl⟩
theorem kw_130 : Cond.methodLink R_X 60 y_X_firstCellAt ∈ zz_tb := List.mem_filter.mpr ⟨List.mem_of_getElem? (i := 202) (by decide +kernel), rfl⟩
theorem kw_131 : Cond.instanceMethod y_X_firstCellAt ∈ zz_tb := List.mem_filter.mpr ⟨List.mem_of_getElem? (i := 204) (by decide +kernel), rfl⟩
theorem kw_132 : Cond.selects R_X y_X_firstCellAt y_X_firstCellAt ∈ zz_tb := List.mem_filter.mpr ⟨List.mem_of_getElem? (i := 4) (by decide +kernel), rfl⟩
theorem kc_133 : Cond.code y_Heap_hasSlot b_Heap_hasSlot 3 (some .boolean) ∈ zz_tb := List.mem_filter.mpr ⟨List.mem_of_getElem? (i := 209) rfl, rfl⟩
theorem kw_134 : Cond.methodLink R_X 63 y_Heap_hasSlot ∈ zz_tb := List.mem_filter.mpr ⟨List.mem_of_getElem? (i := 206) (by decide +kernel), rfl⟩
theorem kw_135 : Cond.instanceMethod y_Heap_hasSlot ∈ zz_tb := List.mem_filter.mpr ⟨List.mem_of_getElem? (i := 207) (by decide +kernel), rfl⟩
theorem kw_136 : Cond.selects R_Heap y_Heap_hasSlot y_Heap_hasSlot ∈ zz_tb := List.mem_filter.mpr ⟨List.mem_of_getElem? (i := 208) (by decide +kernel), rfl⟩
theorem kc_137 : Cond.code y_X_note b_X_note 6 none ∈ zz_tb := List.mem_filter.mpr ⟨List.mem_of_getElem? (i := 217) rfl, rfl⟩
theorem kw_138 : Cond.methodLink R_X 70 y_X_note ∈ zz_tb := List.mem_filter.mpr ⟨List.mem_of_getElem? (i := 214) (by decide +kernel), rfl⟩
theorem kw_139 : Cond.instanceMethod y_X_note ∈ zz_tb := List.mem_filter.mpr ⟨List.mem_of_getElem? (i := 216) (by decide +kernel), rfl⟩
theorem kw_140 : Cond.selects R_X y_X_note y_X_note ∈ zz_tb := List.mem_filter.mpr ⟨List.mem_of_getElem? (i := 5) (by decide +kernel), rfl⟩
theorem kc_141 : Cond.code y_Heap_setSlot b_Heap_setSlot 4 none ∈ zz_tb := List.mem_filter.mpr ⟨List.mem_of_getElem? (i := 237) rfl, rfl⟩
theorem kw_142 : Cond.methodLink R_X 74 y_Heap_setSlot ∈ zz_tb := List.mem_filter.mpr ⟨List.mem_of_getElem? (i := 234) (by decide +kernel), rfl⟩
theorem kw_143 : Cond.instanceMethod y_Heap_setSlot ∈ zz_tb := List.mem_filter.mpr ⟨List.mem_of_getElem? (i := 235) (by decide +kernel), rfl⟩
theorem kw_144 : Cond.selects R_Heap y_Heap_setSlot y_Heap_setSlot ∈ zz_tb := List.mem_filter.mpr ⟨List.mem_of_getElem? (i := 236) (by decide +kernel), rfl⟩
theorem kc_145 : Cond.code y_Places_size b_Places_size 1 (some .int) ∈ zz_tb := List.mem_filter.mpr ⟨List.mem_of_getElem? (i := 245) rfl, rfl⟩
theorem kw_146 : Cond.methodLink R_X 78 y_Places_size ∈ zz_tb := List.mem_filter.mpr ⟨List.mem_of_getElem? (i := 242) (by decide +kernel), rfl⟩
theorem kw_147 : Cond.instanceMethod y_Places_size ∈ zz_tb := List.mem_filter.mpr ⟨List.mem_of_getElem? (i := 243) (by decide +kernel), rfl⟩
theorem kw_148 : Cond.selects R_Places y_Places_size y_Places_size ∈ zz_tb := List.mem_filter.mpr ⟨List.mem_of_getElem? (i := 244) (by decide +kernel), rfl⟩
theorem kc_149 : Cond.code y_Places_pop b_Places_pop 1 (some .int) ∈ zz_tb := List.mem_filter.mpr ⟨List.mem_of_getElem? (i := 249) rfl, rfl⟩
theorem kw_150 : Cond.methodLink R_X 81 y_Places_pop ∈ zz_tb := List.mem_filter.mpr ⟨List.mem_of_getElem? (i := 246) (by decide +kernel), rfl⟩
theorem kw_151 : Cond.instanceMethod y_Places_pop ∈ zz_tb := List.mem_filter.mpr ⟨List.mem_of_getElem? (i := 247) (by decide +kernel), rfl⟩
theorem kw_152 : Cond.selects R_Places y_Places_pop y_Places_pop ∈ zz_tb := List.mem_filter.mpr ⟨List.mem_of_getElem? (i := 248) (by decide +kernel), rfl⟩
theorem kc_153 : Cond.code y_Heap_objects b_Heap_objects 3 (some .int) ∈ zz_tb := List.mem_filter.mpr ⟨List.mem_of_getElem? (i := 269) rfl, rfl⟩
theorem kw_154 : Cond.methodLink R_X 84 y_Heap_objects ∈ zz_tb := List.mem_filter.mpr ⟨List.mem_of_getElem? (i := 266) (by decide +kernel), rfl⟩
theorem kw_155 : Cond.instanceMethod y_Heap_objects ∈ zz_tb := List.mem_filter.mpr ⟨List.mem_of_getElem? (i := 267) (by decide +kernel), rfl⟩
theorem kw_156 : Cond.selects R_Heap y_Heap_objects y_Heap_objects ∈ zz_tb := List.mem_filter.mpr ⟨List.mem_of_getElem? (i := 268) (by decide +kernel), rfl⟩
theorem kc_157 : Cond.code y_Heap_countAt b_Heap_countAt 2 (some .int) ∈ zz_tb := List.mem_filter.mpr ⟨List.mem_of_getElem? (i := 277) rfl, rfl⟩
theorem kw_158 : Cond.methodLink R_X 90 y_Heap_countAt ∈ zz_tb := List.mem_filter.mpr ⟨List.mem_of_getElem? (i := 274) (by decide +kernel), rfl⟩
theorem kw_159 : Cond.instanceMethod y_Heap_countAt ∈ zz_tb := List.mem_filter.mpr ⟨List.mem_of_getElem? (i := 275) (by decide +kernel), rfl⟩
theorem kw_160 : Cond.selects R_Heap y_Heap_countAt y_Heap_countAt ∈ zz_tb := List.mem_filter.mpr ⟨List.mem_of_getElem? (i := 276) (by decide +kernel), rfl⟩
theorem kc_161 : Cond.code y_Heap_uncountedObjects b_Heap_uncountedObjects 3 (some .int) ∈ zz_tb := List.mem_filter.mpr ⟨List.mem_of_getElem? (i := 293) rfl, rfl⟩
theorem kw_162 : Cond.methodLink R_X 93 y_Heap_uncountedObjects ∈ zz_tb := List.mem_filter.mpr ⟨List.mem_of_getElem? (i := 290) (by decide +kernel), rfl⟩
theorem kw_163 : Cond.instanceMethod y_Heap_uncountedObjects ∈ zz_tb := List.mem_filter.mpr ⟨List.mem_of_getElem? (i := 291) (by decide +kernel), rfl⟩
theorem kw_164 : Cond.selects R_Heap y_Heap_uncountedObjects y_Heap_uncountedObjects ∈ zz_tb := List.mem_filter.mpr ⟨List.mem_of_getElem? (i := 292) (by decide +kernel), rfl⟩
theorem kc_165 : Cond.code y_Entries_has b_Entries_has 2 (some .boolean) ∈ zz_tb := List.mem_filter.mpr ⟨List.mem_of_getElem? (i := 310) rfl, rfl⟩
theorem kw_166 : Cond.methodLink R_X 103 y_Entries_has ∈ zz_tb := List.mem_filter.mpr ⟨List.mem_of_getElem? (i := 307) (by decide +kernel), rfl⟩
theorem kw_167 : Cond.instanceMethod y_Entries_has ∈ zz_tb := List.mem_filter.mpr ⟨List.mem_of_getElem? (i := 308) (by decide +kernel), rfl⟩
theorem kw_168 : Cond.selects R_Entries y_Entries_has y_Entries_has ∈ zz_tb := List.mem_filter.mpr ⟨List.mem_of_getElem? (i := 309) (by decide +kernel), rfl⟩
theorem kc_169 : Cond.code y_Heap_freeCells b_Heap_freeCells 3 (some .int) ∈ zz_tb := List.mem_filter.mpr ⟨List.mem_of_getElem? (i := 318) rfl, rfl⟩
theorem kw_170 : Cond.methodLink R_X 110 y_Heap_freeCells ∈ zz_tb := List.mem_filter.mpr ⟨List.mem_of_getElem? (i := 315) (by decide +kernel), rfl⟩
theorem kw_171 : Cond.instanceMethod y_Heap_freeCells ∈ zz_tb := List.mem_filter.mpr ⟨List.mem_of_getElem? (i := 316) (by decide +kernel), rfl⟩
theorem kw_172 : Cond.selects R_Heap y_Heap_freeCells y_Heap_freeCells ∈ zz_tb := List.mem_filter.mpr ⟨List.mem_of_getElem? (i := 317) (by decide +kernel), rfl⟩
theorem kw_173 : Cond.fieldLink R_M 13 "LazyCountsModel" "slots" "[I" ∈ zz_tb := List.mem_filter.mpr ⟨List.mem_of_getElem? (i := 330) (by decide +kernel), rfl⟩
theorem kw_174 : Cond.fieldLink R_M 7 "LazyCountsModel" "number" "[I" ∈ zz_tb := List.mem_filter.mpr ⟨List.mem_of_getElem? (i := 329) (by decide +kernel), rfl⟩
theorem kw_175 : Cond.fieldLink R_M 23 "LazyCountsModel" "holds" "[I" ∈ zz_tb := List.mem_filter.mpr ⟨List.mem_of_getElem? (i := 333) (by decide +kernel), rfl⟩
theorem kw_176 : Cond.fieldLink R_M 35 "LazyCountsModel" "height" "I" ∈ zz_tb := List.mem_filter.mpr ⟨List.mem_of_getElem? (i := 335) (by decide +kernel), rfl⟩
theorem kw_177 : Cond.fieldLink R_M 26 "LazyCountsModel" "places" "[I" ∈ zz_tb := List.mem_filter.mpr ⟨List.mem_of_getElem? (i := 336) (by decide +kernel), rfl⟩
theorem kw_178 : Cond.fieldLink R_M 16 "LazyCountsModel" "counts" "[I" ∈ zz_tb := List.mem_filter.mpr ⟨List.mem_of_getElem? (i := 331) (by decide +kernel), rfl⟩
theorem kw_179 : Cond.fieldLink R_M 19 "LazyCountsModel" "noted" "[Z" ∈ zz_tb := List.mem_filter.mpr ⟨List.mem_of_getElem? (i := 332) (by decide +kernel), rfl⟩
theorem kc_180 : Cond.code y_M_holders b_M_holders 5 (some .int) ∈ zz_tb := List.mem_filter.mpr ⟨List.mem_of_getElem? (i := 386) rfl, rfl⟩
theorem kw_181 : Cond.methodLink R_M 39 y_M_holders ∈ zz_tb := List.mem_filter.mpr ⟨List.mem_of_getElem? (i := 383) (by decide +kernel), rfl⟩
theorem kw_182 : Cond.instanceMethod y_M_holders ∈ zz_tb := List.mem_filter.mpr ⟨List.mem_of_getElem? (i := 385) (by decide +kernel), rfl⟩
theorem kw_183 : Cond.selects R_M y_M_holders y_M_holders ∈ zz_tb := List.mem_filter.mpr ⟨List.mem_of_getElem? (i := 8) (by decide +kernel), rfl⟩
theorem kw_184 : Cond.initialized R_M ∈ zz_tb := List.mem_filter.mpr ⟨List.mem_of_getElem? (i := 24) (by decide +kernel), rfl⟩
theorem kc_185 : Cond.code y_M_onStack b_M_onStack 4 (some .boolean) ∈ zz_tb := List.mem_filter.mpr ⟨List.mem_of_getElem? (i := 394) rfl, rfl⟩
theorem kw_186 : Cond.methodLink R_M 43 y_M_onStack ∈ zz_tb := List.mem_filter.mpr ⟨List.mem_of_getElem? (i := 391) (by decide +kernel), rfl⟩
theorem kw_187 : Cond.instanceMethod y_M_onStack ∈ zz_tb := List.mem_filter.mpr ⟨List.mem_of_getElem? (i := 393) (by decide +kernel), rfl⟩
theorem kw_188 : Cond.selects R_M y_M_onStack y_M_onStack ∈ zz_tb := List.mem_filter.mpr ⟨List.mem_of_getElem? (i := 10) (by decide +kernel), rfl⟩
theorem kw_189 : Cond.fieldLink R_M 47 "LazyCountsModel" "runs" "I" ∈ zz_tb := List.mem_filter.mpr ⟨List.mem_of_getElem? (i := 340) (by decide +kernel), rfl⟩
theorem kw_190 : Cond.fieldLink R_M 50 "LazyCountsModel" "entries" "I" ∈ zz_tb := List.mem_filter.mpr ⟨List.mem_of_getElem? (i := 337) (by decide +kernel), rfl⟩
theorem kc_191 : Cond.code y_M_recount b_M_recount 2 none ∈ zz_tb := List.mem_filter.mpr ⟨List.mem_of_getElem? (i := 382) rfl, rfl⟩
theorem kw_192 : Cond.methodLink R_M 53 y_M_recount ∈ zz_tb := List.mem_filter.mpr ⟨List.mem_of_getElem? (i := 379) (by decide +kernel), rfl⟩
theorem kw_193 : Cond.instanceMethod y_M_recount ∈ zz_tb := List.mem_filter.mpr ⟨List.mem_of_getElem? (i := 381) (by decide +kernel), rfl⟩
theorem kw_194 : Cond.selects R_M y_M_recount y_M_recount ∈ zz_tb := List.mem_filter.mpr ⟨List.mem_of_getElem? (i := 7) (by decide +kernel), rfl⟩
theorem kc_195 : Cond.code y_M_round b_M_round 3 (some .int) ∈ zz_tb := List.mem_filter.mpr ⟨List.mem_of_getElem? (i := 390) rfl, rfl⟩
theorem kw_196 : Cond.methodLink R_M 56 y_M_round ∈ zz_tb := List.mem_filter.mpr ⟨List.mem_of_getElem? (i := 387) (by decide +kernel), rfl⟩
theorem kw_197 : Cond.instanceMethod y_M_round ∈ zz_tb := List.mem_filter.mpr ⟨List.mem_of_getElem? (i := 389) (by decide +kernel), rfl⟩
theorem kw_198 : Cond.selects R_M y_M_round y_M_round ∈ zz_tb := List.mem_filter.mpr ⟨List.mem_of_getElem? (i := 9) (by decide +kernel), rfl⟩
theorem kc_199 : Cond.code y_M_alive b_M_alive 3 (some .int) ∈ zz_tb := List.mem_filter.mpr ⟨List.mem_of_getElem? (i := 374) rfl, rfl⟩
theorem kw_200 : Cond.methodLink R_M 60 y_M_alive ∈ zz_tb := List.mem_filter.mpr ⟨List.mem_of_getElem? (i := 371) (by decide +kernel), rfl⟩
theorem kw_201 : Cond.instanceMethod y_M_alive ∈ zz_tb := List.mem_filter.mpr ⟨List.mem_of_getElem? (i := 372) (by decide +kernel), rfl⟩
theorem kw_202 : Cond.selects R_M y_M_alive y_M_alive ∈ zz_tb := List.mem_filter.mpr ⟨List.mem_of_getElem? (i := 373) (by decide +kernel), rfl⟩
theorem kc_203 : Cond.code y_M_settle b_M_settle 2 none ∈ zz_tb := List.mem_filter.mpr ⟨List.mem_of_getElem? (i := 378) rfl, rfl⟩
theorem kw_204 : Cond.methodLink R_M 63 y_M_settle ∈ zz_tb := List.mem_filter.mpr ⟨List.mem_of_getElem? (i := 375) (by decide +kernel), rfl⟩
theorem kw_205 : Cond.instanceMethod y_M_settle ∈ zz_tb := List.mem_filter.mpr ⟨List.mem_of_getElem? (i := 377) (by decide +kernel), rfl⟩
theorem kw_206 : Cond.selects R_M y_M_settle y_M_settle ∈ zz_tb := List.mem_filter.mpr ⟨List.mem_of_getElem? (i := 6) (by decide +kernel), rfl⟩
theorem kc_207 : Cond.code y_M_within b_M_within 3 (some .boolean) ∈ zz_tb := List.mem_filter.mpr ⟨List.mem_of_getElem? (i := 401) rfl, rfl⟩
theorem kw_208 : Cond.methodLink R_M 66 y_M_within ∈ zz_tb := List.mem_filter.mpr ⟨List.mem_of_getElem? (i := 399) (by decide +kernel), rfl⟩
theorem kw_209 : Cond.static y_M_within ∈ zz_tb := List.mem_filter.mpr ⟨List.mem_of_getElem? (i := 400) (by decide +kernel), rfl⟩
theorem kc_210 : Cond.code y_M_room b_M_room 4 (some .int) ∈ zz_tb := List.mem_filter.mpr ⟨List.mem_of_getElem? (i := 405) rfl, rfl⟩
theorem kw_211 : Cond.methodLink R_M 70 y_M_room ∈ zz_tb := List.mem_filter.mpr ⟨List.mem_of_getElem? (i := 402) (by decide +kernel), rfl⟩
theorem kw_212 : Cond.instanceMethod y_M_room ∈ zz_tb := List.mem_filter.mpr ⟨List.mem_of_getElem? (i := 404) (by decide +kernel), rfl⟩
theorem kw_213 : Cond.selects R_M y_M_room y_M_room ∈ zz_tb := List.mem_filter.mpr ⟨List.mem_of_getElem? (i := 11) (by decide +kernel), rfl⟩
theorem kw_214 : Cond.fieldLink R_M 73 "LazyCountsModel" "made" "I" ∈ zz_tb := List.mem_filter.mpr ⟨List.mem_of_getElem? (i := 334) (by decide +kernel), rfl⟩
theorem kc_215 : Cond.code y_M_push b_M_push 2 none ∈ zz_tb := List.mem_filter.mpr ⟨List.mem_of_getElem? (i := 409) rfl, rfl⟩
theorem kw_216 : Cond.methodLink R_M 76 y_M_push ∈ zz_tb := List.mem_filter.mpr ⟨List.mem_of_getElem? (i := 406) (by decide +kernel), rfl⟩
theorem kw_217 : Cond.instanceMethod y_M_push ∈ zz_tb := List.mem_filter.mpr ⟨List.mem_of_getElem? (i := 408) (by decide +kernel), rfl⟩
theorem kw_218 : Cond.selects R_M y_M_push y_M_push ∈ zz_tb := List.mem_filter.mpr ⟨List.mem_of_getElem? (i := 12) (by decide +kernel), rfl⟩
theorem kc_219 : Cond.code y_M_isPlace b_M_isPlace 2 (some .boolean) ∈ zz_tb := List.mem_filter.mpr ⟨List.mem_of_getElem? (i := 417) rfl, rfl⟩
theorem kw_220 : Cond.methodLink R_M 80 y_M_isPlace ∈ zz_tb := List.mem_filter.mpr ⟨List.mem_of_getElem? (i := 414) (by decide +kernel), rfl⟩
theorem kw_221 : Cond.instanceMethod y_M_isPlace ∈ zz_tb := List.mem_filter.mpr ⟨List.mem_of_getElem? (i := 416) (by decide +kernel), rfl⟩
theorem kw_222 : Cond.selects R_M y_M_isPlace y_M_isPlace ∈ zz_tb := List.mem_filter.mpr ⟨List.mem_of_getElem? (i := 13) (by decide +kernel), rfl⟩
theorem kc_223 : Cond.code y_M_find b_M_find 4 (some .int) ∈ zz_tb := List.mem_filter.mpr ⟨List.mem_of_getElem? (i := 429) rfl, rfl⟩
theorem kw_224 : Cond.methodLink R_M 83 y_M_find ∈ zz_tb := List.mem_filter.mpr ⟨List.mem_of_getElem? (i := 426) (by decide +kernel), rfl⟩
theorem kw_225 : Cond.instanceMethod y_M_find ∈ zz_tb := List.mem_filter.mpr ⟨List.mem_of_getElem? (i := 428) (by decide +kernel), rfl⟩
theorem kw_226 : Cond.selects R_M y_M_find y_M_find ∈ zz_tb := List.mem_filter.mpr ⟨List.mem_of_getElem? (i := 15) (by decide +kernel), rfl⟩
theorem kc_227 : Cond.code y_M_slotCell b_M_slotCell 4 (some .int) ∈ zz_tb := List.mem_filter.mpr ⟨List.mem_of_getElem? (i := 425) rfl, rfl⟩
theorem kw_228 : Cond.methodLink R_M 86 y_M_slotCell ∈ zz_tb := List.mem_filter.mpr ⟨List.mem_of_getElem? (i := 422) (by decide +kernel), rfl⟩
theorem kw_229 : Cond.instanceMethod y_M_slotCell ∈ zz_tb := List.mem_filter.mpr ⟨List.mem_of_getElem? (i := 424) (by decide +kernel), rfl⟩
theorem kw_230 : Cond.selects R_M y_M_slotCell y_M_slotCell ∈ zz_tb := List.mem_filter.mpr ⟨List.mem_of_getElem? (i := 14) (by decide +kernel), rfl⟩
theorem kw_231 : Cond.fieldLink R_M 29 "LazyCountsModel" "who" "[I" ∈ zz_tb := List.mem_filter.mpr ⟨List.mem_of_getElem? (i := 338) (by decide +kernel), rfl⟩
theorem kw_232 : Cond.fieldLink R_M 32 "LazyCountsModel" "held" "[I" ∈ zz_tb := List.mem_filter.mpr ⟨List.mem_of_getElem? (i := 339) (by decide +kernel), rfl⟩
theorem kc_233 : Cond.code y_M_makeRoom b_M_makeRoom 1 none ∈ zz_tb := List.mem_filter.mpr ⟨List.mem_of_getElem? (i := 437) rfl, rfl⟩
theorem kw_234 : Cond.methodLink R_M 90 y_M_makeRoom ∈ zz_tb := List.mem_filter.mpr ⟨List.mem_of_getElem? (i := 434) (by decide +kernel), rfl⟩
theorem kw_235 : Cond.instanceMethod y_M_makeRoom ∈ zz_tb := List.mem_filter.mpr ⟨List.mem_of_getElem? (i := 436) (by decide +kernel), rfl⟩
theorem kw_236 : Cond.selects R_M y_M_makeRoom y_M_makeRoom ∈ zz_tb := List.mem_filter.mpr ⟨List.mem_of_getElem? (i := 16) (by decide +kernel), rfl⟩
theorem kc_237 : Cond.code y_M_note b_M_note 3 none ∈ zz_tb := List.mem_filter.mpr ⟨List.mem_of_getElem? (i := 441) rfl, rfl⟩
theorem kw_238 : Cond.methodLink R_M 93 y_M_note ∈ zz_tb := List.mem_filter.mpr ⟨List.mem_of_getElem? (i := 438) (by decide +kernel), rfl⟩
theorem kw_239 : Cond.instanceMethod y_M_note ∈ zz_tb := List.mem_filter.mpr ⟨List.mem_of_getElem? (i := 440) (by decide +kernel), rfl⟩
theorem kw_240 : Cond.selects R_M y_M_note y_M_note ∈ zz_tb := List.mem_filter.mpr ⟨List.mem_of_getElem? (i := 17) (by decide +kernel), rfl⟩
theorem kc_241 : Cond.code y_M_slotsOf b_M_slotsOf 3 (some .int) ∈ zz_tb := List.mem_filter.mpr ⟨List.mem_of_getElem? (i := 486) rfl, rfl⟩
theorem kw_242 : Cond.methodLink R_M 96 y_M_slotsOf ∈ zz_tb := List.mem_filter.mpr ⟨List.mem_of_getElem? (i := 483) (by decide +kernel), rfl⟩
theorem kw_243 : Cond.instanceMethod y_M_slotsOf ∈ zz_tb := List.mem_filter.mpr ⟨List.mem_of_getElem? (i := 485) (by decide +kernel), rfl⟩
theorem kw_244 : Cond.selects R_M y_M_slotsOf y_M_slotsOf ∈ zz_tb := List.mem_filter.mpr ⟨List.mem_of_getElem? (i := 18) (by decide +kernel), rfl⟩
theorem kw_245 : Cond.methodLink R_Heap 3 objectInit ∈ zz_tb := List.mem_filter.mpr ⟨List.mem_of_getElem? (i := 38) (by decide +kernel), rfl⟩
theorem kw_246 : Cond.instanceMethod objectInit ∈ zz_tb := List.mem_filter.mpr ⟨List.mem_of_getElem? (i := 31) (by decide +kernel), rfl⟩
theorem kc_247 : Cond.code objectInit ⟨#[0xb1]⟩ 1 none ∈ zz_tb := List.mem_filter.mpr ⟨List.mem_of_getElem? (i := 32) rfl, rfl⟩
theorem kw_248 : Cond.arrayClass .int ∈ zz_tb := List.mem_filter.mpr ⟨List.mem_of_getElem? (i := 49) (by decide +kernel), rfl⟩
theorem kw_249 : Cond.methodLink R_Places 3 objectInit ∈ zz_tb := List.mem_filter.mpr ⟨List.mem_of_getElem? (i := 55) (by decide +kernel), rfl⟩
theorem kw_250 : Cond.methodLink R_Entries 3 objectInit ∈ zz_tb := List.mem_filter.mpr ⟨List.mem_of_getElem? (i := 68) (by decide +kernel), rfl⟩
theorem kw_251 : Cond.classLink R_Entries 15 "[[I" ∈ zz_tb := List.mem_filter.mpr ⟨List.mem_of_getElem? (i := 69) (by decide +kernel), rfl⟩
theorem kw_252 : Cond.methodLink R_X 1 objectInit ∈ zz_tb := List.mem_filter.mpr ⟨List.mem_of_getElem? (i := 30) (by decide +kernel), rfl⟩
theorem kw_253 : Cond.classLink R_X 7 R_Heap ∈ zz_tb := List.mem_filter.mpr ⟨List.mem_of_getElem? (i := 33) (by decide +kernel), rfl⟩
theorem kw_254 : Cond.instantiable R_Heap 3 ∈ zz_tb := List.mem_filter.mpr ⟨List.mem_of_getElem? (i := 34) (by decide +kernel), rfl⟩
theorem kc_255 : Cond.code y_Heap_init b_Heap_init 1 none ∈ zz_tb := List.mem_filter.mpr ⟨List.mem_of_getElem? (i := 37) rfl, rfl⟩
theorem kw_256 : Cond.methodLink R_X 9 y_Heap_init ∈ zz_tb := List.mem_filter.mpr ⟨List.mem_of_getElem? (i := 35) (by decide +kernel), rfl⟩
theorem kw_257 : Cond.instanceMethod y_Heap_init ∈ zz_tb := List.mem_filter.mpr ⟨List.mem_of_getElem? (i := 36) (by decide +kernel), rfl⟩
theorem kw_258 : Cond.classLink R_X 16 R_Places ∈ zz_tb := List.mem_filter.mpr ⟨List.mem_of_getElem? (i := 50) (by decide +kernel), rfl⟩
theorem kw_259 : Cond.instantiable R_Places 2 ∈ zz_tb := List.mem_filter.mpr ⟨List.mem_of_getElem? (i := 51) (by decide +kernel), rfl⟩
theorem kc_260 : Cond.code y_Places_init b_Places_init 1 none ∈ zz_tb := List.mem_filter.mpr ⟨List.mem_of_getElem? (i := 54) rfl, rfl⟩
theorem kw_261 : Cond.methodLink R_X 18 y_Places_init ∈ zz_tb := List.mem_filter.mpr ⟨List.mem_of_getElem? (i := 52) (by decide +kernel), rfl⟩
theorem kw_262 : Cond.instanceMethod y_Places_init ∈ zz_tb := List.mem_filter.mpr ⟨List.mem_of_getElem? (i := 53) (by decide +kernel), rfl⟩
theorem kw_263 : Cond.classLink R_X 23 R_Entries ∈ zz_tb := List.mem_filter.mpr ⟨List.mem_of_getElem? (i := 63) (by decide +kernel), rfl⟩
theorem kw_264 : Cond.instantiable R_Entries 3 ∈ zz_tb := List.mem_filter.mpr ⟨List.mem_of_getElem? (i := 64) (by decide +kernel), rfl⟩
theorem kc_265 : Cond.code y_Entries_init b_Entries_init 1 none ∈ zz_tb := List.mem_filter.mpr ⟨List.mem_of_getElem? (i := 67) rfl, rfl⟩
theorem kw_266 : Cond.methodLink R_X 25 y_Entries_init ∈ zz_tb := List.mem_filter.mpr ⟨List.mem_of_getElem? (i := 65) (by decide +kernel), rfl⟩
theorem kw_267 : Cond.instanceMethod y_Entries_init ∈ zz_tb := List.mem_filter.mpr ⟨List.mem_of_getElem? (i := 66) (by decide +kernel), rfl⟩
theorem kw_268 : Cond.methodLink R_M 1 objectInit ∈ zz_tb := List.mem_filter.mpr ⟨List.mem_of_getElem? (i := 328) (by decide +kernel), rfl⟩
theorem kw_269 : Cond.arrayClass .boolean ∈ zz_tb := List.mem_filter.mpr ⟨List.mem_of_getElem? (i := 366) (by decide +kernel), rfl⟩
