theorem wm_0 : Cond.fieldLink RHL 10 (THL 0).1 (THL 0).2.1 (THL 0).2.2.1 ∈ wALL := List.mem_filter.mpr ⟨List.mem_append_right _ (List.mem_of_getElem? (i := 167) (by decide +kernel)), rfl⟩
theorem wn_1 : Cond.fieldLinkNest RHL 27 (TBO 0).1 (TBO 0).2.1 (TBO 0).2.2.1 "HouseLedger" ∈ wNW := List.mem_filter.mpr ⟨List.mem_append_right _ (List.mem_of_getElem? (i := 135) (by decide +kernel)), rfl⟩
theorem wm_2 : Cond.fieldLink RAC 9 (TAC 0).1 (TAC 0).2.1 (TAC 0).2.2.1 ∈ wALL := List.mem_filter.mpr ⟨List.mem_append_right _ (List.mem_of_getElem? (i := 33) (by decide +kernel)), rfl⟩
theorem wm_3 : Cond.fieldLink RAC 15 (TAC 1).1 (TAC 1).2.1 (TAC 1).2.2.1 ∈ wALL := List.mem_filter.mpr ⟨List.mem_append_right _ (List.mem_of_getElem? (i := 35) (by decide +kernel)), rfl⟩
theorem wm_4 : Cond.fieldLink RAC 19 (TAC 2).1 (TAC 2).2.1 (TAC 2).2.2.1 ∈ wALL := List.mem_filter.mpr ⟨List.mem_append_right _ (List.mem_of_getElem? (i := 37) (by decide +kernel)), rfl⟩
theorem wm_5 : Cond.fieldLink RAC 22 (TAC 3).1 (TAC 3).2.1 (TAC 3).2.2.1 ∈ wALL := List.mem_filter.mpr ⟨List.mem_append_right _ (List.mem_of_getElem? (i := 39) (by decide +kernel)), rfl⟩
theorem wm_6 : Cond.fieldLink RAC 25 (TAC 4).1 (TAC 4).2.1 (TAC 4).2.2.1 ∈ wALL := List.mem_filter.mpr ⟨List.mem_append_right _ (List.mem_of_getElem? (i := 40) (by decide +kernel)), rfl⟩
theorem wm_7 : Cond.fieldLink RAC 29 (TAC 5).1 (TAC 5).2.1 (TAC 5).2.2.1 ∈ wALL := List.mem_filter.mpr ⟨List.mem_append_right _ (List.mem_of_getElem? (i := 42) (by decide +kernel)), rfl⟩
theorem wm_8 : Cond.constantLong RAC 46 (-1) ∈ wALL := List.mem_filter.mpr ⟨List.mem_append_right _ (List.mem_of_getElem? (i := 188) (by decide +kernel)), rfl⟩
theorem wm_9 : Cond.fieldLink RAC 32 (TAC 6).1 (TAC 6).2.1 (TAC 6).2.2.1 ∈ wALL := List.mem_filter.mpr ⟨List.mem_append_right _ (List.mem_of_getElem? (i := 44) (by decide +kernel)), rfl⟩
theorem wm_10 : Cond.fieldLink RAC 35 (TAC 7).1 (TAC 7).2.1 (TAC 7).2.2.1 ∈ wALL := List.mem_filter.mpr ⟨List.mem_append_right _ (List.mem_of_getElem? (i := 46) (by decide +kernel)), rfl⟩
theorem wn_11 : Cond.methodLinkNest RHL 31 yAC_add "HouseLedger" ∈ wNW := List.mem_filter.mpr ⟨List.mem_append_right _ (List.mem_of_getElem? (i := 184) (by decide +kernel)), rfl⟩
theorem wm_12 : Cond.instanceMethod yAC_add ∈ wALL := List.mem_filter.mpr ⟨List.mem_append_right _ (List.mem_of_getElem? (i := 186) (by decide +kernel)), rfl⟩
theorem wm_13 : Cond.selects RAC yAC_add yAC_add ∈ wALL := List.mem_filter.mpr ⟨List.mem_append_left _ (List.mem_map.mpr ⟨_, List.mem_of_getElem? (i := 0) (by rfl), rfl⟩), rfl⟩
theorem wm_14 : Cond.constantLong RHL 237 3600 ∈ wALL := List.mem_filter.mpr ⟨List.mem_append_right _ (List.mem_of_getElem? (i := 200) (by decide +kernel)), rfl⟩
theorem wn_15 : Cond.methodLinkNest RBO 64 yHL_isDay "HouseLedger" ∈ wNW := List.mem_filter.mpr ⟨List.mem_append_right _ (List.mem_of_getElem? (i := 197) (by decide +kernel)), rfl⟩
theorem wm_16 : Cond.static yHL_isDay ∈ wALL := List.mem_filter.mpr ⟨List.mem_append_right _ (List.mem_of_getElem? (i := 198) (by decide +kernel)), rfl⟩
theorem wm_17 : Cond.constantLong RBO 68 30 ∈ wALL := List.mem_filter.mpr ⟨List.mem_append_right _ (List.mem_of_getElem? (i := 201) (by decide +kernel)), rfl⟩
theorem wm_18 : Cond.fieldLink RBO 40 (TBO 5).1 (TBO 5).2.1 (TBO 5).2.2.1 ∈ wALL := List.mem_filter.mpr ⟨List.mem_append_right _ (List.mem_of_getElem? (i := 144) (by decide +kernel)), rfl⟩
theorem wn_19 : Cond.methodLinkNest RHL 37 yBO_isUnclosedDay "HouseLedger" ∈ wNW := List.mem_filter.mpr ⟨List.mem_append_right _ (List.mem_of_getElem? (i := 193) (by decide +kernel)), rfl⟩
theorem wm_20 : Cond.instanceMethod yBO_isUnclosedDay ∈ wALL := List.mem_filter.mpr ⟨List.mem_append_right _ (List.mem_of_getElem? (i := 195) (by decide +kernel)), rfl⟩
theorem wm_21 : Cond.selects RBO yBO_isUnclosedDay yBO_isUnclosedDay ∈ wALL := List.mem_filter.mpr ⟨List.mem_append_left _ (List.mem_map.mpr ⟨_, List.mem_of_getElem? (i := 1) (by rfl), rfl⟩), rfl⟩
theorem wn_22 : Cond.fieldLinkNest RHL 41 (TBO 1).1 (TBO 1).2.1 (TBO 1).2.2.1 "HouseLedger" ∈ wNW := List.mem_filter.mpr ⟨List.mem_append_right _ (List.mem_of_getElem? (i := 137) (by decide +kernel)), rfl⟩
theorem wm_23 : Cond.fieldLink RJO 9 (TJO 0).1 (TJO 0).2.1 (TJO 0).2.2.1 ∈ wALL := List.mem_filter.mpr ⟨List.mem_append_right _ (List.mem_of_getElem? (i := 73) (by decide +kernel)), rfl⟩
theorem wm_24 : Cond.methodLink RJO 55 yJO_isFull ∈ wALL := List.mem_filter.mpr ⟨List.mem_append_right _ (List.mem_of_getElem? (i := 206) (by decide +kernel)), rfl⟩
theorem wm_25 : Cond.instanceMethod yJO_isFull ∈ wALL := List.mem_filter.mpr ⟨List.mem_append_right _ (List.mem_of_getElem? (i := 208) (by decide +kernel)), rfl⟩
theorem wm_26 : Cond.selects RJO yJO_isFull yJO_isFull ∈ wALL := List.mem_filter.mpr ⟨List.mem_append_left _ (List.mem_map.mpr ⟨_, List.mem_of_getElem? (i := 3) (by rfl), rfl⟩), rfl⟩
theorem wm_27 : Cond.fieldLink RJO 15 (TJO 1).1 (TJO 1).2.1 (TJO 1).2.2.1 ∈ wALL := List.mem_filter.mpr ⟨List.mem_append_right _ (List.mem_of_getElem? (i := 74) (by decide +kernel)), rfl⟩
theorem wm_28 : Cond.fieldLink RJO 19 (TJO 2).1 (TJO 2).2.1 (TJO 2).2.2.1 ∈ wALL := List.mem_filter.mpr ⟨List.mem_append_right _ (List.mem_of_getElem? (i := 76) (by decide +kernel)), rfl⟩
theorem wm_29 : Cond.fieldLink RJO 22 (TJO 3).1 (TJO 3).2.1 (TJO 3).2.2.1 ∈ wALL := List.mem_filter.mpr ⟨List.mem_append_right _ (List.mem_of_getElem? (i := 78) (by decide +kernel)), rfl⟩
theorem wm_30 : Cond.fieldLink RJO 25 (TJO 4).1 (TJO 4).2.1 (TJO 4).2.2.1 ∈ wALL := List.mem_filter.mpr ⟨List.mem_append_right _ (List.mem_of_getElem? (i := 81) (by decide +kernel)), rfl⟩
theorem wn_31 : Cond.methodLinkNest RHL 45 yJO_add "HouseLedger" ∈ wNW := List.mem_filter.mpr ⟨List.mem_append_right _ (List.mem_of_getElem? (i := 202) (by decide +kernel)), rfl⟩
theorem wm_32 : Cond.instanceMethod yJO_add ∈ wALL := List.mem_filter.mpr ⟨List.mem_append_right _ (List.mem_of_getElem? (i := 204) (by decide +kernel)), rfl⟩
theorem wm_33 : Cond.selects RJO yJO_add yJO_add ∈ wALL := List.mem_filter.mpr ⟨List.mem_append_left _ (List.mem_map.mpr ⟨_, List.mem_of_getElem? (i := 2) (by rfl), rfl⟩), rfl⟩
theorem wn_34 : Cond.methodLinkNest RHL 50 yJO_isOpen "HouseLedger" ∈ wNW := List.mem_filter.mpr ⟨List.mem_append_right _ (List.mem_of_getElem? (i := 214) (by decide +kernel)), rfl⟩
theorem wm_35 : Cond.instanceMethod yJO_isOpen ∈ wALL := List.mem_filter.mpr ⟨List.mem_append_right _ (List.mem_of_getElem? (i := 216) (by decide +kernel)), rfl⟩
theorem wm_36 : Cond.selects RJO yJO_isOpen yJO_isOpen ∈ wALL := List.mem_filter.mpr ⟨List.mem_append_left _ (List.mem_map.mpr ⟨_, List.mem_of_getElem? (i := 4) (by rfl), rfl⟩), rfl⟩
theorem wn_37 : Cond.methodLinkNest RHL 54 yAC_has "HouseLedger" ∈ wNW := List.mem_filter.mpr ⟨List.mem_append_right _ (List.mem_of_getElem? (i := 218) (by decide +kernel)), rfl⟩
theorem wm_38 : Cond.instanceMethod yAC_has ∈ wALL := List.mem_filter.mpr ⟨List.mem_append_right _ (List.mem_of_getElem? (i := 220) (by decide +kernel)), rfl⟩
theorem wm_39 : Cond.selects RAC yAC_has yAC_has ∈ wALL := List.mem_filter.mpr ⟨List.mem_append_left _ (List.mem_map.mpr ⟨_, List.mem_of_getElem? (i := 5) (by rfl), rfl⟩), rfl⟩
theorem wm_40 : Cond.constantLong RHL 57 (-100000000) ∈ wALL := List.mem_filter.mpr ⟨List.mem_append_right _ (List.mem_of_getElem? (i := 222) (by decide +kernel)), rfl⟩
theorem wm_41 : Cond.constantLong RHL 59 100000000 ∈ wALL := List.mem_filter.mpr ⟨List.mem_append_right _ (List.mem_of_getElem? (i := 223) (by decide +kernel)), rfl⟩
theorem wm_42 : Cond.fieldLink RJO 28 (TJO 5).1 (TJO 5).2.1 (TJO 5).2.2.1 ∈ wALL := List.mem_filter.mpr ⟨List.mem_append_right _ (List.mem_of_getElem? (i := 82) (by decide +kernel)), rfl⟩
theorem wm_43 : Cond.fieldLink RJO 31 (TJO 6).1 (TJO 6).2.1 (TJO 6).2.2.1 ∈ wALL := List.mem_filter.mpr ⟨List.mem_append_right _ (List.mem_of_getElem? (i := 84) (by decide +kernel)), rfl⟩
theorem wm_44 : Cond.fieldLink RJO 35 (TJO 7).1 (TJO 7).2.1 (TJO 7).2.2.1 ∈ wALL := List.mem_filter.mpr ⟨List.mem_append_right _ (List.mem_of_getElem? (i := 86) (by decide +kernel)), rfl⟩
theorem wm_45 : Cond.constantLong RJO 59 (-1) ∈ wALL := List.mem_filter.mpr ⟨List.mem_append_right _ (List.mem_of_getElem? (i := 228) (by decide +kernel)), rfl⟩
theorem wn_46 : Cond.methodLinkNest RHL 61 yJO_addRow "HouseLedger" ∈ wNW := List.mem_filter.mpr ⟨List.mem_append_right _ (List.mem_of_getElem? (i := 224) (by decide +kernel)), rfl⟩
theorem wm_47 : Cond.instanceMethod yJO_addRow ∈ wALL := List.mem_filter.mpr ⟨List.mem_append_right _ (List.mem_of_getElem? (i := 226) (by decide +kernel)), rfl⟩
theorem wm_48 : Cond.selects RJO yJO_addRow yJO_addRow ∈ wALL := List.mem_filter.mpr ⟨List.mem_append_left _ (List.mem_map.mpr ⟨_, List.mem_of_getElem? (i := 6) (by rfl), rfl⟩), rfl⟩
theorem wn_49 : Cond.fieldLinkNest RHL 65 (TJO 1).1 (TJO 1).2.1 (TJO 1).2.2.1 "HouseLedger" ∈ wNW := List.mem_filter.mpr ⟨List.mem_append_right _ (List.mem_of_getElem? (i := 75) (by decide +kernel)), rfl⟩
theorem wn_50 : Cond.methodLinkNest RHL 69 yJO_sumOf "HouseLedger" ∈ wNW := List.mem_filter.mpr ⟨List.mem_append_right _ (List.mem_of_getElem? (i := 488) (by decide +kernel)), rfl⟩
theorem wm_51 : Cond.instanceMethod yJO_sumOf ∈ wALL := List.mem_filter.mpr ⟨List.mem_append_right _ (List.mem_of_getElem? (i := 490) (by decide +kernel)), rfl⟩
theorem wm_52 : Cond.selects RJO yJO_sumOf yJO_sumOf ∈ wALL := List.mem_filter.mpr ⟨List.mem_append_left _ (List.mem_map.mpr ⟨_, List.mem_of_getElem? (i := 38) (by rfl), rfl⟩), rfl⟩
theorem wn_53 : Cond.fieldLinkNest RHL 80 (TJO 2).1 (TJO 2).2.1 (TJO 2).2.2.1 "HouseLedger" ∈ wNW := List.mem_filter.mpr ⟨List.mem_append_right _ (List.mem_of_getElem? (i := 77) (by decide +kernel)), rfl⟩
theorem wm_54 : Cond.fieldLink RBO 21 (TBO 1).1 (TBO 1).2.1 (TBO 1).2.2.1 ∈ wALL := List.mem_filter.mpr ⟨List.mem_append_right _ (List.mem_of_getElem? (i := 136) (by decide +kernel)), rfl⟩
theorem wn_55 : Cond.fieldLinkNest RBO 70 (TJO 3).1 (TJO 3).2.1 (TJO 3).2.2.1 "HouseLedger" ∈ wNW := List.mem_filter.mpr ⟨List.mem_append_right _ (List.mem_of_getElem? (i := 79) (by decide +kernel)), rfl⟩
theorem wn_56 : Cond.fieldLinkNest RBO 74 (TJO 6).1 (TJO 6).2.1 (TJO 6).2.2.1 "HouseLedger" ∈ wNW := List.mem_filter.mpr ⟨List.mem_append_right _ (List.mem_of_getElem? (i := 85) (by decide +kernel)), rfl⟩
theorem wm_57 : Cond.fieldLink RBO 12 (TBO 0).1 (TBO 0).2.1 (TBO 0).2.2.1 ∈ wALL := List.mem_filter.mpr ⟨List.mem_append_right _ (List.mem_of_getElem? (i := 134) (by decide +kernel)), rfl⟩
theorem wn_58 : Cond.fieldLinkNest RBO 77 (TJO 5).1 (TJO 5).2.1 (TJO 5).2.2.1 "HouseLedger" ∈ wNW := List.mem_filter.mpr ⟨List.mem_append_right _ (List.mem_of_getElem? (i := 83) (by decide +kernel)), rfl⟩
theorem wm_59 : Cond.methodLink RAC 48 yAC_has ∈ wALL := List.mem_filter.mpr ⟨List.mem_append_right _ (List.mem_of_getElem? (i := 255) (by decide +kernel)), rfl⟩
theorem wn_60 : Cond.methodLinkNest RBO 79 yAC_hasHousehold "HouseLedger" ∈ wNW := List.mem_filter.mpr ⟨List.mem_append_right _ (List.mem_of_getElem? (i := 562) (by decide +kernel)), rfl⟩
theorem wm_61 : Cond.instanceMethod yAC_hasHousehold ∈ wALL := List.mem_filter.mpr ⟨List.mem_append_right _ (List.mem_of_getElem? (i := 253) (by decide +kernel)), rfl⟩
theorem wm_62 : Cond.selects RAC yAC_hasHousehold yAC_hasHousehold ∈ wALL := List.mem_filter.mpr ⟨List.mem_append_left _ (List.mem_map.mpr ⟨_, List.mem_of_getElem? (i := 10) (by rfl), rfl⟩), rfl⟩
theorem wn_63 : Cond.fieldLinkNest RBO 83 (TJO 7).1 (TJO 7).2.1 (TJO 7).2.2.1 "HouseLedger" ∈ wNW := List.mem_filter.mpr ⟨List.mem_append_right _ (List.mem_of_getElem? (i := 87) (by decide +kernel)), rfl⟩
theorem wn_64 : Cond.methodLinkNest RHL 83 yBO_makeItems "HouseLedger" ∈ wNW := List.mem_filter.mpr ⟨List.mem_append_right _ (List.mem_of_getElem? (i := 558) (by decide +kernel)), rfl⟩
theorem wm_65 : Cond.instanceMethod yBO_makeItems ∈ wALL := List.mem_filter.mpr ⟨List.mem_append_right _ (List.mem_of_getElem? (i := 560) (by decide +kernel)), rfl⟩
theorem wm_66 : Cond.selects RBO yBO_makeItems yBO_makeItems ∈ wALL := List.mem_filter.mpr ⟨List.mem_append_left _ (List.mem_map.mpr ⟨_, List.mem_of_getElem? (i := 40) (by rfl), rfl⟩), rfl⟩
theorem wn_67 : Cond.fieldLinkNest RHL 87 (TJO 3).1 (TJO 3).2.1 (TJO 3).2.2.1 "HouseLedger" ∈ wNW := List.mem_filter.mpr ⟨List.mem_append_right _ (List.mem_of_getElem? (i := 80) (by decide +kernel)), rfl⟩
theorem wm_68 : Cond.methodLink RHL 90 yHL_isDay ∈ wALL := List.mem_filter.mpr ⟨List.mem_append_right _ (List.mem_of_getElem? (i := 233) (by decide +kernel)), rfl⟩
theorem wm_69 : Cond.methodLink RJO 61 yJO_isPostedRow ∈ wALL := List.mem_filter.mpr ⟨List.mem_append_right _ (List.mem_of_getElem? (i := 238) (by decide +kernel)), rfl⟩
theorem wm_70 : Cond.instanceMethod yJO_isPostedRow ∈ wALL := List.mem_filter.mpr ⟨List.mem_append_right _ (List.mem_of_getElem? (i := 240) (by decide +kernel)), rfl⟩
theorem wm_71 : Cond.selects RJO yJO_isPostedRow yJO_isPostedRow ∈ wALL := List.mem_filter.mpr ⟨List.mem_append_left _ (List.mem_map.mpr ⟨_, List.mem_of_getElem? (i := 8) (by rfl), rfl⟩), rfl⟩
theorem wn_72 : Cond.methodLinkNest RHL 93 yJO_sumUntil "HouseLedger" ∈ wNW := List.mem_filter.mpr ⟨List.mem_append_right _ (List.mem_of_getElem? (i := 234) (by decide +kernel)), rfl⟩
theorem wm_73 : Cond.instanceMethod yJO_sumUntil ∈ wALL := List.mem_filter.mpr ⟨List.mem_append_right _ (List.mem_of_getElem? (i := 236) (by decide +kernel)), rfl⟩
theorem wm_74 : Cond.selects RJO yJO_sumUntil yJO_sumUntil ∈ wALL := List.mem_filter.mpr ⟨List.mem_append_left _ (List.mem_map.mpr ⟨_, List.mem_of_getElem? (i := 7) (by rfl), rfl⟩), rfl⟩
theorem wn_75 : Cond.methodLinkNest RHL 97 yAC_firstCash "HouseLedger" ∈ wNW := List.mem_filter.mpr ⟨List.mem_append_right _ (List.mem_of_getElem? (i := 246) (by decide +kernel)), rfl⟩
theorem wm_76 : Cond.instanceMethod yAC_firstCash ∈ wALL := List.mem_filter.mpr ⟨List.mem_append_right _ (List.mem_of_getElem? (i := 248) (by decide +kernel)), rfl⟩
theorem wm_77 : Cond.selects RAC yAC_firstCash yAC_firstCash ∈ wALL := List.mem_filter.mpr ⟨List.mem_append_left _ (List.mem_map.mpr ⟨_, List.mem_of_getElem? (i := 9) (by rfl), rfl⟩), rfl⟩
theorem wn_78 : Cond.methodLinkNest RHL 101 yJO_isFull "HouseLedger" ∈ wNW := List.mem_filter.mpr ⟨List.mem_append_right _ (List.mem_of_getElem? (i := 250) (by decide +kernel)), rfl⟩
theorem wn_79 : Cond.methodLinkNest RHL 105 yAC_hasHousehold "HouseLedger" ∈ wNW := List.mem_filter.mpr ⟨List.mem_append_right _ (List.mem_of_getElem? (i := 251) (by decide +kernel)), rfl⟩
theorem wm_80 : Cond.methodLink RJO 73 yJO_itemAt ∈ wALL := List.mem_filter.mpr ⟨List.mem_append_right _ (List.mem_of_getElem? (i := 264) (by decide +kernel)), rfl⟩
theorem wm_81 : Cond.instanceMethod yJO_itemAt ∈ wALL := List.mem_filter.mpr ⟨List.mem_append_right _ (List.mem_of_getElem? (i := 266) (by decide +kernel)), rfl⟩
theorem wm_82 : Cond.selects RJO yJO_itemAt yJO_itemAt ∈ wALL := List.mem_filter.mpr ⟨List.mem_append_left _ (List.mem_map.mpr ⟨_, List.mem_of_getElem? (i := 13) (by rfl), rfl⟩), rfl⟩
theorem wm_83 : Cond.methodLink RJO 77 Lib.MathLoose.min_long.x ∈ wALL := List.mem_filter.mpr ⟨List.mem_append_right _ (List.mem_of_getElem? (i := 268) (by decide +kernel)), rfl⟩
theorem wm_84 : Cond.static Lib.MathLoose.min_long.x ∈ wALL := List.mem_filter.mpr ⟨List.mem_append_right _ (List.mem_of_getElem? (i := 269) (by decide +kernel)), rfl⟩
theorem wm_85 : Cond.initialized "java/lang/Math" ∈ wALL := List.mem_filter.mpr ⟨List.mem_append_right _ (List.mem_of_getElem? (i := 11) (by decide +kernel)), rfl⟩
set_option maxRecDepth 100000 in
theorem wm_86 : Cond.code Lib.MathLoose.min_long.x Lib.MathLoose.min_long.code 4 (some .long) ∈ wALL := List.mem_filter.mpr ⟨List.mem_append_right _ (List.mem_of_getElem? (i := 270) (by rfl)), rfl⟩
theorem wm_87 : Cond.fieldLink RJO 38 (TJO 8).1 (TJO 8).2.1 (TJO 8).2.2.1 ∈ wALL := List.mem_filter.mpr ⟨List.mem_append_right _ (List.mem_of_getElem? (i := 89) (by decide +kernel)), rfl⟩
theorem wm_88 : Cond.fieldLink RJO 41 (TJO 9).1 (TJO 9).2.1 (TJO 9).2.2.1 ∈ wALL := List.mem_filter.mpr ⟨List.mem_append_right _ (List.mem_of_getElem? (i := 90) (by decide +kernel)), rfl⟩
theorem wm_89 : Cond.fieldLink RJO 44 (TJO 10).1 (TJO 10).2.1 (TJO 10).2.2.1 ∈ wALL := List.mem_filter.mpr ⟨List.mem_append_right _ (List.mem_of_getElem? (i := 91) (by decide +kernel)), rfl⟩
theorem wm_90 : Cond.methodLink RJO 83 yJO_keepGift ∈ wALL := List.mem_filter.mpr ⟨List.mem_append_right _ (List.mem_of_getElem? (i := 271) (by decide +kernel)), rfl⟩
theorem wm_91 : Cond.instanceMethod yJO_keepGift ∈ wALL := List.mem_filter.mpr ⟨List.mem_append_right _ (List.mem_of_getElem? (i := 273) (by decide +kernel)), rfl⟩
theorem wm_92 : Cond.selects RJO yJO_keepGift yJO_keepGift ∈ wALL := List.mem_filter.mpr ⟨List.mem_append_left _ (List.mem_map.mpr ⟨_, List.mem_of_getElem? (i := 14) (by rfl), rfl⟩), rfl⟩
theorem wn_93 : Cond.methodLinkNest RHL 112 yJO_payItems "HouseLedger" ∈ wNW := List.mem_filter.mpr ⟨List.mem_append_right _ (List.mem_of_getElem? (i := 260) (by decide +kernel)), rfl⟩
theorem wm_94 : Cond.instanceMethod yJO_payItems ∈ wALL := List.mem_filter.mpr ⟨List.mem_append_right _ (List.mem_of_getElem? (i := 262) (by decide +kernel)), rfl⟩
theorem wm_95 : Cond.selects RJO yJO_payItems yJO_payItems ∈ wALL := List.mem_filter.mpr ⟨List.mem_append_left _ (List.mem_map.mpr ⟨_, List.mem_of_getElem? (i := 12) (by rfl), rfl⟩), rfl⟩
theorem wm_96 : Cond.fieldLink RBO 36 (TBO 4).1 (TBO 4).2.1 (TBO 4).2.2.1 ∈ wALL := List.mem_filter.mpr ⟨List.mem_append_right _ (List.mem_of_getElem? (i := 142) (by decide +kernel)), rfl⟩
theorem wm_97 : Cond.fieldLink RBO 32 (TBO 3).1 (TBO 3).2.1 (TBO 3).2.2.1 ∈ wALL := List.mem_filter.mpr ⟨List.mem_append_right _ (List.mem_of_getElem? (i := 140) (by decide +kernel)), rfl⟩
theorem wn_98 : Cond.methodLinkNest RHL 108 yBO_keepFound "HouseLedger" ∈ wNW := List.mem_filter.mpr ⟨List.mem_append_right _ (List.mem_of_getElem? (i := 256) (by decide +kernel)), rfl⟩
theorem wm_99 : Cond.instanceMethod yBO_keepFound ∈ wALL := List.mem_filter.mpr ⟨List.mem_append_right _ (List.mem_of_getElem? (i := 258) (by decide +kernel)), rfl⟩
theorem wm_100 : Cond.selects RBO yBO_keepFound yBO_keepFound ∈ wALL := List.mem_filter.mpr ⟨List.mem_append_left _ (List.mem_map.mpr ⟨_, List.mem_of_getElem? (i := 11) (by rfl), rfl⟩), rfl⟩
theorem wn_101 : Cond.methodLinkNest RHL 118 yJO_itemOf "HouseLedger" ∈ wNW := List.mem_filter.mpr ⟨List.mem_append_right _ (List.mem_of_getElem? (i := 280) (by decide +kernel)), rfl⟩
theorem wm_102 : Cond.instanceMethod yJO_itemOf ∈ wALL := List.mem_filter.mpr ⟨List.mem_append_right _ (List.mem_of_getElem? (i := 282) (by decide +kernel)), rfl⟩
theorem wm_103 : Cond.selects RJO yJO_itemOf yJO_itemOf ∈ wALL := List.mem_filter.mpr ⟨List.mem_append_left _ (List.mem_map.mpr ⟨_, List.mem_of_getElem? (i := 15) (by rfl), rfl⟩), rfl⟩
theorem wn_104 : Cond.fieldLinkNest RHL 121 (TJO 7).1 (TJO 7).2.1 (TJO 7).2.2.1 "HouseLedger" ∈ wNW := List.mem_filter.mpr ⟨List.mem_append_right _ (List.mem_of_getElem? (i := 88) (by decide +kernel)), rfl⟩
theorem wm_105 : Cond.constantLong RHL 116 (-1) ∈ wALL := List.mem_filter.mpr ⟨List.mem_append_right _ (List.mem_of_getElem? (i := 279) (by decide +kernel)), rfl⟩
theorem wm_106 : Cond.methodLink RJO 69 yJO_told ∈ wALL := List.mem_filter.mpr ⟨List.mem_append_right _ (List.mem_of_getElem? (i := 292) (by decide +kernel)), rfl⟩
theorem wm_107 : Cond.static yJO_told ∈ wALL := List.mem_filter.mpr ⟨List.mem_append_right _ (List.mem_of_getElem? (i := 293) (by decide +kernel)), rfl⟩
theorem wn_108 : Cond.methodLinkNest RHL 125 yJO_toldGift "HouseLedger" ∈ wNW := List.mem_filter.mpr ⟨List.mem_append_right _ (List.mem_of_getElem? (i := 288) (by decide +kernel)), rfl⟩
theorem wm_109 : Cond.instanceMethod yJO_toldGift ∈ wALL := List.mem_filter.mpr ⟨List.mem_append_right _ (List.mem_of_getElem? (i := 290) (by decide +kernel)), rfl⟩
theorem wm_110 : Cond.selects RJO yJO_toldGift yJO_toldGift ∈ wALL := List.mem_filter.mpr ⟨List.mem_append_left _ (List.mem_map.mpr ⟨_, List.mem_of_getElem? (i := 16) (by rfl), rfl⟩), rfl⟩
theorem wm_111 : Cond.methodLink RJO 90 Lib.Math.max.name ∈ wALL := List.mem_filter.mpr ⟨List.mem_append_right _ (List.mem_of_getElem? (i := 307) (by decide +kernel)), rfl⟩
theorem wm_112 : Cond.static Lib.Math.max.name ∈ wALL := List.mem_filter.mpr ⟨List.mem_append_right _ (List.mem_of_getElem? (i := 308) (by decide +kernel)), rfl⟩
set_option maxRecDepth 100000 in
theorem wm_113 : Cond.code Lib.Math.max.name Lib.Math.max.code 2 (some .int) ∈ wALL := List.mem_filter.mpr ⟨List.mem_append_right _ (List.mem_of_getElem? (i := 309) (by rfl)), rfl⟩
theorem wm_114 : Cond.methodLink RJO 87 yJO_daysLate ∈ wALL := List.mem_filter.mpr ⟨List.mem_append_right _ (List.mem_of_getElem? (i := 303) (by decide +kernel)), rfl⟩
theorem wm_115 : Cond.instanceMethod yJO_daysLate ∈ wALL := List.mem_filter.mpr ⟨List.mem_append_right _ (List.mem_of_getElem? (i := 305) (by decide +kernel)), rfl⟩
theorem wm_116 : Cond.selects RJO yJO_daysLate yJO_daysLate ∈ wALL := List.mem_filter.mpr ⟨List.mem_append_left _ (List.mem_map.mpr ⟨_, List.mem_of_getElem? (i := 18) (by rfl), rfl⟩), rfl⟩
theorem wn_117 : Cond.methodLinkNest RHL 128 yJO_isOverdue "HouseLedger" ∈ wNW := List.mem_filter.mpr ⟨List.mem_append_right _ (List.mem_of_getElem? (i := 299) (by decide +kernel)), rfl⟩
theorem wm_118 : Cond.instanceMethod yJO_isOverdue ∈ wALL := List.mem_filter.mpr ⟨List.mem_append_right _ (List.mem_of_getElem? (i := 301) (by decide +kernel)), rfl⟩
theorem wm_119 : Cond.selects RJO yJO_isOverdue yJO_isOverdue ∈ wALL := List.mem_filter.mpr ⟨List.mem_append_left _ (List.mem_map.mpr ⟨_, List.mem_of_getElem? (i := 17) (by rfl), rfl⟩), rfl⟩
theorem wn_120 : Cond.methodLinkNest RHL 135 yAC_mayStep "HouseLedger" ∈ wNW := List.mem_filter.mpr ⟨List.mem_append_right _ (List.mem_of_getElem? (i := 310) (by decide +kernel)), rfl⟩
theorem wm_121 : Cond.instanceMethod yAC_mayStep ∈ wALL := List.mem_filter.mpr ⟨List.mem_append_right _ (List.mem_of_getElem? (i := 312) (by decide +kernel)), rfl⟩
theorem wm_122 : Cond.selects RAC yAC_mayStep yAC_mayStep ∈ wALL := List.mem_filter.mpr ⟨List.mem_append_left _ (List.mem_map.mpr ⟨_, List.mem_of_getElem? (i := 19) (by rfl), rfl⟩), rfl⟩
theorem wn_123 : Cond.fieldLinkNest RHL 132 (TAC 2).1 (TAC 2).2.1 (TAC 2).2.2.1 "HouseLedger" ∈ wNW := List.mem_filter.mpr ⟨List.mem_append_right _ (List.mem_of_getElem? (i := 38) (by decide +kernel)), rfl⟩
theorem wm_124 : Cond.methodLink RAC 52 Lib.Math.min.name ∈ wALL := List.mem_filter.mpr ⟨List.mem_append_right _ (List.mem_of_getElem? (i := 318) (by decide +kernel)), rfl⟩
theorem wm_125 : Cond.static Lib.Math.min.name ∈ wALL := List.mem_filter.mpr ⟨List.mem_append_right _ (List.mem_of_getElem? (i := 319) (by decide +kernel)), rfl⟩
set_option maxRecDepth 100000 in
theorem wm_126 : Cond.code Lib.Math.min.name Lib.Math.min.code 2 (some .int) ∈ wALL := List.mem_filter.mpr ⟨List.mem_append_right _ (List.mem_of_getElem? (i := 320) (by rfl)), rfl⟩
theorem wn_127 : Cond.methodLinkNest RHL 138 yAC_stepUp "HouseLedger" ∈ wNW := List.mem_filter.mpr ⟨List.mem_append_right _ (List.mem_of_getElem? (i := 314) (by decide +kernel)), rfl⟩
theorem wm_128 : Cond.instanceMethod yAC_stepUp ∈ wALL := List.mem_filter.mpr ⟨List.mem_append_right _ (List.mem_of_getElem? (i := 316) (by decide +kernel)), rfl⟩
theorem wm_129 : Cond.selects RAC yAC_stepUp yAC_stepUp ∈ wALL := List.mem_filter.mpr ⟨List.mem_append_left _ (List.mem_map.mpr ⟨_, List.mem_of_getElem? (i := 20) (by rfl), rfl⟩), rfl⟩
theorem wn_130 : Cond.fieldLinkNest RHL 142 (TAC 4).1 (TAC 4).2.1 (TAC 4).2.2.1 "HouseLedger" ∈ wNW := List.mem_filter.mpr ⟨List.mem_append_right _ (List.mem_of_getElem? (i := 41) (by decide +kernel)), rfl⟩
theorem wn_131 : Cond.fieldLinkNest RHL 145 (TAC 5).1 (TAC 5).2.1 (TAC 5).2.2.1 "HouseLedger" ∈ wNW := List.mem_filter.mpr ⟨List.mem_append_right _ (List.mem_of_getElem? (i := 43) (by decide +kernel)), rfl⟩
theorem wn_132 : Cond.methodLinkNest RHL 148 yJO_dueOf "HouseLedger" ∈ wNW := List.mem_filter.mpr ⟨List.mem_append_right _ (List.mem_of_getElem? (i := 329) (by decide +kernel)), rfl⟩
theorem wm_133 : Cond.instanceMethod yJO_dueOf ∈ wALL := List.mem_filter.mpr ⟨List.mem_append_right _ (List.mem_of_getElem? (i := 331) (by decide +kernel)), rfl⟩
theorem wm_134 : Cond.selects RJO yJO_dueOf yJO_dueOf ∈ wALL := List.mem_filter.mpr ⟨List.mem_append_left _ (List.mem_map.mpr ⟨_, List.mem_of_getElem? (i := 21) (by rfl), rfl⟩), rfl⟩
theorem wn_135 : Cond.fieldLinkNest RHL 151 (TBO 2).1 (TBO 2).2.1 (TBO 2).2.2.1 "HouseLedger" ∈ wNW := List.mem_filter.mpr ⟨List.mem_append_right _ (List.mem_of_getElem? (i := 139) (by decide +kernel)), rfl⟩
theorem wm_136 : Cond.fieldLink RPL 9 (TPL 0).1 (TPL 0).2.1 (TPL 0).2.2.1 ∈ wALL := List.mem_filter.mpr ⟨List.mem_append_right _ (List.mem_of_getElem? (i := 121) (by decide +kernel)), rfl⟩
theorem wm_137 : Cond.fieldLink RPL 15 (TPL 1).1 (TPL 1).2.1 (TPL 1).2.2.1 ∈ wALL := List.mem_filter.mpr ⟨List.mem_append_right _ (List.mem_of_getElem? (i := 122) (by decide +kernel)), rfl⟩
theorem wm_138 : Cond.fieldLink RPL 19 (TPL 2).1 (TPL 2).2.1 (TPL 2).2.2.1 ∈ wALL := List.mem_filter.mpr ⟨List.mem_append_right _ (List.mem_of_getElem? (i := 123) (by decide +kernel)), rfl⟩
theorem wm_139 : Cond.fieldLink RPL 23 (TPL 3).1 (TPL 3).2.1 (TPL 3).2.2.1 ∈ wALL := List.mem_filter.mpr ⟨List.mem_append_right _ (List.mem_of_getElem? (i := 124) (by decide +kernel)), rfl⟩
theorem wn_140 : Cond.methodLinkNest RHL 155 yPL_add "HouseLedger" ∈ wNW := List.mem_filter.mpr ⟨List.mem_append_right _ (List.mem_of_getElem? (i := 333) (by decide +kernel)), rfl⟩
theorem wm_141 : Cond.instanceMethod yPL_add ∈ wALL := List.mem_filter.mpr ⟨List.mem_append_right _ (List.mem_of_getElem? (i := 335) (by decide +kernel)), rfl⟩
theorem wm_142 : Cond.selects RPL yPL_add yPL_add ∈ wALL := List.mem_filter.mpr ⟨List.mem_append_left _ (List.mem_map.mpr ⟨_, List.mem_of_getElem? (i := 22) (by rfl), rfl⟩), rfl⟩
theorem wm_143 : Cond.constantLong RPL 34 (-1) ∈ wALL := List.mem_filter.mpr ⟨List.mem_append_right _ (List.mem_of_getElem? (i := 345) (by decide +kernel)), rfl⟩
theorem wn_144 : Cond.methodLinkNest RHL 160 yPL_partOf "HouseLedger" ∈ wNW := List.mem_filter.mpr ⟨List.mem_append_right _ (List.mem_of_getElem? (i := 341) (by decide +kernel)), rfl⟩
theorem wm_145 : Cond.instanceMethod yPL_partOf ∈ wALL := List.mem_filter.mpr ⟨List.mem_append_right _ (List.mem_of_getElem? (i := 343) (by decide +kernel)), rfl⟩
theorem wm_146 : Cond.selects RPL yPL_partOf yPL_partOf ∈ wALL := List.mem_filter.mpr ⟨List.mem_append_left _ (List.mem_map.mpr ⟨_, List.mem_of_getElem? (i := 23) (by rfl), rfl⟩), rfl⟩
theorem wn_147 : Cond.methodLinkNest RHL 163 yAC_hasMoved "HouseLedger" ∈ wNW := List.mem_filter.mpr ⟨List.mem_append_right _ (List.mem_of_getElem? (i := 350) (by decide +kernel)), rfl⟩
theorem wm_148 : Cond.instanceMethod yAC_hasMoved ∈ wALL := List.mem_filter.mpr ⟨List.mem_append_right _ (List.mem_of_getElem? (i := 352) (by decide +kernel)), rfl⟩
theorem wm_149 : Cond.selects RAC yAC_hasMoved yAC_hasMoved ∈ wALL := List.mem_filter.mpr ⟨List.mem_append_left _ (List.mem_map.mpr ⟨_, List.mem_of_getElem? (i := 24) (by rfl), rfl⟩), rfl⟩
theorem wn_150 : Cond.fieldLinkNest RHL 166 (TAC 7).1 (TAC 7).2.1 (TAC 7).2.2.1 "HouseLedger" ∈ wNW := List.mem_filter.mpr ⟨List.mem_append_right _ (List.mem_of_getElem? (i := 47) (by decide +kernel)), rfl⟩
theorem wn_151 : Cond.fieldLinkNest RHL 169 (TAC 6).1 (TAC 6).2.1 (TAC 6).2.2.1 "HouseLedger" ∈ wNW := List.mem_filter.mpr ⟨List.mem_append_right _ (List.mem_of_getElem? (i := 45) (by decide +kernel)), rfl⟩
theorem wm_152 : Cond.methodLink RHL 172 yHL_isMonth ∈ wALL := List.mem_filter.mpr ⟨List.mem_append_right _ (List.mem_of_getElem? (i := 358) (by decide +kernel)), rfl⟩
theorem wm_153 : Cond.static yHL_isMonth ∈ wALL := List.mem_filter.mpr ⟨List.mem_append_right _ (List.mem_of_getElem? (i := 359) (by decide +kernel)), rfl⟩
theorem wm_154 : Cond.methodLink RAC 58 Lib.Math.max.name ∈ wALL := List.mem_filter.mpr ⟨List.mem_append_right _ (List.mem_of_getElem? (i := 365) (by decide +kernel)), rfl⟩
theorem wn_155 : Cond.methodLinkNest RHL 175 yAC_daysThere "HouseLedger" ∈ wNW := List.mem_filter.mpr ⟨List.mem_append_right _ (List.mem_of_getElem? (i := 361) (by decide +kernel)), rfl⟩
theorem wm_156 : Cond.instanceMethod yAC_daysThere ∈ wALL := List.mem_filter.mpr ⟨List.mem_append_right _ (List.mem_of_getElem? (i := 363) (by decide +kernel)), rfl⟩
theorem wm_157 : Cond.selects RAC yAC_daysThere yAC_daysThere ∈ wALL := List.mem_filter.mpr ⟨List.mem_append_left _ (List.mem_map.mpr ⟨_, List.mem_of_getElem? (i := 25) (by rfl), rfl⟩), rfl⟩
theorem wm_158 : Cond.constantLong RHL 178 30 ∈ wALL := List.mem_filter.mpr ⟨List.mem_append_right _ (List.mem_of_getElem? (i := 366) (by decide +kernel)), rfl⟩
theorem wm_159 : Cond.methodLink RHL 239 yHL_commonDivisor ∈ wALL := List.mem_filter.mpr ⟨List.mem_append_right _ (List.mem_of_getElem? (i := 370) (by decide +kernel)), rfl⟩
theorem wm_160 : Cond.static yHL_commonDivisor ∈ wALL := List.mem_filter.mpr ⟨List.mem_append_right _ (List.mem_of_getElem? (i := 371) (by decide +kernel)), rfl⟩
theorem wm_161 : Cond.methodLink RHL 212 Lib.MathLoose.max_long.x ∈ wALL := List.mem_filter.mpr ⟨List.mem_append_right _ (List.mem_of_getElem? (i := 373) (by decide +kernel)), rfl⟩
theorem wm_162 : Cond.static Lib.MathLoose.max_long.x ∈ wALL := List.mem_filter.mpr ⟨List.mem_append_right _ (List.mem_of_getElem? (i := 374) (by decide +kernel)), rfl⟩
set_option maxRecDepth 100000 in
theorem wm_163 : Cond.code Lib.MathLoose.max_long.x Lib.MathLoose.max_long.code 4 (some .long) ∈ wALL := List.mem_filter.mpr ⟨List.mem_append_right _ (List.mem_of_getElem? (i := 375) (by rfl)), rfl⟩
theorem wm_164 : Cond.methodLink RHL 180 yHL_inLowestTerms ∈ wALL := List.mem_filter.mpr ⟨List.mem_append_right _ (List.mem_of_getElem? (i := 367) (by decide +kernel)), rfl⟩
theorem wm_165 : Cond.static yHL_inLowestTerms ∈ wALL := List.mem_filter.mpr ⟨List.mem_append_right _ (List.mem_of_getElem? (i := 368) (by decide +kernel)), rfl⟩
theorem wm_166 : Cond.fieldLink RHL 19 (THL 2).1 (THL 2).2.1 (THL 2).2.2.1 ∈ wALL := List.mem_filter.mpr ⟨List.mem_append_right _ (List.mem_of_getElem? (i := 169) (by decide +kernel)), rfl⟩
theorem wm_167 : Cond.fieldLink RHL 16 (THL 1).1 (THL 1).2.1 (THL 1).2.2.1 ∈ wALL := List.mem_filter.mpr ⟨List.mem_append_right _ (List.mem_of_getElem? (i := 168) (by decide +kernel)), rfl⟩
theorem wm_168 : Cond.methodLink RHL 242 Lib.Math.min.name ∈ wALL := List.mem_filter.mpr ⟨List.mem_append_right _ (List.mem_of_getElem? (i := 391) (by decide +kernel)), rfl⟩
theorem wm_169 : Cond.methodLink RHL 245 arraycopyName ∈ wALL := List.mem_filter.mpr ⟨List.mem_append_right _ (List.mem_of_getElem? (i := 392) (by decide +kernel)), rfl⟩
theorem wm_170 : Cond.native arraycopyName ∈ wALL := List.mem_filter.mpr ⟨List.mem_append_right _ (List.mem_of_getElem? (i := 394) (by decide +kernel)), rfl⟩
theorem wm_171 : Cond.static arraycopyName ∈ wALL := List.mem_filter.mpr ⟨List.mem_append_right _ (List.mem_of_getElem? (i := 393) (by decide +kernel)), rfl⟩
theorem wm_172 : Cond.initialized "java/lang/System" ∈ wALL := List.mem_filter.mpr ⟨List.mem_append_right _ (List.mem_of_getElem? (i := 12) (by decide +kernel)), rfl⟩
theorem wn_173 : Cond.methodLinkNest RAC 38 yHL_copyInts "HouseLedger" ∈ wNW := List.mem_filter.mpr ⟨List.mem_append_right _ (List.mem_of_getElem? (i := 388) (by decide +kernel)), rfl⟩
theorem wm_174 : Cond.static yHL_copyInts ∈ wALL := List.mem_filter.mpr ⟨List.mem_append_right _ (List.mem_of_getElem? (i := 389) (by decide +kernel)), rfl⟩
theorem wn_175 : Cond.methodLinkNest RAC 42 yHL_copyLongs "HouseLedger" ∈ wNW := List.mem_filter.mpr ⟨List.mem_append_right _ (List.mem_of_getElem? (i := 395) (by decide +kernel)), rfl⟩
theorem wm_176 : Cond.static yHL_copyLongs ∈ wALL := List.mem_filter.mpr ⟨List.mem_append_right _ (List.mem_of_getElem? (i := 396) (by decide +kernel)), rfl⟩
theorem wn_177 : Cond.methodLinkNest RBO 50 yAC_copyFrom "HouseLedger" ∈ wNW := List.mem_filter.mpr ⟨List.mem_append_right _ (List.mem_of_getElem? (i := 384) (by decide +kernel)), rfl⟩
theorem wm_178 : Cond.instanceMethod yAC_copyFrom ∈ wALL := List.mem_filter.mpr ⟨List.mem_append_right _ (List.mem_of_getElem? (i := 386) (by decide +kernel)), rfl⟩
theorem wm_179 : Cond.selects RAC yAC_copyFrom yAC_copyFrom ∈ wALL := List.mem_filter.mpr ⟨List.mem_append_left _ (List.mem_map.mpr ⟨_, List.mem_of_getElem? (i := 27) (by rfl), rfl⟩), rfl⟩
theorem wn_180 : Cond.methodLinkNest RJO 47 yHL_copyInts "HouseLedger" ∈ wNW := List.mem_filter.mpr ⟨List.mem_append_right _ (List.mem_of_getElem? (i := 402) (by decide +kernel)), rfl⟩
theorem wn_181 : Cond.methodLinkNest RJO 51 yHL_copyLongs "HouseLedger" ∈ wNW := List.mem_filter.mpr ⟨List.mem_append_right _ (List.mem_of_getElem? (i := 403) (by decide +kernel)), rfl⟩
theorem wn_182 : Cond.methodLinkNest RBO 54 yJO_copyFrom "HouseLedger" ∈ wNW := List.mem_filter.mpr ⟨List.mem_append_right _ (List.mem_of_getElem? (i := 398) (by decide +kernel)), rfl⟩
theorem wm_183 : Cond.instanceMethod yJO_copyFrom ∈ wALL := List.mem_filter.mpr ⟨List.mem_append_right _ (List.mem_of_getElem? (i := 400) (by decide +kernel)), rfl⟩
theorem wm_184 : Cond.selects RJO yJO_copyFrom yJO_copyFrom ∈ wALL := List.mem_filter.mpr ⟨List.mem_append_left _ (List.mem_map.mpr ⟨_, List.mem_of_getElem? (i := 28) (by rfl), rfl⟩), rfl⟩
theorem wm_185 : Cond.fieldLink RBO 28 (TBO 2).1 (TBO 2).2.1 (TBO 2).2.2.1 ∈ wALL := List.mem_filter.mpr ⟨List.mem_append_right _ (List.mem_of_getElem? (i := 138) (by decide +kernel)), rfl⟩
theorem wn_186 : Cond.methodLinkNest RPL 26 yHL_copyInts "HouseLedger" ∈ wNW := List.mem_filter.mpr ⟨List.mem_append_right _ (List.mem_of_getElem? (i := 408) (by decide +kernel)), rfl⟩
theorem wn_187 : Cond.methodLinkNest RPL 30 yHL_copyLongs "HouseLedger" ∈ wNW := List.mem_filter.mpr ⟨List.mem_append_right _ (List.mem_of_getElem? (i := 409) (by decide +kernel)), rfl⟩
theorem wn_188 : Cond.methodLinkNest RBO 57 yPL_copyFrom "HouseLedger" ∈ wNW := List.mem_filter.mpr ⟨List.mem_append_right _ (List.mem_of_getElem? (i := 404) (by decide +kernel)), rfl⟩
theorem wm_189 : Cond.instanceMethod yPL_copyFrom ∈ wALL := List.mem_filter.mpr ⟨List.mem_append_right _ (List.mem_of_getElem? (i := 406) (by decide +kernel)), rfl⟩
theorem wm_190 : Cond.selects RPL yPL_copyFrom yPL_copyFrom ∈ wALL := List.mem_filter.mpr ⟨List.mem_append_left _ (List.mem_map.mpr ⟨_, List.mem_of_getElem? (i := 29) (by rfl), rfl⟩), rfl⟩
theorem wn_191 : Cond.methodLinkNest RBO 60 yHL_copyLongs "HouseLedger" ∈ wNW := List.mem_filter.mpr ⟨List.mem_append_right _ (List.mem_of_getElem? (i := 410) (by decide +kernel)), rfl⟩
theorem wm_192 : Cond.fieldLink RBO 43 (TBO 6).1 (TBO 6).2.1 (TBO 6).2.2.1 ∈ wALL := List.mem_filter.mpr ⟨List.mem_append_right _ (List.mem_of_getElem? (i := 146) (by decide +kernel)), rfl⟩
theorem wm_193 : Cond.fieldLink RBO 47 (TBO 7).1 (TBO 7).2.1 (TBO 7).2.2.1 ∈ wALL := List.mem_filter.mpr ⟨List.mem_append_right _ (List.mem_of_getElem? (i := 148) (by decide +kernel)), rfl⟩
theorem wn_194 : Cond.methodLinkNest RHL 184 yBO_copyFrom "HouseLedger" ∈ wNW := List.mem_filter.mpr ⟨List.mem_append_right _ (List.mem_of_getElem? (i := 380) (by decide +kernel)), rfl⟩
theorem wm_195 : Cond.instanceMethod yBO_copyFrom ∈ wALL := List.mem_filter.mpr ⟨List.mem_append_right _ (List.mem_of_getElem? (i := 382) (by decide +kernel)), rfl⟩
theorem wm_196 : Cond.selects RBO yBO_copyFrom yBO_copyFrom ∈ wALL := List.mem_filter.mpr ⟨List.mem_append_left _ (List.mem_map.mpr ⟨_, List.mem_of_getElem? (i := 26) (by rfl), rfl⟩), rfl⟩
theorem wm_197 : Cond.fieldLink RHL 23 (THL 3).1 (THL 3).2.1 (THL 3).2.2.1 ∈ wALL := List.mem_filter.mpr ⟨List.mem_append_right _ (List.mem_of_getElem? (i := 170) (by decide +kernel)), rfl⟩
theorem wn_198 : Cond.fieldLinkNest RHL 188 (TBO 5).1 (TBO 5).2.1 (TBO 5).2.2.1 "HouseLedger" ∈ wNW := List.mem_filter.mpr ⟨List.mem_append_right _ (List.mem_of_getElem? (i := 145) (by decide +kernel)), rfl⟩
theorem wn_199 : Cond.methodLinkNest RHL 191 yJO_isReversible "HouseLedger" ∈ wNW := List.mem_filter.mpr ⟨List.mem_append_right _ (List.mem_of_getElem? (i := 423) (by decide +kernel)), rfl⟩
theorem wm_200 : Cond.instanceMethod yJO_isReversible ∈ wALL := List.mem_filter.mpr ⟨List.mem_append_right _ (List.mem_of_getElem? (i := 425) (by decide +kernel)), rfl⟩
theorem wm_201 : Cond.selects RJO yJO_isReversible yJO_isReversible ∈ wALL := List.mem_filter.mpr ⟨List.mem_append_left _ (List.mem_map.mpr ⟨_, List.mem_of_getElem? (i := 30) (by rfl), rfl⟩), rfl⟩
theorem wm_202 : Cond.methodLink RJO 93 yJO_addRow ∈ wALL := List.mem_filter.mpr ⟨List.mem_append_right _ (List.mem_of_getElem? (i := 431) (by decide +kernel)), rfl⟩
theorem wn_203 : Cond.methodLinkNest RHL 194 yJO_turnRows "HouseLedger" ∈ wNW := List.mem_filter.mpr ⟨List.mem_append_right _ (List.mem_of_getElem? (i := 427) (by decide +kernel)), rfl⟩
theorem wm_204 : Cond.instanceMethod yJO_turnRows ∈ wALL := List.mem_filter.mpr ⟨List.mem_append_right _ (List.mem_of_getElem? (i := 429) (by decide +kernel)), rfl⟩
theorem wm_205 : Cond.selects RJO yJO_turnRows yJO_turnRows ∈ wALL := List.mem_filter.mpr ⟨List.mem_append_left _ (List.mem_map.mpr ⟨_, List.mem_of_getElem? (i := 31) (by rfl), rfl⟩), rfl⟩
theorem wn_206 : Cond.methodLinkNest RHL 197 yJO_clearItems "HouseLedger" ∈ wNW := List.mem_filter.mpr ⟨List.mem_append_right _ (List.mem_of_getElem? (i := 432) (by decide +kernel)), rfl⟩
theorem wm_207 : Cond.instanceMethod yJO_clearItems ∈ wALL := List.mem_filter.mpr ⟨List.mem_append_right _ (List.mem_of_getElem? (i := 434) (by decide +kernel)), rfl⟩
theorem wm_208 : Cond.selects RJO yJO_clearItems yJO_clearItems ∈ wALL := List.mem_filter.mpr ⟨List.mem_append_left _ (List.mem_map.mpr ⟨_, List.mem_of_getElem? (i := 32) (by rfl), rfl⟩), rfl⟩
theorem wn_209 : Cond.methodLinkNest RHL 200 yJO_centDays "HouseLedger" ∈ wNW := List.mem_filter.mpr ⟨List.mem_append_right _ (List.mem_of_getElem? (i := 440) (by decide +kernel)), rfl⟩
theorem wm_210 : Cond.instanceMethod yJO_centDays ∈ wALL := List.mem_filter.mpr ⟨List.mem_append_right _ (List.mem_of_getElem? (i := 442) (by decide +kernel)), rfl⟩
theorem wm_211 : Cond.selects RJO yJO_centDays yJO_centDays ∈ wALL := List.mem_filter.mpr ⟨List.mem_append_left _ (List.mem_map.mpr ⟨_, List.mem_of_getElem? (i := 33) (by rfl), rfl⟩), rfl⟩
theorem wn_212 : Cond.fieldLinkNest RHL 203 (TBO 6).1 (TBO 6).2.1 (TBO 6).2.2.1 "HouseLedger" ∈ wNW := List.mem_filter.mpr ⟨List.mem_append_right _ (List.mem_of_getElem? (i := 147) (by decide +kernel)), rfl⟩
theorem wm_213 : Cond.constantLong RHL 207 360 ∈ wALL := List.mem_filter.mpr ⟨List.mem_append_right _ (List.mem_of_getElem? (i := 444) (by decide +kernel)), rfl⟩
theorem wn_214 : Cond.fieldLinkNest RHL 209 (TBO 7).1 (TBO 7).2.1 (TBO 7).2.2.1 "HouseLedger" ∈ wNW := List.mem_filter.mpr ⟨List.mem_append_right _ (List.mem_of_getElem? (i := 149) (by decide +kernel)), rfl⟩
theorem wm_215 : Cond.constantLong RHL 218 2 ∈ wALL := List.mem_filter.mpr ⟨List.mem_append_right _ (List.mem_of_getElem? (i := 445) (by decide +kernel)), rfl⟩
theorem wm_216 : Cond.constantLong RHL 220 100 ∈ wALL := List.mem_filter.mpr ⟨List.mem_append_right _ (List.mem_of_getElem? (i := 450) (by decide +kernel)), rfl⟩
theorem wm_217 : Cond.methodLink RJO 65 yJO_isPostedRowIn ∈ wALL := List.mem_filter.mpr ⟨List.mem_append_right _ (List.mem_of_getElem? (i := 459) (by decide +kernel)), rfl⟩
theorem wm_218 : Cond.instanceMethod yJO_isPostedRowIn ∈ wALL := List.mem_filter.mpr ⟨List.mem_append_right _ (List.mem_of_getElem? (i := 461) (by decide +kernel)), rfl⟩
theorem wm_219 : Cond.selects RJO yJO_isPostedRowIn yJO_isPostedRowIn ∈ wALL := List.mem_filter.mpr ⟨List.mem_append_left _ (List.mem_map.mpr ⟨_, List.mem_of_getElem? (i := 35) (by rfl), rfl⟩), rfl⟩
theorem wn_220 : Cond.methodLinkNest RHL 222 yJO_toldRow "HouseLedger" ∈ wNW := List.mem_filter.mpr ⟨List.mem_append_right _ (List.mem_of_getElem? (i := 455) (by decide +kernel)), rfl⟩
theorem wm_221 : Cond.instanceMethod yJO_toldRow ∈ wALL := List.mem_filter.mpr ⟨List.mem_append_right _ (List.mem_of_getElem? (i := 457) (by decide +kernel)), rfl⟩
theorem wm_222 : Cond.selects RJO yJO_toldRow yJO_toldRow ∈ wALL := List.mem_filter.mpr ⟨List.mem_append_left _ (List.mem_map.mpr ⟨_, List.mem_of_getElem? (i := 34) (by rfl), rfl⟩), rfl⟩
theorem wn_223 : Cond.fieldLinkNest RBO 86 (TAC 0).1 (TAC 0).2.1 (TAC 0).2.2.1 "HouseLedger" ∈ wNW := List.mem_filter.mpr ⟨List.mem_append_right _ (List.mem_of_getElem? (i := 34) (by decide +kernel)), rfl⟩
theorem wn_224 : Cond.fieldLinkNest RBO 89 (TAC 1).1 (TAC 1).2.1 (TAC 1).2.2.1 "HouseLedger" ∈ wNW := List.mem_filter.mpr ⟨List.mem_append_right _ (List.mem_of_getElem? (i := 36) (by decide +kernel)), rfl⟩
theorem wn_225 : Cond.methodLinkNest RBO 92 yJO_sumIn "HouseLedger" ∈ wNW := List.mem_filter.mpr ⟨List.mem_append_right _ (List.mem_of_getElem? (i := 471) (by decide +kernel)), rfl⟩
theorem wm_226 : Cond.instanceMethod yJO_sumIn ∈ wALL := List.mem_filter.mpr ⟨List.mem_append_right _ (List.mem_of_getElem? (i := 473) (by decide +kernel)), rfl⟩
theorem wm_227 : Cond.selects RJO yJO_sumIn yJO_sumIn ∈ wALL := List.mem_filter.mpr ⟨List.mem_append_left _ (List.mem_map.mpr ⟨_, List.mem_of_getElem? (i := 37) (by rfl), rfl⟩), rfl⟩
theorem wn_228 : Cond.methodLinkNest RHL 226 yBO_incomeOf "HouseLedger" ∈ wNW := List.mem_filter.mpr ⟨List.mem_append_right _ (List.mem_of_getElem? (i := 467) (by decide +kernel)), rfl⟩
theorem wm_229 : Cond.instanceMethod yBO_incomeOf ∈ wALL := List.mem_filter.mpr ⟨List.mem_append_right _ (List.mem_of_getElem? (i := 469) (by decide +kernel)), rfl⟩
theorem wm_230 : Cond.selects RBO yBO_incomeOf yBO_incomeOf ∈ wALL := List.mem_filter.mpr ⟨List.mem_append_left _ (List.mem_map.mpr ⟨_, List.mem_of_getElem? (i := 36) (by rfl), rfl⟩), rfl⟩
theorem wm_231 : Cond.constantLong RHL 229 19 ∈ wALL := List.mem_filter.mpr ⟨List.mem_append_right _ (List.mem_of_getElem? (i := 475) (by decide +kernel)), rfl⟩
theorem wn_232 : Cond.fieldLinkNest RHL 231 (TBO 4).1 (TBO 4).2.1 (TBO 4).2.2.1 "HouseLedger" ∈ wNW := List.mem_filter.mpr ⟨List.mem_append_right _ (List.mem_of_getElem? (i := 143) (by decide +kernel)), rfl⟩
theorem wn_233 : Cond.fieldLinkNest RHL 234 (TBO 3).1 (TBO 3).2.1 (TBO 3).2.2.1 "HouseLedger" ∈ wNW := List.mem_filter.mpr ⟨List.mem_append_right _ (List.mem_of_getElem? (i := 141) (by decide +kernel)), rfl⟩
theorem wm_234 : Cond.fieldLink RMO 7 (TMO 0).1 (TMO 0).2.1 (TMO 0).2.2.1 ∈ wALL := List.mem_filter.mpr ⟨List.mem_append_right _ (List.mem_of_getElem? (i := 569) (by decide +kernel)), rfl⟩
theorem wm_235 : Cond.methodLink RMO 20 yMO_isAccount ∈ wALL := List.mem_filter.mpr ⟨List.mem_append_right _ (List.mem_of_getElem? (i := 619) (by decide +kernel)), rfl⟩
theorem wm_236 : Cond.instanceMethod yMO_isAccount ∈ wALL := List.mem_filter.mpr ⟨List.mem_append_right _ (List.mem_of_getElem? (i := 621) (by decide +kernel)), rfl⟩
theorem wm_237 : Cond.selects RMO yMO_isAccount yMO_isAccount ∈ wALL := List.mem_filter.mpr ⟨List.mem_append_left _ (List.mem_map.mpr ⟨_, List.mem_of_getElem? (i := 44) (by rfl), rfl⟩), rfl⟩
theorem wm_238 : Cond.constantLong RMO 24 3599 ∈ wALL := List.mem_filter.mpr ⟨List.mem_append_right _ (List.mem_of_getElem? (i := 598) (by decide +kernel)), rfl⟩
theorem wm_239 : Cond.methodLink RMO 26 yMO_isIn ∈ wALL := List.mem_filter.mpr ⟨List.mem_append_right _ (List.mem_of_getElem? (i := 599) (by decide +kernel)), rfl⟩
theorem wm_240 : Cond.static yMO_isIn ∈ wALL := List.mem_filter.mpr ⟨List.mem_append_right _ (List.mem_of_getElem? (i := 600) (by decide +kernel)), rfl⟩
theorem wm_241 : Cond.constantLong RMO 30 30 ∈ wALL := List.mem_filter.mpr ⟨List.mem_append_right _ (List.mem_of_getElem? (i := 606) (by decide +kernel)), rfl⟩
theorem wm_242 : Cond.fieldLink RMO 16 (TMO 4).1 (TMO 4).2.1 (TMO 4).2.2.1 ∈ wALL := List.mem_filter.mpr ⟨List.mem_append_right _ (List.mem_of_getElem? (i := 573) (by decide +kernel)), rfl⟩
theorem wm_243 : Cond.constantLong RMO 32 8 ∈ wALL := List.mem_filter.mpr ⟨List.mem_append_right _ (List.mem_of_getElem? (i := 589) (by decide +kernel)), rfl⟩
theorem wm_244 : Cond.constantLong RMO 34 40 ∈ wALL := List.mem_filter.mpr ⟨List.mem_append_right _ (List.mem_of_getElem? (i := 594) (by decide +kernel)), rfl⟩
theorem wm_245 : Cond.methodLink RMO 36 yMO_isDay ∈ wALL := List.mem_filter.mpr ⟨List.mem_append_right _ (List.mem_of_getElem? (i := 595) (by decide +kernel)), rfl⟩
theorem wm_246 : Cond.static yMO_isDay ∈ wALL := List.mem_filter.mpr ⟨List.mem_append_right _ (List.mem_of_getElem? (i := 596) (by decide +kernel)), rfl⟩
theorem wm_247 : Cond.methodLink RMO 40 yMO_isLate ∈ wALL := List.mem_filter.mpr ⟨List.mem_append_right _ (List.mem_of_getElem? (i := 602) (by decide +kernel)), rfl⟩
theorem wm_248 : Cond.instanceMethod yMO_isLate ∈ wALL := List.mem_filter.mpr ⟨List.mem_append_right _ (List.mem_of_getElem? (i := 604) (by decide +kernel)), rfl⟩
theorem wm_249 : Cond.selects RMO yMO_isLate yMO_isLate ∈ wALL := List.mem_filter.mpr ⟨List.mem_append_left _ (List.mem_map.mpr ⟨_, List.mem_of_getElem? (i := 41) (by rfl), rfl⟩), rfl⟩
theorem wm_250 : Cond.methodLink RMO 43 yMO_addEntry ∈ wALL := List.mem_filter.mpr ⟨List.mem_append_right _ (List.mem_of_getElem? (i := 607) (by decide +kernel)), rfl⟩
theorem wm_251 : Cond.instanceMethod yMO_addEntry ∈ wALL := List.mem_filter.mpr ⟨List.mem_append_right _ (List.mem_of_getElem? (i := 609) (by decide +kernel)), rfl⟩
theorem wm_252 : Cond.selects RMO yMO_addEntry yMO_addEntry ∈ wALL := List.mem_filter.mpr ⟨List.mem_append_left _ (List.mem_map.mpr ⟨_, List.mem_of_getElem? (i := 42) (by rfl), rfl⟩), rfl⟩
theorem wm_253 : Cond.methodLink RMO 47 yMO_isEntry ∈ wALL := List.mem_filter.mpr ⟨List.mem_append_right _ (List.mem_of_getElem? (i := 615) (by decide +kernel)), rfl⟩
theorem wm_254 : Cond.instanceMethod yMO_isEntry ∈ wALL := List.mem_filter.mpr ⟨List.mem_append_right _ (List.mem_of_getElem? (i := 617) (by decide +kernel)), rfl⟩
theorem wm_255 : Cond.selects RMO yMO_isEntry yMO_isEntry ∈ wALL := List.mem_filter.mpr ⟨List.mem_append_left _ (List.mem_map.mpr ⟨_, List.mem_of_getElem? (i := 43) (by rfl), rfl⟩), rfl⟩
theorem wm_256 : Cond.constantLong RMO 50 6 ∈ wALL := List.mem_filter.mpr ⟨List.mem_append_right _ (List.mem_of_getElem? (i := 623) (by decide +kernel)), rfl⟩
theorem wm_257 : Cond.constantLong RMO 52 (-100000000) ∈ wALL := List.mem_filter.mpr ⟨List.mem_append_right _ (List.mem_of_getElem? (i := 624) (by decide +kernel)), rfl⟩
theorem wm_258 : Cond.constantLong RMO 54 100000000 ∈ wALL := List.mem_filter.mpr ⟨List.mem_append_right _ (List.mem_of_getElem? (i := 625) (by decide +kernel)), rfl⟩
theorem wm_259 : Cond.methodLink RMO 56 yMO_addRow ∈ wALL := List.mem_filter.mpr ⟨List.mem_append_right _ (List.mem_of_getElem? (i := 626) (by decide +kernel)), rfl⟩
theorem wm_260 : Cond.instanceMethod yMO_addRow ∈ wALL := List.mem_filter.mpr ⟨List.mem_append_right _ (List.mem_of_getElem? (i := 628) (by decide +kernel)), rfl⟩
theorem wm_261 : Cond.selects RMO yMO_addRow yMO_addRow ∈ wALL := List.mem_filter.mpr ⟨List.mem_append_left _ (List.mem_map.mpr ⟨_, List.mem_of_getElem? (i := 45) (by rfl), rfl⟩), rfl⟩
theorem wm_262 : Cond.methodLink RMO 60 yMO_isItem ∈ wALL := List.mem_filter.mpr ⟨List.mem_append_right _ (List.mem_of_getElem? (i := 634) (by decide +kernel)), rfl⟩
theorem wm_263 : Cond.instanceMethod yMO_isItem ∈ wALL := List.mem_filter.mpr ⟨List.mem_append_right _ (List.mem_of_getElem? (i := 636) (by decide +kernel)), rfl⟩
theorem wm_264 : Cond.selects RMO yMO_isItem yMO_isItem ∈ wALL := List.mem_filter.mpr ⟨List.mem_append_left _ (List.mem_map.mpr ⟨_, List.mem_of_getElem? (i := 46) (by rfl), rfl⟩), rfl⟩
theorem wm_265 : Cond.methodLink RMO 64 yMO_isItemOf ∈ wALL := List.mem_filter.mpr ⟨List.mem_append_right _ (List.mem_of_getElem? (i := 655) (by decide +kernel)), rfl⟩
theorem wm_266 : Cond.instanceMethod yMO_isItemOf ∈ wALL := List.mem_filter.mpr ⟨List.mem_append_right _ (List.mem_of_getElem? (i := 657) (by decide +kernel)), rfl⟩
theorem wm_267 : Cond.selects RMO yMO_isItemOf yMO_isItemOf ∈ wALL := List.mem_filter.mpr ⟨List.mem_append_left _ (List.mem_map.mpr ⟨_, List.mem_of_getElem? (i := 49) (by rfl), rfl⟩), rfl⟩
theorem wm_268 : Cond.methodLink RMO 67 yMO_isBefore ∈ wALL := List.mem_filter.mpr ⟨List.mem_append_right _ (List.mem_of_getElem? (i := 659) (by decide +kernel)), rfl⟩
theorem wm_269 : Cond.instanceMethod yMO_isBefore ∈ wALL := List.mem_filter.mpr ⟨List.mem_append_right _ (List.mem_of_getElem? (i := 661) (by decide +kernel)), rfl⟩
theorem wm_270 : Cond.selects RMO yMO_isBefore yMO_isBefore ∈ wALL := List.mem_filter.mpr ⟨List.mem_append_left _ (List.mem_map.mpr ⟨_, List.mem_of_getElem? (i := 50) (by rfl), rfl⟩), rfl⟩
theorem wm_271 : Cond.methodLink RMO 70 yMO_isHousehold ∈ wALL := List.mem_filter.mpr ⟨List.mem_append_right _ (List.mem_of_getElem? (i := 646) (by decide +kernel)), rfl⟩
theorem wm_272 : Cond.instanceMethod yMO_isHousehold ∈ wALL := List.mem_filter.mpr ⟨List.mem_append_right _ (List.mem_of_getElem? (i := 648) (by decide +kernel)), rfl⟩
theorem wm_273 : Cond.selects RMO yMO_isHousehold yMO_isHousehold ∈ wALL := List.mem_filter.mpr ⟨List.mem_append_left _ (List.mem_map.mpr ⟨_, List.mem_of_getElem? (i := 47) (by rfl), rfl⟩), rfl⟩
theorem wm_274 : Cond.methodLink RMO 75 yMO_itemAt ∈ wALL := List.mem_filter.mpr ⟨List.mem_append_right _ (List.mem_of_getElem? (i := 651) (by decide +kernel)), rfl⟩
theorem wm_275 : Cond.instanceMethod yMO_itemAt ∈ wALL := List.mem_filter.mpr ⟨List.mem_append_right _ (List.mem_of_getElem? (i := 653) (by decide +kernel)), rfl⟩
theorem wm_276 : Cond.selects RMO yMO_itemAt yMO_itemAt ∈ wALL := List.mem_filter.mpr ⟨List.mem_append_left _ (List.mem_map.mpr ⟨_, List.mem_of_getElem? (i := 48) (by rfl), rfl⟩), rfl⟩
theorem wm_277 : Cond.constantLong RMO 73 20 ∈ wALL := List.mem_filter.mpr ⟨List.mem_append_right _ (List.mem_of_getElem? (i := 650) (by decide +kernel)), rfl⟩
theorem wm_278 : Cond.constantLong RMO 79 (-1) ∈ wALL := List.mem_filter.mpr ⟨List.mem_append_right _ (List.mem_of_getElem? (i := 667) (by decide +kernel)), rfl⟩
theorem wm_279 : Cond.methodLink RMO 81 yMO_gave ∈ wALL := List.mem_filter.mpr ⟨List.mem_append_right _ (List.mem_of_getElem? (i := 672) (by decide +kernel)), rfl⟩
theorem wm_280 : Cond.instanceMethod yMO_gave ∈ wALL := List.mem_filter.mpr ⟨List.mem_append_right _ (List.mem_of_getElem? (i := 674) (by decide +kernel)), rfl⟩
theorem wm_281 : Cond.selects RMO yMO_gave yMO_gave ∈ wALL := List.mem_filter.mpr ⟨List.mem_append_left _ (List.mem_map.mpr ⟨_, List.mem_of_getElem? (i := 51) (by rfl), rfl⟩), rfl⟩
theorem wm_282 : Cond.constantLong RMO 84 31 ∈ wALL := List.mem_filter.mpr ⟨List.mem_append_right _ (List.mem_of_getElem? (i := 684) (by decide +kernel)), rfl⟩
theorem wm_283 : Cond.methodLink RMO 86 yMO_hasOld ∈ wALL := List.mem_filter.mpr ⟨List.mem_append_right _ (List.mem_of_getElem? (i := 680) (by decide +kernel)), rfl⟩
theorem wm_284 : Cond.instanceMethod yMO_hasOld ∈ wALL := List.mem_filter.mpr ⟨List.mem_append_right _ (List.mem_of_getElem? (i := 682) (by decide +kernel)), rfl⟩
theorem wm_285 : Cond.selects RMO yMO_hasOld yMO_hasOld ∈ wALL := List.mem_filter.mpr ⟨List.mem_append_left _ (List.mem_map.mpr ⟨_, List.mem_of_getElem? (i := 52) (by rfl), rfl⟩), rfl⟩
theorem wm_286 : Cond.constantLong RMO 92 3 ∈ wALL := List.mem_filter.mpr ⟨List.mem_append_right _ (List.mem_of_getElem? (i := 686) (by decide +kernel)), rfl⟩
theorem wm_287 : Cond.constantLong RMO 90 14 ∈ wALL := List.mem_filter.mpr ⟨List.mem_append_right _ (List.mem_of_getElem? (i := 685) (by decide +kernel)), rfl⟩
theorem wm_288 : Cond.constantLong RMO 94 10 ∈ wALL := List.mem_filter.mpr ⟨List.mem_append_right _ (List.mem_of_getElem? (i := 695) (by decide +kernel)), rfl⟩
theorem wm_289 : Cond.methodLink RMO 96 yMO_allDue ∈ wALL := List.mem_filter.mpr ⟨List.mem_append_right _ (List.mem_of_getElem? (i := 696) (by decide +kernel)), rfl⟩
theorem wm_290 : Cond.instanceMethod yMO_allDue ∈ wALL := List.mem_filter.mpr ⟨List.mem_append_right _ (List.mem_of_getElem? (i := 698) (by decide +kernel)), rfl⟩
theorem wm_291 : Cond.selects RMO yMO_allDue yMO_allDue ∈ wALL := List.mem_filter.mpr ⟨List.mem_append_left _ (List.mem_map.mpr ⟨_, List.mem_of_getElem? (i := 53) (by rfl), rfl⟩), rfl⟩
theorem wm_292 : Cond.methodLink RMO 100 yMO_hasMoved ∈ wALL := List.mem_filter.mpr ⟨List.mem_append_right _ (List.mem_of_getElem? (i := 708) (by decide +kernel)), rfl⟩
theorem wm_293 : Cond.instanceMethod yMO_hasMoved ∈ wALL := List.mem_filter.mpr ⟨List.mem_append_right _ (List.mem_of_getElem? (i := 710) (by decide +kernel)), rfl⟩
theorem wm_294 : Cond.selects RMO yMO_hasMoved yMO_hasMoved ∈ wALL := List.mem_filter.mpr ⟨List.mem_append_left _ (List.mem_map.mpr ⟨_, List.mem_of_getElem? (i := 54) (by rfl), rfl⟩), rfl⟩
theorem wm_295 : Cond.methodLink RMO 103 yMO_common ∈ wALL := List.mem_filter.mpr ⟨List.mem_append_right _ (List.mem_of_getElem? (i := 719) (by decide +kernel)), rfl⟩
theorem wm_296 : Cond.static yMO_common ∈ wALL := List.mem_filter.mpr ⟨List.mem_append_right _ (List.mem_of_getElem? (i := 720) (by decide +kernel)), rfl⟩
theorem wm_297 : Cond.methodLink RMO 107 yMO_part ∈ wALL := List.mem_filter.mpr ⟨List.mem_append_right _ (List.mem_of_getElem? (i := 716) (by decide +kernel)), rfl⟩
theorem wm_298 : Cond.static yMO_part ∈ wALL := List.mem_filter.mpr ⟨List.mem_append_right _ (List.mem_of_getElem? (i := 717) (by decide +kernel)), rfl⟩
theorem wm_299 : Cond.fieldLink RMO 111 (TMO 2).1 (TMO 2).2.1 (TMO 2).2.2.1 ∈ wALL := List.mem_filter.mpr ⟨List.mem_append_right _ (List.mem_of_getElem? (i := 571) (by decide +kernel)), rfl⟩
theorem wm_300 : Cond.fieldLink RMO 13 (TMO 1).1 (TMO 1).2.1 (TMO 1).2.2.1 ∈ wALL := List.mem_filter.mpr ⟨List.mem_append_right _ (List.mem_of_getElem? (i := 570) (by decide +kernel)), rfl⟩
theorem wm_301 : Cond.fieldLink RMO 115 (TMO 3).1 (TMO 3).2.1 (TMO 3).2.2.1 ∈ wALL := List.mem_filter.mpr ⟨List.mem_append_right _ (List.mem_of_getElem? (i := 572) (by decide +kernel)), rfl⟩
theorem wm_302 : Cond.constantLong RMO 118 120 ∈ wALL := List.mem_filter.mpr ⟨List.mem_append_right _ (List.mem_of_getElem? (i := 734) (by decide +kernel)), rfl⟩
theorem wm_303 : Cond.methodLink RMO 120 yMO_isPaid ∈ wALL := List.mem_filter.mpr ⟨List.mem_append_right _ (List.mem_of_getElem? (i := 739) (by decide +kernel)), rfl⟩
theorem wm_304 : Cond.instanceMethod yMO_isPaid ∈ wALL := List.mem_filter.mpr ⟨List.mem_append_right _ (List.mem_of_getElem? (i := 741) (by decide +kernel)), rfl⟩
theorem wm_305 : Cond.selects RMO yMO_isPaid yMO_isPaid ∈ wALL := List.mem_filter.mpr ⟨List.mem_append_left _ (List.mem_map.mpr ⟨_, List.mem_of_getElem? (i := 55) (by rfl), rfl⟩), rfl⟩
theorem wm_306 : Cond.constantLong RMO 123 360 ∈ wALL := List.mem_filter.mpr ⟨List.mem_append_right _ (List.mem_of_getElem? (i := 747) (by decide +kernel)), rfl⟩
theorem wm_307 : Cond.constantLong RMO 125 2 ∈ wALL := List.mem_filter.mpr ⟨List.mem_append_right _ (List.mem_of_getElem? (i := 748) (by decide +kernel)), rfl⟩
theorem wm_308 : Cond.constantLong RMO 127 100 ∈ wALL := List.mem_filter.mpr ⟨List.mem_append_right _ (List.mem_of_getElem? (i := 753) (by decide +kernel)), rfl⟩
theorem wm_309 : Cond.constantLong RMO 129 19 ∈ wALL := List.mem_filter.mpr ⟨List.mem_append_right _ (List.mem_of_getElem? (i := 762) (by decide +kernel)), rfl⟩
theorem wm_310 : u_lay RHL THL 0 ∈ wALL := List.mem_filter.mpr ⟨List.mem_append_right _ (List.mem_of_getElem? (i := 171) (by decide +kernel)), rfl⟩
theorem wm_311 : u_lay RHL THL 1 ∈ wALL := List.mem_filter.mpr ⟨List.mem_append_right _ (List.mem_of_getElem? (i := 173) (by decide +kernel)), rfl⟩
theorem wm_312 : u_lay RHL THL 2 ∈ wALL := List.mem_filter.mpr ⟨List.mem_append_right _ (List.mem_of_getElem? (i := 175) (by decide +kernel)), rfl⟩
theorem wm_313 : u_lay RHL THL 3 ∈ wALL := List.mem_filter.mpr ⟨List.mem_append_right _ (List.mem_of_getElem? (i := 177) (by decide +kernel)), rfl⟩
theorem wm_314 : u_lay RAC TAC 0 ∈ wALL := List.mem_filter.mpr ⟨List.mem_append_right _ (List.mem_of_getElem? (i := 48) (by decide +kernel)), rfl⟩
theorem wm_315 : u_lay RAC TAC 1 ∈ wALL := List.mem_filter.mpr ⟨List.mem_append_right _ (List.mem_of_getElem? (i := 50) (by decide +kernel)), rfl⟩
theorem wm_316 : u_lay RAC TAC 2 ∈ wALL := List.mem_filter.mpr ⟨List.mem_append_right _ (List.mem_of_getElem? (i := 52) (by decide +kernel)), rfl⟩
theorem wm_317 : u_lay RAC TAC 3 ∈ wALL := List.mem_filter.mpr ⟨List.mem_append_right _ (List.mem_of_getElem? (i := 54) (by decide +kernel)), rfl⟩
theorem wm_318 : u_lay RAC TAC 4 ∈ wALL := List.mem_filter.mpr ⟨List.mem_append_right _ (List.mem_of_getElem? (i := 56) (by decide +kernel)), rfl⟩
theorem wm_319 : u_lay RAC TAC 5 ∈ wALL := List.mem_filter.mpr ⟨List.mem_append_right _ (List.mem_of_getElem? (i := 58) (by decide +kernel)), rfl⟩
theorem wm_320 : u_lay RAC TAC 6 ∈ wALL := List.mem_filter.mpr ⟨List.mem_append_right _ (List.mem_of_getElem? (i := 60) (by decide +kernel)), rfl⟩
theorem wm_321 : u_lay RAC TAC 7 ∈ wALL := List.mem_filter.mpr ⟨List.mem_append_right _ (List.mem_of_getElem? (i := 62) (by decide +kernel)), rfl⟩
theorem wm_322 : u_lay RBO TBO 0 ∈ wALL := List.mem_filter.mpr ⟨List.mem_append_right _ (List.mem_of_getElem? (i := 150) (by decide +kernel)), rfl⟩
theorem wm_323 : u_lay RBO TBO 1 ∈ wALL := List.mem_filter.mpr ⟨List.mem_append_right _ (List.mem_of_getElem? (i := 152) (by decide +kernel)), rfl⟩
theorem wm_324 : u_lay RBO TBO 2 ∈ wALL := List.mem_filter.mpr ⟨List.mem_append_right _ (List.mem_of_getElem? (i := 154) (by decide +kernel)), rfl⟩
theorem wm_325 : u_lay RBO TBO 3 ∈ wALL := List.mem_filter.mpr ⟨List.mem_append_right _ (List.mem_of_getElem? (i := 156) (by decide +kernel)), rfl⟩
theorem wm_326 : u_lay RBO TBO 4 ∈ wALL := List.mem_filter.mpr ⟨List.mem_append_right _ (List.mem_of_getElem? (i := 158) (by decide +kernel)), rfl⟩
theorem wm_327 : u_lay RBO TBO 5 ∈ wALL := List.mem_filter.mpr ⟨List.mem_append_right _ (List.mem_of_getElem? (i := 160) (by decide +kernel)), rfl⟩
theorem wm_328 : u_lay RBO TBO 6 ∈ wALL := List.mem_filter.mpr ⟨List.mem_append_right _ (List.mem_of_getElem? (i := 162) (by decide +kernel)), rfl⟩
theorem wm_329 : u_lay RBO TBO 7 ∈ wALL := List.mem_filter.mpr ⟨List.mem_append_right _ (List.mem_of_getElem? (i := 164) (by decide +kernel)), rfl⟩
theorem wm_330 : u_lay RJO TJO 0 ∈ wALL := List.mem_filter.mpr ⟨List.mem_append_right _ (List.mem_of_getElem? (i := 92) (by decide +kernel)), rfl⟩
theorem wm_331 : u_lay RJO TJO 1 ∈ wALL := List.mem_filter.mpr ⟨List.mem_append_right _ (List.mem_of_getElem? (i := 94) (by decide +kernel)), rfl⟩
theorem wm_332 : u_lay RJO TJO 2 ∈ wALL := List.mem_filter.mpr ⟨List.mem_append_right _ (List.mem_of_getElem? (i := 96) (by decide +kernel)), rfl⟩
theorem wm_333 : u_lay RJO TJO 3 ∈ wALL := List.mem_filter.mpr ⟨List.mem_append_right _ (List.mem_of_getElem? (i := 98) (by decide +kernel)), rfl⟩
theorem wm_334 : u_lay RJO TJO 4 ∈ wALL := List.mem_filter.mpr ⟨List.mem_append_right _ (List.mem_of_getElem? (i := 100) (by decide +kernel)), rfl⟩
theorem wm_335 : u_lay RJO TJO 5 ∈ wALL := List.mem_filter.mpr ⟨List.mem_append_right _ (List.mem_of_getElem? (i := 102) (by decide +kernel)), rfl⟩
theorem wm_336 : u_lay RJO TJO 6 ∈ wALL := List.mem_filter.mpr ⟨List.mem_append_right _ (List.mem_of_getElem? (i := 104) (by decide +kernel)), rfl⟩
theorem wm_337 : u_lay RJO TJO 7 ∈ wALL := List.mem_filter.mpr ⟨List.mem_append_right _ (List.mem_of_getElem? (i := 106) (by decide +kernel)), rfl⟩
theorem wm_338 : u_lay RJO TJO 8 ∈ wALL := List.mem_filter.mpr ⟨List.mem_append_right _ (List.mem_of_getElem? (i := 108) (by decide +kernel)), rfl⟩
theorem wm_339 : u_lay RJO TJO 9 ∈ wALL := List.mem_filter.mpr ⟨List.mem_append_right _ (List.mem_of_getElem? (i := 110) (by decide +kernel)), rfl⟩
theorem wm_340 : u_lay RJO TJO 10 ∈ wALL := List.mem_filter.mpr ⟨List.mem_append_right _ (List.mem_of_getElem? (i := 112) (by decide +kernel)), rfl⟩
theorem wm_341 : u_lay RPL TPL 0 ∈ wALL := List.mem_filter.mpr ⟨List.mem_append_right _ (List.mem_of_getElem? (i := 125) (by decide +kernel)), rfl⟩
theorem wm_342 : u_lay RPL TPL 1 ∈ wALL := List.mem_filter.mpr ⟨List.mem_append_right _ (List.mem_of_getElem? (i := 127) (by decide +kernel)), rfl⟩
theorem wm_343 : u_lay RPL TPL 2 ∈ wALL := List.mem_filter.mpr ⟨List.mem_append_right _ (List.mem_of_getElem? (i := 129) (by decide +kernel)), rfl⟩
theorem wm_344 : u_lay RPL TPL 3 ∈ wALL := List.mem_filter.mpr ⟨List.mem_append_right _ (List.mem_of_getElem? (i := 131) (by decide +kernel)), rfl⟩
theorem wm_345 : u_lay RMO TMO 0 ∈ wALL := List.mem_filter.mpr ⟨List.mem_append_right _ (List.mem_of_getElem? (i := 574) (by decide +kernel)), rfl⟩
theorem wm_346 : u_lay RMO TMO 1 ∈ wALL := List.mem_filter.mpr ⟨List.mem_append_right _ (List.mem_of_getElem? (i := 576) (by decide +kernel)), rfl⟩
theorem wm_347 : u_lay RMO TMO 2 ∈ wALL := List.mem_filter.mpr ⟨List.mem_append_right _ (List.mem_of_getElem? (i := 578) (by decide +kernel)), rfl⟩
theorem wm_348 : u_lay RMO TMO 3 ∈ wALL := List.mem_filter.mpr ⟨List.mem_append_right _ (List.mem_of_getElem? (i := 580) (by decide +kernel)), rfl⟩
theorem wm_349 : u_lay RMO TMO 4 ∈ wALL := List.mem_filter.mpr ⟨List.mem_append_right _ (List.mem_of_getElem? (i := 582) (by decide +kernel)), rfl⟩
set_option maxRecDepth 100000 in
theorem wm_350 : Cond.code yAC_add bAC_add 3 (some .int) ∈ wALL := List.mem_filter.mpr ⟨List.mem_append_right _ (List.mem_of_getElem? (i := 187) (by rfl)), rfl⟩
theorem wm_351 : Cond.initialized RAC ∈ wALL := List.mem_filter.mpr ⟨List.mem_append_right _ (List.mem_of_getElem? (i := 3) (by decide +kernel)), rfl⟩
set_option maxRecDepth 100000 in
theorem wm_352 : Cond.code yHL_account bHL_account 2 (some .int) ∈ wALL := List.mem_filter.mpr ⟨List.mem_append_right _ (List.mem_of_getElem? (i := 183) (by rfl)), rfl⟩
theorem wm_353 : Cond.initialized RHL ∈ wALL := List.mem_filter.mpr ⟨List.mem_append_right _ (List.mem_of_getElem? (i := 1) (by decide +kernel)), rfl⟩
set_option maxRecDepth 100000 in
theorem wm_354 : Cond.code yHL_isDay bHL_isDay 2 (some .boolean) ∈ wALL := List.mem_filter.mpr ⟨List.mem_append_right _ (List.mem_of_getElem? (i := 199) (by rfl)), rfl⟩
set_option maxRecDepth 100000 in
theorem wm_355 : Cond.code yBO_isUnclosedDay bBO_isUnclosedDay 3 (some .boolean) ∈ wALL := List.mem_filter.mpr ⟨List.mem_append_right _ (List.mem_of_getElem? (i := 196) (by rfl)), rfl⟩
theorem wm_356 : Cond.initialized RBO ∈ wALL := List.mem_filter.mpr ⟨List.mem_append_right _ (List.mem_of_getElem? (i := 2) (by decide +kernel)), rfl⟩
set_option maxRecDepth 100000 in
theorem wm_357 : Cond.code yJO_isFull bJO_isFull 1 (some .boolean) ∈ wALL := List.mem_filter.mpr ⟨List.mem_append_right _ (List.mem_of_getElem? (i := 209) (by rfl)), rfl⟩
theorem wm_358 : Cond.initialized RJO ∈ wALL := List.mem_filter.mpr ⟨List.mem_append_right _ (List.mem_of_getElem? (i := 4) (by decide +kernel)), rfl⟩
set_option maxRecDepth 100000 in
theorem wm_359 : Cond.code yJO_add bJO_add 5 (some .int) ∈ wALL := List.mem_filter.mpr ⟨List.mem_append_right _ (List.mem_of_getElem? (i := 205) (by rfl)), rfl⟩
set_option maxRecDepth 100000 in
theorem wm_360 : Cond.code yHL_entry bHL_entry 3 (some .int) ∈ wALL := List.mem_filter.mpr ⟨List.mem_append_right _ (List.mem_of_getElem? (i := 192) (by rfl)), rfl⟩
set_option maxRecDepth 100000 in
theorem wm_361 : Cond.code yJO_isOpen bJO_isOpen 2 (some .boolean) ∈ wALL := List.mem_filter.mpr ⟨List.mem_append_right _ (List.mem_of_getElem? (i := 217) (by rfl)), rfl⟩
set_option maxRecDepth 100000 in
theorem wm_362 : Cond.code yAC_has bAC_has 2 (some .boolean) ∈ wALL := List.mem_filter.mpr ⟨List.mem_append_right _ (List.mem_of_getElem? (i := 221) (by rfl)), rfl⟩
set_option maxRecDepth 100000 in
theorem wm_363 : Cond.code yJO_addRow bJO_addRow 6 (some .boolean) ∈ wALL := List.mem_filter.mpr ⟨List.mem_append_right _ (List.mem_of_getElem? (i := 227) (by rfl)), rfl⟩
set_option maxRecDepth 100000 in
theorem wm_364 : Cond.code yHL_row bHL_row 5 (some .boolean) ∈ wALL := List.mem_filter.mpr ⟨List.mem_append_right _ (List.mem_of_getElem? (i := 213) (by rfl)), rfl⟩
set_option maxRecDepth 100000 in
theorem wm_365 : Cond.code yJO_sumOf bJO_sumOf 7 (some .long) ∈ wALL := List.mem_filter.mpr ⟨List.mem_append_right _ (List.mem_of_getElem? (i := 491) (by rfl)), rfl⟩
set_option maxRecDepth 100000 in
theorem wm_366 : Cond.code yAC_hasHousehold bAC_hasHousehold 2 (some .boolean) ∈ wALL := List.mem_filter.mpr ⟨List.mem_append_right _ (List.mem_of_getElem? (i := 254) (by rfl)), rfl⟩
set_option maxRecDepth 100000 in
theorem wm_367 : Cond.code yBO_makeItems bBO_makeItems 5 none ∈ wALL := List.mem_filter.mpr ⟨List.mem_append_right _ (List.mem_of_getElem? (i := 561) (by rfl)), rfl⟩
set_option maxRecDepth 100000 in
theorem wm_368 : Cond.code yHL_close bHL_close 3 (some .int) ∈ wALL := List.mem_filter.mpr ⟨List.mem_append_right _ (List.mem_of_getElem? (i := 487) (by rfl)), rfl⟩
set_option maxRecDepth 100000 in
theorem wm_369 : Cond.code yJO_isPostedRow bJO_isPostedRow 4 (some .boolean) ∈ wALL := List.mem_filter.mpr ⟨List.mem_append_right _ (List.mem_of_getElem? (i := 241) (by rfl)), rfl⟩
set_option maxRecDepth 100000 in
theorem wm_370 : Cond.code yJO_sumUntil bJO_sumUntil 7 (some .long) ∈ wALL := List.mem_filter.mpr ⟨List.mem_append_right _ (List.mem_of_getElem? (i := 237) (by rfl)), rfl⟩
set_option maxRecDepth 100000 in
theorem wm_371 : Cond.code yHL_balance bHL_balance 4 (some .long) ∈ wALL := List.mem_filter.mpr ⟨List.mem_append_right _ (List.mem_of_getElem? (i := 232) (by rfl)), rfl⟩
set_option maxRecDepth 100000 in
theorem wm_372 : Cond.code yAC_firstCash bAC_firstCash 2 (some .int) ∈ wALL := List.mem_filter.mpr ⟨List.mem_append_right _ (List.mem_of_getElem? (i := 249) (by rfl)), rfl⟩
set_option maxRecDepth 100000 in
theorem wm_373 : Cond.code yJO_itemAt bJO_itemAt 6 (some .int) ∈ wALL := List.mem_filter.mpr ⟨List.mem_append_right _ (List.mem_of_getElem? (i := 267) (by rfl)), rfl⟩
set_option maxRecDepth 100000 in
theorem wm_374 : Cond.code yJO_keepGift bJO_keepGift 3 none ∈ wALL := List.mem_filter.mpr ⟨List.mem_append_right _ (List.mem_of_getElem? (i := 274) (by rfl)), rfl⟩
set_option maxRecDepth 100000 in
theorem wm_375 : Cond.code yJO_payItems bJO_payItems 12 none ∈ wALL := List.mem_filter.mpr ⟨List.mem_append_right _ (List.mem_of_getElem? (i := 263) (by rfl)), rfl⟩
set_option maxRecDepth 100000 in
theorem wm_376 : Cond.code yBO_keepFound bBO_keepFound 3 none ∈ wALL := List.mem_filter.mpr ⟨List.mem_append_right _ (List.mem_of_getElem? (i := 259) (by rfl)), rfl⟩
set_option maxRecDepth 100000 in
theorem wm_377 : Cond.code yHL_payment bHL_payment 8 (some .int) ∈ wALL := List.mem_filter.mpr ⟨List.mem_append_right _ (List.mem_of_getElem? (i := 245) (by rfl)), rfl⟩
set_option maxRecDepth 100000 in
theorem wm_378 : Cond.code yJO_itemOf bJO_itemOf 7 (some .int) ∈ wALL := List.mem_filter.mpr ⟨List.mem_append_right _ (List.mem_of_getElem? (i := 283) (by rfl)), rfl⟩
set_option maxRecDepth 100000 in
theorem wm_379 : Cond.code yHL_item bHL_item 4 (some .long) ∈ wALL := List.mem_filter.mpr ⟨List.mem_append_right _ (List.mem_of_getElem? (i := 278) (by rfl)), rfl⟩
set_option maxRecDepth 100000 in
theorem wm_380 : Cond.code yJO_told bJO_told 1 (some .int) ∈ wALL := List.mem_filter.mpr ⟨List.mem_append_right _ (List.mem_of_getElem? (i := 294) (by rfl)), rfl⟩
set_option maxRecDepth 100000 in
theorem wm_381 : Cond.code yJO_toldGift bJO_toldGift 5 (some .int) ∈ wALL := List.mem_filter.mpr ⟨List.mem_append_right _ (List.mem_of_getElem? (i := 291) (by rfl)), rfl⟩
set_option maxRecDepth 100000 in
theorem wm_382 : Cond.code yHL_opened bHL_opened 3 (some .int) ∈ wALL := List.mem_filter.mpr ⟨List.mem_append_right _ (List.mem_of_getElem? (i := 287) (by rfl)), rfl⟩
set_option maxRecDepth 100000 in
theorem wm_383 : Cond.code yJO_daysLate bJO_daysLate 3 (some .int) ∈ wALL := List.mem_filter.mpr ⟨List.mem_append_right _ (List.mem_of_getElem? (i := 306) (by rfl)), rfl⟩
set_option maxRecDepth 100000 in
theorem wm_384 : Cond.code yJO_isOverdue bJO_isOverdue 6 (some .boolean) ∈ wALL := List.mem_filter.mpr ⟨List.mem_append_right _ (List.mem_of_getElem? (i := 302) (by rfl)), rfl⟩
set_option maxRecDepth 100000 in
theorem wm_385 : Cond.code yAC_mayStep bAC_mayStep 3 (some .boolean) ∈ wALL := List.mem_filter.mpr ⟨List.mem_append_right _ (List.mem_of_getElem? (i := 313) (by rfl)), rfl⟩
set_option maxRecDepth 100000 in
theorem wm_386 : Cond.code yAC_stepUp bAC_stepUp 3 none ∈ wALL := List.mem_filter.mpr ⟨List.mem_append_right _ (List.mem_of_getElem? (i := 317) (by rfl)), rfl⟩
set_option maxRecDepth 100000 in
theorem wm_387 : Cond.code yHL_dun bHL_dun 4 (some .int) ∈ wALL := List.mem_filter.mpr ⟨List.mem_append_right _ (List.mem_of_getElem? (i := 298) (by rfl)), rfl⟩
set_option maxRecDepth 100000 in
theorem wm_388 : Cond.code yHL_hardship bHL_hardship 6 (some .boolean) ∈ wALL := List.mem_filter.mpr ⟨List.mem_append_right _ (List.mem_of_getElem? (i := 324) (by rfl)), rfl⟩
set_option maxRecDepth 100000 in
theorem wm_389 : Cond.code yJO_dueOf bJO_dueOf 7 (some .long) ∈ wALL := List.mem_filter.mpr ⟨List.mem_append_right _ (List.mem_of_getElem? (i := 332) (by rfl)), rfl⟩
set_option maxRecDepth 100000 in
theorem wm_390 : Cond.code yPL_add bPL_add 5 (some .int) ∈ wALL := List.mem_filter.mpr ⟨List.mem_append_right _ (List.mem_of_getElem? (i := 336) (by rfl)), rfl⟩
theorem wm_391 : Cond.initialized RPL ∈ wALL := List.mem_filter.mpr ⟨List.mem_append_right _ (List.mem_of_getElem? (i := 5) (by decide +kernel)), rfl⟩
set_option maxRecDepth 100000 in
theorem wm_392 : Cond.code yHL_instal bHL_instal 5 (some .int) ∈ wALL := List.mem_filter.mpr ⟨List.mem_append_right _ (List.mem_of_getElem? (i := 328) (by rfl)), rfl⟩
set_option maxRecDepth 100000 in
theorem wm_393 : Cond.code yPL_partOf bPL_partOf 3 (some .long) ∈ wALL := List.mem_filter.mpr ⟨List.mem_append_right _ (List.mem_of_getElem? (i := 344) (by rfl)), rfl⟩
set_option maxRecDepth 100000 in
theorem wm_394 : Cond.code yHL_due bHL_due 3 (some .long) ∈ wALL := List.mem_filter.mpr ⟨List.mem_append_right _ (List.mem_of_getElem? (i := 340) (by rfl)), rfl⟩
set_option maxRecDepth 100000 in
theorem wm_395 : Cond.code yAC_hasMoved bAC_hasMoved 2 (some .boolean) ∈ wALL := List.mem_filter.mpr ⟨List.mem_append_right _ (List.mem_of_getElem? (i := 353) (by rfl)), rfl⟩
set_option maxRecDepth 100000 in
theorem wm_396 : Cond.code yHL_move bHL_move 6 (some .boolean) ∈ wALL := List.mem_filter.mpr ⟨List.mem_append_right _ (List.mem_of_getElem? (i := 349) (by rfl)), rfl⟩
set_option maxRecDepth 100000 in
theorem wm_397 : Cond.code yHL_isMonth bHL_isMonth 1 (some .boolean) ∈ wALL := List.mem_filter.mpr ⟨List.mem_append_right _ (List.mem_of_getElem? (i := 360) (by rfl)), rfl⟩
set_option maxRecDepth 100000 in
theorem wm_398 : Cond.code yAC_daysThere bAC_daysThere 7 (some .int) ∈ wALL := List.mem_filter.mpr ⟨List.mem_append_right _ (List.mem_of_getElem? (i := 364) (by rfl)), rfl⟩
set_option maxRecDepth 100000 in
theorem wm_399 : Cond.code yHL_commonDivisor bHL_commonDivisor 11 (some .long) ∈ wALL := List.mem_filter.mpr ⟨List.mem_append_right _ (List.mem_of_getElem? (i := 372) (by rfl)), rfl⟩
set_option maxRecDepth 100000 in
theorem wm_400 : Cond.code yHL_inLowestTerms bHL_inLowestTerms 7 (some .long) ∈ wALL := List.mem_filter.mpr ⟨List.mem_append_right _ (List.mem_of_getElem? (i := 369) (by rfl)), rfl⟩
set_option maxRecDepth 100000 in
theorem wm_401 : Cond.code yHL_share bHL_share 4 (some .long) ∈ wALL := List.mem_filter.mpr ⟨List.mem_append_right _ (List.mem_of_getElem? (i := 357) (by rfl)), rfl⟩
set_option maxRecDepth 100000 in
theorem wm_402 : Cond.code yHL_copyInts bHL_copyInts 2 none ∈ wALL := List.mem_filter.mpr ⟨List.mem_append_right _ (List.mem_of_getElem? (i := 390) (by rfl)), rfl⟩
set_option maxRecDepth 100000 in
theorem wm_403 : Cond.code yHL_copyLongs bHL_copyLongs 2 none ∈ wALL := List.mem_filter.mpr ⟨List.mem_append_right _ (List.mem_of_getElem? (i := 397) (by rfl)), rfl⟩
set_option maxRecDepth 100000 in
theorem wm_404 : Cond.code yAC_copyFrom bAC_copyFrom 2 none ∈ wALL := List.mem_filter.mpr ⟨List.mem_append_right _ (List.mem_of_getElem? (i := 387) (by rfl)), rfl⟩
set_option maxRecDepth 100000 in
theorem wm_405 : Cond.code yJO_copyFrom bJO_copyFrom 2 none ∈ wALL := List.mem_filter.mpr ⟨List.mem_append_right _ (List.mem_of_getElem? (i := 401) (by rfl)), rfl⟩
set_option maxRecDepth 100000 in
theorem wm_406 : Cond.code yPL_copyFrom bPL_copyFrom 2 none ∈ wALL := List.mem_filter.mpr ⟨List.mem_append_right _ (List.mem_of_getElem? (i := 407) (by rfl)), rfl⟩
set_option maxRecDepth 100000 in
theorem wm_407 : Cond.code yBO_copyFrom bBO_copyFrom 2 none ∈ wALL := List.mem_filter.mpr ⟨List.mem_append_right _ (List.mem_of_getElem? (i := 383) (by rfl)), rfl⟩
set_option maxRecDepth 100000 in
theorem wm_408 : Cond.code yHL_batch bHL_batch 1 (some .int) ∈ wALL := List.mem_filter.mpr ⟨List.mem_append_right _ (List.mem_of_getElem? (i := 379) (by rfl)), rfl⟩
set_option maxRecDepth 100000 in
theorem wm_409 : Cond.code yHL_endBatch bHL_endBatch 2 (some .boolean) ∈ wALL := List.mem_filter.mpr ⟨List.mem_append_right _ (List.mem_of_getElem? (i := 414) (by rfl)), rfl⟩
set_option maxRecDepth 100000 in
theorem wm_410 : Cond.code yHL_closeMonth bHL_closeMonth 2 (some .boolean) ∈ wALL := List.mem_filter.mpr ⟨List.mem_append_right _ (List.mem_of_getElem? (i := 418) (by rfl)), rfl⟩
set_option maxRecDepth 100000 in
theorem wm_411 : Cond.code yJO_isReversible bJO_isReversible 5 (some .boolean) ∈ wALL := List.mem_filter.mpr ⟨List.mem_append_right _ (List.mem_of_getElem? (i := 426) (by rfl)), rfl⟩
set_option maxRecDepth 100000 in
theorem wm_412 : Cond.code yJO_turnRows bJO_turnRows 6 none ∈ wALL := List.mem_filter.mpr ⟨List.mem_append_right _ (List.mem_of_getElem? (i := 430) (by rfl)), rfl⟩
set_option maxRecDepth 100000 in
theorem wm_413 : Cond.code yJO_clearItems bJO_clearItems 5 none ∈ wALL := List.mem_filter.mpr ⟨List.mem_append_right _ (List.mem_of_getElem? (i := 435) (by rfl)), rfl⟩
set_option maxRecDepth 100000 in
theorem wm_414 : Cond.code yHL_reverse bHL_reverse 6 (some .int) ∈ wALL := List.mem_filter.mpr ⟨List.mem_append_right _ (List.mem_of_getElem? (i := 422) (by rfl)), rfl⟩
set_option maxRecDepth 100000 in
theorem wm_415 : Cond.code yJO_centDays bJO_centDays 8 (some .long) ∈ wALL := List.mem_filter.mpr ⟨List.mem_append_right _ (List.mem_of_getElem? (i := 443) (by rfl)), rfl⟩
set_option maxRecDepth 100000 in
theorem wm_416 : Cond.code yHL_interest bHL_interest 9 (some .long) ∈ wALL := List.mem_filter.mpr ⟨List.mem_append_right _ (List.mem_of_getElem? (i := 439) (by rfl)), rfl⟩
set_option maxRecDepth 100000 in
theorem wm_417 : Cond.code yHL_rate bHL_rate 5 (some .boolean) ∈ wALL := List.mem_filter.mpr ⟨List.mem_append_right _ (List.mem_of_getElem? (i := 449) (by rfl)), rfl⟩
set_option maxRecDepth 100000 in
theorem wm_418 : Cond.code yJO_isPostedRowIn bJO_isPostedRowIn 4 (some .boolean) ∈ wALL := List.mem_filter.mpr ⟨List.mem_append_right _ (List.mem_of_getElem? (i := 462) (by rfl)), rfl⟩
set_option maxRecDepth 100000 in
theorem wm_419 : Cond.code yJO_toldRow bJO_toldRow 7 (some .int) ∈ wALL := List.mem_filter.mpr ⟨List.mem_append_right _ (List.mem_of_getElem? (i := 458) (by rfl)), rfl⟩
set_option maxRecDepth 100000 in
theorem wm_420 : Cond.code yHL_statement bHL_statement 4 (some .int) ∈ wALL := List.mem_filter.mpr ⟨List.mem_append_right _ (List.mem_of_getElem? (i := 454) (by rfl)), rfl⟩
set_option maxRecDepth 100000 in
theorem wm_421 : Cond.code yJO_sumIn bJO_sumIn 7 (some .long) ∈ wALL := List.mem_filter.mpr ⟨List.mem_append_right _ (List.mem_of_getElem? (i := 474) (by rfl)), rfl⟩
set_option maxRecDepth 100000 in
theorem wm_422 : Cond.code yBO_incomeOf bBO_incomeOf 5 (some .long) ∈ wALL := List.mem_filter.mpr ⟨List.mem_append_right _ (List.mem_of_getElem? (i := 470) (by rfl)), rfl⟩
set_option maxRecDepth 100000 in
theorem wm_423 : Cond.code yHL_tax bHL_tax 4 (some .long) ∈ wALL := List.mem_filter.mpr ⟨List.mem_append_right _ (List.mem_of_getElem? (i := 466) (by rfl)), rfl⟩
set_option maxRecDepth 100000 in
theorem wm_424 : Cond.code yHL_found bHL_found 2 (some .long) ∈ wALL := List.mem_filter.mpr ⟨List.mem_append_right _ (List.mem_of_getElem? (i := 479) (by rfl)), rfl⟩
set_option maxRecDepth 100000 in
theorem wm_425 : Cond.code yMO_isIn bMO_isIn 6 (some .boolean) ∈ wALL := List.mem_filter.mpr ⟨List.mem_append_right _ (List.mem_of_getElem? (i := 601) (by rfl)), rfl⟩
theorem wm_426 : Cond.initialized RMO ∈ wALL := List.mem_filter.mpr ⟨List.mem_append_right _ (List.mem_of_getElem? (i := 6) (by decide +kernel)), rfl⟩
set_option maxRecDepth 100000 in
theorem wm_427 : Cond.code yMO_isAccount bMO_isAccount 2 (some .boolean) ∈ wALL := List.mem_filter.mpr ⟨List.mem_append_right _ (List.mem_of_getElem? (i := 622) (by rfl)), rfl⟩
set_option maxRecDepth 100000 in
theorem wm_428 : Cond.code yMO_isHousehold bMO_isHousehold 2 (some .boolean) ∈ wALL := List.mem_filter.mpr ⟨List.mem_append_right _ (List.mem_of_getElem? (i := 649) (by rfl)), rfl⟩
set_option maxRecDepth 100000 in
theorem wm_429 : Cond.code yMO_isEntry bMO_isEntry 2 (some .boolean) ∈ wALL := List.mem_filter.mpr ⟨List.mem_append_right _ (List.mem_of_getElem? (i := 618) (by rfl)), rfl⟩
set_option maxRecDepth 100000 in
theorem wm_430 : Cond.code yMO_isDay bMO_isDay 2 (some .boolean) ∈ wALL := List.mem_filter.mpr ⟨List.mem_append_right _ (List.mem_of_getElem? (i := 597) (by rfl)), rfl⟩
set_option maxRecDepth 100000 in
theorem wm_431 : Cond.code yMO_isLate bMO_isLate 3 (some .boolean) ∈ wALL := List.mem_filter.mpr ⟨List.mem_append_right _ (List.mem_of_getElem? (i := 605) (by rfl)), rfl⟩
set_option maxRecDepth 100000 in
theorem wm_432 : Cond.code yMO_account bMO_account 2 (some .int) ∈ wALL := List.mem_filter.mpr ⟨List.mem_append_right _ (List.mem_of_getElem? (i := 588) (by rfl)), rfl⟩
set_option maxRecDepth 100000 in
theorem wm_433 : Cond.code yMO_addEntry bMO_addEntry 5 (some .int) ∈ wALL := List.mem_filter.mpr ⟨List.mem_append_right _ (List.mem_of_getElem? (i := 610) (by rfl)), rfl⟩
set_option maxRecDepth 100000 in
theorem wm_434 : Cond.code yMO_entry bMO_entry 3 (some .int) ∈ wALL := List.mem_filter.mpr ⟨List.mem_append_right _ (List.mem_of_getElem? (i := 593) (by rfl)), rfl⟩
set_option maxRecDepth 100000 in
theorem wm_435 : Cond.code yMO_addRow bMO_addRow 6 none ∈ wALL := List.mem_filter.mpr ⟨List.mem_append_right _ (List.mem_of_getElem? (i := 629) (by rfl)), rfl⟩
set_option maxRecDepth 100000 in
theorem wm_436 : Cond.code yMO_row bMO_row 5 (some .boolean) ∈ wALL := List.mem_filter.mpr ⟨List.mem_append_right _ (List.mem_of_getElem? (i := 614) (by rfl)), rfl⟩
set_option maxRecDepth 100000 in
theorem wm_437 : Cond.code yMO_isItem bMO_isItem 4 (some .boolean) ∈ wALL := List.mem_filter.mpr ⟨List.mem_append_right _ (List.mem_of_getElem? (i := 637) (by rfl)), rfl⟩
set_option maxRecDepth 100000 in
theorem wm_438 : Cond.code yMO_close bMO_close 6 (some .int) ∈ wALL := List.mem_filter.mpr ⟨List.mem_append_right _ (List.mem_of_getElem? (i := 633) (by rfl)), rfl⟩
set_option maxRecDepth 100000 in
theorem wm_439 : Cond.code yMO_balance bMO_balance 10 (some .long) ∈ wALL := List.mem_filter.mpr ⟨List.mem_append_right _ (List.mem_of_getElem? (i := 641) (by rfl)), rfl⟩
set_option maxRecDepth 100000 in
theorem wm_440 : Cond.code yMO_isItemOf bMO_isItemOf 3 (some .boolean) ∈ wALL := List.mem_filter.mpr ⟨List.mem_append_right _ (List.mem_of_getElem? (i := 658) (by rfl)), rfl⟩
set_option maxRecDepth 100000 in
theorem wm_441 : Cond.code yMO_isBefore bMO_isBefore 7 (some .boolean) ∈ wALL := List.mem_filter.mpr ⟨List.mem_append_right _ (List.mem_of_getElem? (i := 662) (by rfl)), rfl⟩
set_option maxRecDepth 100000 in
theorem wm_442 : Cond.code yMO_itemAt bMO_itemAt 6 (some .int) ∈ wALL := List.mem_filter.mpr ⟨List.mem_append_right _ (List.mem_of_getElem? (i := 654) (by rfl)), rfl⟩
set_option maxRecDepth 100000 in
theorem wm_443 : Cond.code yMO_payment bMO_payment 14 (some .int) ∈ wALL := List.mem_filter.mpr ⟨List.mem_append_right _ (List.mem_of_getElem? (i := 645) (by rfl)), rfl⟩
set_option maxRecDepth 100000 in
theorem wm_444 : Cond.code yMO_item bMO_item 4 (some .long) ∈ wALL := List.mem_filter.mpr ⟨List.mem_append_right _ (List.mem_of_getElem? (i := 666) (by rfl)), rfl⟩
set_option maxRecDepth 100000 in
theorem wm_445 : Cond.code yMO_gave bMO_gave 3 (some .boolean) ∈ wALL := List.mem_filter.mpr ⟨List.mem_append_right _ (List.mem_of_getElem? (i := 675) (by rfl)), rfl⟩
set_option maxRecDepth 100000 in
theorem wm_446 : Cond.code yMO_opened bMO_opened 6 (some .int) ∈ wALL := List.mem_filter.mpr ⟨List.mem_append_right _ (List.mem_of_getElem? (i := 671) (by rfl)), rfl⟩
set_option maxRecDepth 100000 in
theorem wm_447 : Cond.code yMO_hasOld bMO_hasOld 6 (some .boolean) ∈ wALL := List.mem_filter.mpr ⟨List.mem_append_right _ (List.mem_of_getElem? (i := 683) (by rfl)), rfl⟩
set_option maxRecDepth 100000 in
theorem wm_448 : Cond.code yMO_dun bMO_dun 5 (some .int) ∈ wALL := List.mem_filter.mpr ⟨List.mem_append_right _ (List.mem_of_getElem? (i := 679) (by rfl)), rfl⟩
set_option maxRecDepth 100000 in
theorem wm_449 : Cond.code yMO_hardship bMO_hardship 6 (some .boolean) ∈ wALL := List.mem_filter.mpr ⟨List.mem_append_right _ (List.mem_of_getElem? (i := 690) (by rfl)), rfl⟩
set_option maxRecDepth 100000 in
theorem wm_450 : Cond.code yMO_allDue bMO_allDue 5 (some .long) ∈ wALL := List.mem_filter.mpr ⟨List.mem_append_right _ (List.mem_of_getElem? (i := 699) (by rfl)), rfl⟩
set_option maxRecDepth 100000 in
theorem wm_451 : Cond.code yMO_instal bMO_instal 4 (some .int) ∈ wALL := List.mem_filter.mpr ⟨List.mem_append_right _ (List.mem_of_getElem? (i := 694) (by rfl)), rfl⟩
set_option maxRecDepth 100000 in
theorem wm_452 : Cond.code yMO_due bMO_due 5 (some .long) ∈ wALL := List.mem_filter.mpr ⟨List.mem_append_right _ (List.mem_of_getElem? (i := 703) (by rfl)), rfl⟩
set_option maxRecDepth 100000 in
theorem wm_453 : Cond.code yMO_hasMoved bMO_hasMoved 2 (some .boolean) ∈ wALL := List.mem_filter.mpr ⟨List.mem_append_right _ (List.mem_of_getElem? (i := 711) (by rfl)), rfl⟩
set_option maxRecDepth 100000 in
theorem wm_454 : Cond.code yMO_move bMO_move 5 (some .boolean) ∈ wALL := List.mem_filter.mpr ⟨List.mem_append_right _ (List.mem_of_getElem? (i := 707) (by rfl)), rfl⟩
set_option maxRecDepth 100000 in
theorem wm_455 : Cond.code yMO_common bMO_common 10 (some .long) ∈ wALL := List.mem_filter.mpr ⟨List.mem_append_right _ (List.mem_of_getElem? (i := 721) (by rfl)), rfl⟩
set_option maxRecDepth 100000 in
theorem wm_456 : Cond.code yMO_part bMO_part 7 (some .long) ∈ wALL := List.mem_filter.mpr ⟨List.mem_append_right _ (List.mem_of_getElem? (i := 718) (by rfl)), rfl⟩
set_option maxRecDepth 100000 in
theorem wm_457 : Cond.code yMO_share bMO_share 8 (some .long) ∈ wALL := List.mem_filter.mpr ⟨List.mem_append_right _ (List.mem_of_getElem? (i := 715) (by rfl)), rfl⟩
set_option maxRecDepth 100000 in
theorem wm_458 : Cond.code yMO_batch bMO_batch 2 (some .int) ∈ wALL := List.mem_filter.mpr ⟨List.mem_append_right _ (List.mem_of_getElem? (i := 725) (by rfl)), rfl⟩
set_option maxRecDepth 100000 in
theorem wm_459 : Cond.code yMO_endBatch bMO_endBatch 3 (some .boolean) ∈ wALL := List.mem_filter.mpr ⟨List.mem_append_right _ (List.mem_of_getElem? (i := 729) (by rfl)), rfl⟩
set_option maxRecDepth 100000 in
theorem wm_460 : Cond.code yMO_closeMonth bMO_closeMonth 2 (some .boolean) ∈ wALL := List.mem_filter.mpr ⟨List.mem_append_right _ (List.mem_of_getElem? (i := 733) (by rfl)), rfl⟩
set_option maxRecDepth 100000 in
theorem wm_461 : Cond.code yMO_isPaid bMO_isPaid 4 (some .boolean) ∈ wALL := List.mem_filter.mpr ⟨List.mem_append_right _ (List.mem_of_getElem? (i := 742) (by rfl)), rfl⟩
set_option maxRecDepth 100000 in
theorem wm_462 : Cond.code yMO_reverse bMO_reverse 6 (some .int) ∈ wALL := List.mem_filter.mpr ⟨List.mem_append_right _ (List.mem_of_getElem? (i := 738) (by rfl)), rfl⟩
set_option maxRecDepth 100000 in
theorem wm_463 : Cond.code yMO_interest bMO_interest 11 (some .long) ∈ wALL := List.mem_filter.mpr ⟨List.mem_append_right _ (List.mem_of_getElem? (i := 746) (by rfl)), rfl⟩
set_option maxRecDepth 100000 in
theorem wm_464 : Cond.code yMO_rate bMO_rate 5 (some .boolean) ∈ wALL := List.mem_filter.mpr ⟨List.mem_append_right _ (List.mem_of_getElem? (i := 752) (by rfl)), rfl⟩
set_option maxRecDepth 100000 in
theorem wm_465 : Cond.code yMO_statement bMO_statement 8 (some .int) ∈ wALL := List.mem_filter.mpr ⟨List.mem_append_right _ (List.mem_of_getElem? (i := 757) (by rfl)), rfl⟩
set_option maxRecDepth 100000 in
theorem wm_466 : Cond.code yMO_tax bMO_tax 8 (some .long) ∈ wALL := List.mem_filter.mpr ⟨List.mem_append_right _ (List.mem_of_getElem? (i := 761) (by rfl)), rfl⟩
set_option maxRecDepth 100000 in
theorem wm_467 : Cond.code yMO_found bMO_found 2 (some .long) ∈ wALL := List.mem_filter.mpr ⟨List.mem_append_right _ (List.mem_of_getElem? (i := 766) (by rfl)), rfl⟩
theorem wm_468 : Cond.methodLink RAC 3 objectInit ∈ wALL := List.mem_filter.mpr ⟨List.mem_append_right _ (List.mem_of_getElem? (i := 32) (by decide +kernel)), rfl⟩
theorem wm_469 : Cond.instanceMethod objectInit ∈ wALL := List.mem_filter.mpr ⟨List.mem_append_right _ (List.mem_of_getElem? (i := 19) (by decide +kernel)), rfl⟩
set_option maxRecDepth 100000 in
theorem wm_470 : Cond.code objectInit ⟨#[0xb1]⟩ 1 none ∈ wALL := List.mem_filter.mpr ⟨List.mem_append_right _ (List.mem_of_getElem? (i := 20) (by rfl)), rfl⟩
theorem wm_471 : Cond.arrayClass .int ∈ wALL := List.mem_filter.mpr ⟨List.mem_append_right _ (List.mem_of_getElem? (i := 65) (by decide +kernel)), rfl⟩
theorem wm_472 : Cond.arrayClass .long ∈ wALL := List.mem_filter.mpr ⟨List.mem_append_right _ (List.mem_of_getElem? (i := 66) (by decide +kernel)), rfl⟩
theorem wm_473 : Cond.methodLink RJO 3 objectInit ∈ wALL := List.mem_filter.mpr ⟨List.mem_append_right _ (List.mem_of_getElem? (i := 72) (by decide +kernel)), rfl⟩
theorem wm_474 : Cond.methodLink RPL 3 objectInit ∈ wALL := List.mem_filter.mpr ⟨List.mem_append_right _ (List.mem_of_getElem? (i := 120) (by decide +kernel)), rfl⟩
theorem wm_475 : Cond.methodLink RBO 3 objectInit ∈ wALL := List.mem_filter.mpr ⟨List.mem_append_right _ (List.mem_of_getElem? (i := 26) (by decide +kernel)), rfl⟩
theorem wm_476 : Cond.classLink RBO 9 RAC ∈ wALL := List.mem_filter.mpr ⟨List.mem_append_right _ (List.mem_of_getElem? (i := 27) (by decide +kernel)), rfl⟩
theorem wm_477 : Cond.instantiable RAC 8 ∈ wALL := List.mem_filter.mpr ⟨List.mem_append_right _ (List.mem_of_getElem? (i := 28) (by decide +kernel)), rfl⟩
set_option maxRecDepth 100000 in
theorem wm_478 : Cond.code yAC_init bAC_init 1 none ∈ wALL := List.mem_filter.mpr ⟨List.mem_append_right _ (List.mem_of_getElem? (i := 31) (by rfl)), rfl⟩
theorem wn_479 : Cond.methodLinkNest RBO 11 yAC_init "HouseLedger" ∈ wNW := List.mem_filter.mpr ⟨List.mem_append_right _ (List.mem_of_getElem? (i := 29) (by decide +kernel)), rfl⟩
theorem wm_480 : Cond.instanceMethod yAC_init ∈ wALL := List.mem_filter.mpr ⟨List.mem_append_right _ (List.mem_of_getElem? (i := 30) (by decide +kernel)), rfl⟩
theorem wm_481 : Cond.classLink RBO 18 RJO ∈ wALL := List.mem_filter.mpr ⟨List.mem_append_right _ (List.mem_of_getElem? (i := 67) (by decide +kernel)), rfl⟩
theorem wm_482 : Cond.instantiable RJO 11 ∈ wALL := List.mem_filter.mpr ⟨List.mem_append_right _ (List.mem_of_getElem? (i := 68) (by decide +kernel)), rfl⟩
set_option maxRecDepth 100000 in
theorem wm_483 : Cond.code yJO_init bJO_init 1 none ∈ wALL := List.mem_filter.mpr ⟨List.mem_append_right _ (List.mem_of_getElem? (i := 71) (by rfl)), rfl⟩
theorem wn_484 : Cond.methodLinkNest RBO 20 yJO_init "HouseLedger" ∈ wNW := List.mem_filter.mpr ⟨List.mem_append_right _ (List.mem_of_getElem? (i := 69) (by decide +kernel)), rfl⟩
theorem wm_485 : Cond.instanceMethod yJO_init ∈ wALL := List.mem_filter.mpr ⟨List.mem_append_right _ (List.mem_of_getElem? (i := 70) (by decide +kernel)), rfl⟩
theorem wm_486 : Cond.classLink RBO 25 RPL ∈ wALL := List.mem_filter.mpr ⟨List.mem_append_right _ (List.mem_of_getElem? (i := 115) (by decide +kernel)), rfl⟩
theorem wm_487 : Cond.instantiable RPL 4 ∈ wALL := List.mem_filter.mpr ⟨List.mem_append_right _ (List.mem_of_getElem? (i := 116) (by decide +kernel)), rfl⟩
set_option maxRecDepth 100000 in
theorem wm_488 : Cond.code yPL_init bPL_init 1 none ∈ wALL := List.mem_filter.mpr ⟨List.mem_append_right _ (List.mem_of_getElem? (i := 119) (by rfl)), rfl⟩
theorem wn_489 : Cond.methodLinkNest RBO 27 yPL_init "HouseLedger" ∈ wNW := List.mem_filter.mpr ⟨List.mem_append_right _ (List.mem_of_getElem? (i := 117) (by decide +kernel)), rfl⟩
theorem wm_490 : Cond.instanceMethod yPL_init ∈ wALL := List.mem_filter.mpr ⟨List.mem_append_right _ (List.mem_of_getElem? (i := 118) (by decide +kernel)), rfl⟩
theorem wm_491 : Cond.methodLink RHL 1 objectInit ∈ wALL := List.mem_filter.mpr ⟨List.mem_append_right _ (List.mem_of_getElem? (i := 18) (by decide +kernel)), rfl⟩
theorem wm_492 : Cond.classLink RHL 7 RBO ∈ wALL := List.mem_filter.mpr ⟨List.mem_append_right _ (List.mem_of_getElem? (i := 21) (by decide +kernel)), rfl⟩
theorem wm_493 : Cond.instantiable RBO 8 ∈ wALL := List.mem_filter.mpr ⟨List.mem_append_right _ (List.mem_of_getElem? (i := 22) (by decide +kernel)), rfl⟩
set_option maxRecDepth 100000 in
theorem wm_494 : Cond.code yBO_init bBO_init 1 none ∈ wALL := List.mem_filter.mpr ⟨List.mem_append_right _ (List.mem_of_getElem? (i := 25) (by rfl)), rfl⟩
theorem wn_495 : Cond.methodLinkNest RHL 9 yBO_init "HouseLedger" ∈ wNW := List.mem_filter.mpr ⟨List.mem_append_right _ (List.mem_of_getElem? (i := 23) (by decide +kernel)), rfl⟩
theorem wm_496 : Cond.instanceMethod yBO_init ∈ wALL := List.mem_filter.mpr ⟨List.mem_append_right _ (List.mem_of_getElem? (i := 24) (by decide +kernel)), rfl⟩
theorem wm_497 : Cond.methodLink RMO 1 objectInit ∈ wALL := List.mem_filter.mpr ⟨List.mem_append_right _ (List.mem_of_getElem? (i := 568) (by decide +kernel)), rfl⟩
theorem hin_HL : ∀ w ∈ u_ws RHL THL 4, w ∈ wALL := by
  intro w h
  obtain ⟨k, hk, rfl⟩ := List.mem_map.mp h
  have hk := List.mem_range.mp hk
  match k, hk with
  | 0, _ => exact wm_310
  | 1, _ => exact wm_311
  | 2, _ => exact wm_312
  | 3, _ => exact wm_313
  | k + 4, hk => exact absurd hk (by omega)
theorem hin_AC : ∀ w ∈ u_ws RAC TAC 8, w ∈ wALL := by
  intro w h
  obtain ⟨k, hk, rfl⟩ := List.mem_map.mp h
  have hk := List.mem_range.mp hk
  match k, hk with
  | 0, _ => exact wm_314
  | 1, _ => exact wm_315
  | 2, _ => exact wm_316
  | 3, _ => exact wm_317
  | 4, _ => exact wm_318
  | 5, _ => exact wm_319
  | 6, _ => exact wm_320
  | 7, _ => exact wm_321
  | k + 8, hk => exact absurd hk (by omega)
theorem hin_BO : ∀ w ∈ u_ws RBO TBO 8, w ∈ wALL := by
  intro w h
  obtain ⟨k, hk, rfl⟩ := List.mem_map.mp h
  have hk := List.mem_range.mp hk
  match k, hk with
  | 0, _ => exact wm_322
  | 1, _ => exact wm_323
  | 2, _ => exact wm_324
  | 3, _ => exact wm_325
  | 4, _ => exact wm_326
  | 5, _ => exact wm_327
  | 6, _ => exact wm_328
  | 7, _ => exact wm_329
  | k + 8, hk => exact absurd hk (by omega)
theorem hin_JO : ∀ w ∈ u_ws RJO TJO 11, w ∈ wALL := by
  intro w h
  obtain ⟨k, hk, rfl⟩ := List.mem_map.mp h
  have hk := List.mem_range.mp hk
  match k, hk with
  | 0, _ => exact wm_330
  | 1, _ => exact wm_331
  | 2, _ => exact wm_332
  | 3, _ => exact wm_333
  | 4, _ => exact wm_334
  | 5, _ => exact wm_335
  | 6, _ => exact wm_336
  | 7, _ => exact wm_337
  | 8, _ => exact wm_338
  | 9, _ => exact wm_339
  | 10, _ => exact wm_340
  | k + 11, hk => exact absurd hk (by omega)
theorem hin_PL : ∀ w ∈ u_ws RPL TPL 4, w ∈ wALL := by
  intro w h
  obtain ⟨k, hk, rfl⟩ := List.mem_map.mp h
  have hk := List.mem_range.mp hk
  match k, hk with
  | 0, _ => exact wm_341
  | 1, _ => exact wm_342
  | 2, _ => exact wm_343
  | 3, _ => exact wm_344
  | k + 4, hk => exact absurd hk (by omega)
theorem hin_MO : ∀ w ∈ u_ws RMO TMO 5, w ∈ wALL := by
  intro w h
  obtain ⟨k, hk, rfl⟩ := List.mem_map.mp h
  have hk := List.mem_range.mp hk
  match k, hk with
  | 0, _ => exact wm_345
  | 1, _ => exact wm_346
  | 2, _ => exact wm_347
  | 3, _ => exact wm_348
  | 4, _ => exact wm_349
  | k + 5, hk => exact absurd hk (by omega)
