theorem k_1 : Cond.initialized R_NF ∈ nz_gd := nz_gm (List.mem_of_getElem? (i := 93) (by decide +kernel)) rfl
theorem k_14 : Cond.initialized R_Deaths ∈ nz_gd := nz_gm (List.mem_of_getElem? (i := 106) (by decide +kernel)) rfl
theorem k_17 : Cond.initialized R_Mo ∈ nz_gd := nz_gm (List.mem_of_getElem? (i := 109) (by decide +kernel)) rfl
theorem k_44 : Cond.fieldLink R_NF 282 "NameFall$Places" "count" "I" ∈ nz_gd := nz_gm (List.mem_of_getElem? (i := 136) (by decide +kernel)) rfl
theorem k_94 : Cond.fieldLink R_NF 210 "NameFall$Meanings" "count" "I" ∈ nz_gd := nz_gm (List.mem_of_getElem? (i := 186) (by decide +kernel)) rfl
theorem k_100 : Cond.fieldLink R_NF 283 "NameFall$Meanings" "turns" "I" ∈ nz_gd := nz_gm (List.mem_of_getElem? (i := 192) (by decide +kernel)) rfl
theorem k_132 : Cond.fieldLink R_NF 241 "NameFall$Words" "count" "I" ∈ nz_gd := nz_gm (List.mem_of_getElem? (i := 224) (by decide +kernel)) rfl
theorem k_158 : Cond.fieldLink R_NF 231 "NameFall$Persons" "count" "I" ∈ nz_gd := nz_gm (List.mem_of_getElem? (i := 250) (by decide +kernel)) rfl
theorem k_161 : Cond.fieldLink R_NF 286 "NameFall$Persons" "talks" "I" ∈ nz_gd := nz_gm (List.mem_of_getElem? (i := 253) (by decide +kernel)) rfl
theorem k_217 : Cond.fieldLink R_NF 193 "NameFall$Land" "places" "LNameFall$Places;" ∈ nz_gd := nz_gm (List.mem_of_getElem? (i := 309) (by decide +kernel)) rfl
theorem k_222 : Cond.fieldLink R_NF 206 "NameFall$Land" "meanings" "LNameFall$Meanings;" ∈ nz_gd := nz_gm (List.mem_of_getElem? (i := 314) (by decide +kernel)) rfl
theorem k_225 : Cond.fieldLink R_NF 141 "NameFall$Land" "words" "LNameFall$Words;" ∈ nz_gd := nz_gm (List.mem_of_getElem? (i := 317) (by decide +kernel)) rfl
theorem k_231 : Cond.fieldLink R_NF 111 "NameFall$Land" "persons" "LNameFall$Persons;" ∈ nz_gd := nz_gm (List.mem_of_getElem? (i := 323) (by decide +kernel)) rfl
theorem k_370 : Cond.fieldLink R_NF 92 "NameFall$Reader" "fault" "I" ∈ nz_gd := nz_gm (List.mem_of_getElem? (i := 462) (by decide +kernel)) rfl
theorem k_372 : Cond.fieldLink R_NF 101 "NameFall$Reader" "faultPlace" "I" ∈ nz_gd := nz_gm (List.mem_of_getElem? (i := 464) (by decide +kernel)) rfl
theorem k_393 : Cond.fieldLink R_Deaths 24 "NameFall$Deaths" "count" "I" ∈ nz_gd := nz_gm (List.mem_of_getElem? (i := 485) (by decide +kernel)) rfl
theorem k_394 : Cond.fieldLink R_NF 289 "NameFall$Deaths" "count" "I" ∈ nz_gd := nz_gm (List.mem_of_getElem? (i := 486) (by decide +kernel)) rfl
theorem k_395 : Cond.fieldLink R_Deaths 28 "NameFall$Deaths" "time" "I" ∈ nz_gd := nz_gm (List.mem_of_getElem? (i := 487) (by decide +kernel)) rfl
theorem k_396 : Cond.fieldLink R_NF 290 "NameFall$Deaths" "time" "I" ∈ nz_gd := nz_gm (List.mem_of_getElem? (i := 488) (by decide +kernel)) rfl
theorem k_460 : Cond.fieldLink R_NF 17 "NameFall" "tape" "[B" ∈ nz_gd := nz_gm (List.mem_of_getElem? (i := 552) (by decide +kernel)) rfl
theorem k_461 : Cond.fieldLink R_NF 76 "NameFall" "taped" "I" ∈ nz_gd := nz_gm (List.mem_of_getElem? (i := 553) (by decide +kernel)) rfl
theorem k_462 : Cond.fieldLink R_NF 21 "NameFall" "current" "LNameFall$Land;" ∈ nz_gd := nz_gm (List.mem_of_getElem? (i := 554) (by decide +kernel)) rfl
theorem k_464 : Cond.fieldLink R_NF 38 "NameFall" "reader" "LNameFall$Reader;" ∈ nz_gd := nz_gm (List.mem_of_getElem? (i := 556) (by decide +kernel)) rfl
theorem k_465 : Cond.fieldLink R_NF 45 "NameFall" "deaths" "LNameFall$Deaths;" ∈ nz_gd := nz_gm (List.mem_of_getElem? (i := 557) (by decide +kernel)) rfl
theorem k_498 : Cond.methodLink R_NF 80 y_NF_putBytes ∈ nz_gd := nz_gm (List.mem_of_getElem? (i := 590) (by decide +kernel)) rfl
theorem k_500 : Cond.instanceMethod y_NF_putBytes ∈ nz_gd := nz_gm (List.mem_of_getElem? (i := 592) (by decide +kernel)) rfl
theorem k_501 : Cond.code y_NF_putBytes b_NF_putBytes 3 none ∈ nz_gd := nz_gm (List.mem_of_getElem? (i := 593) (by decide +kernel)) rfl
theorem k_694 : Cond.methodLink R_NF 104 y_NF_isPerson ∈ nz_gd := nz_gm (List.mem_of_getElem? (i := 786) (by decide +kernel)) rfl
theorem k_696 : Cond.instanceMethod y_NF_isPerson ∈ nz_gd := nz_gm (List.mem_of_getElem? (i := 788) (by decide +kernel)) rfl
theorem k_697 : Cond.code y_NF_isPerson b_NF_isPerson 2 (some .boolean) ∈ nz_gd := nz_gm (List.mem_of_getElem? (i := 789) (by decide +kernel)) rfl
theorem k_709 : Cond.methodLink R_NF 124 y_Deaths_takeBack ∈ nz_gd := nz_gm (List.mem_of_getElem? (i := 801) (by decide +kernel)) rfl
theorem k_710 : Cond.instanceMethod y_Deaths_takeBack ∈ nz_gd := nz_gm (List.mem_of_getElem? (i := 802) (by decide +kernel)) rfl
theorem k_711 : Cond.selects R_Deaths y_Deaths_takeBack y_Deaths_takeBack ∈ nz_gd := nz_gm (List.mem_of_getElem? (i := 803) (by decide +kernel)) rfl
theorem k_712 : Cond.code y_Deaths_takeBack b_Deaths_takeBack 2 (some .boolean) ∈ nz_gd := nz_gm (List.mem_of_getElem? (i := 804) (by decide +kernel)) rfl
theorem k_717 : Cond.methodLink R_NF 127 y_Deaths_goOn ∈ nz_gd := nz_gm (List.mem_of_getElem? (i := 809) (by decide +kernel)) rfl
theorem k_718 : Cond.instanceMethod y_Deaths_goOn ∈ nz_gd := nz_gm (List.mem_of_getElem? (i := 810) (by decide +kernel)) rfl
theorem k_719 : Cond.selects R_Deaths y_Deaths_goOn y_Deaths_goOn ∈ nz_gd := nz_gm (List.mem_of_getElem? (i := 811) (by decide +kernel)) rfl
theorem k_720 : Cond.code y_Deaths_goOn b_Deaths_goOn 2 (some .int) ∈ nz_gd := nz_gm (List.mem_of_getElem? (i := 812) (by decide +kernel)) rfl
theorem k_721 : Cond.constant R_Deaths 31 (100000) ∈ nz_gd := nz_gm (List.mem_of_getElem? (i := 813) (by decide +kernel)) rfl
theorem k_760 : Cond.methodLink R_NF 138 y_NF_isWord ∈ nz_gd := nz_gm (List.mem_of_getElem? (i := 852) (by decide +kernel)) rfl
theorem k_762 : Cond.instanceMethod y_NF_isWord ∈ nz_gd := nz_gm (List.mem_of_getElem? (i := 854) (by decide +kernel)) rfl
theorem k_763 : Cond.code y_NF_isWord b_NF_isWord 2 (some .boolean) ∈ nz_gd := nz_gm (List.mem_of_getElem? (i := 855) (by decide +kernel)) rfl
theorem k_774 : Cond.methodLink R_NF 161 y_NF_canSpeak ∈ nz_gd := nz_gm (List.mem_of_getElem? (i := 866) (by decide +kernel)) rfl
theorem k_776 : Cond.instanceMethod y_NF_canSpeak ∈ nz_gd := nz_gm (List.mem_of_getElem? (i := 868) (by decide +kernel)) rfl
theorem k_777 : Cond.code y_NF_canSpeak b_NF_canSpeak 5 (some .boolean) ∈ nz_gd := nz_gm (List.mem_of_getElem? (i := 869) (by decide +kernel)) rfl
theorem k_800 : Cond.constant R_NF 172 (33554431) ∈ nz_gd := nz_gm (List.mem_of_getElem? (i := 892) (by decide +kernel)) rfl
theorem k_809 : Cond.methodLink R_NF 176 y_NF_isMeaning ∈ nz_gd := nz_gm (List.mem_of_getElem? (i := 901) (by decide +kernel)) rfl
theorem k_811 : Cond.instanceMethod y_NF_isMeaning ∈ nz_gd := nz_gm (List.mem_of_getElem? (i := 903) (by decide +kernel)) rfl
theorem k_812 : Cond.code y_NF_isMeaning b_NF_isMeaning 2 (some .boolean) ∈ nz_gd := nz_gm (List.mem_of_getElem? (i := 904) (by decide +kernel)) rfl
theorem k_867 : Cond.methodLink R_NF 190 y_NF_isPlace ∈ nz_gd := nz_gm (List.mem_of_getElem? (i := 959) (by decide +kernel)) rfl
theorem k_869 : Cond.instanceMethod y_NF_isPlace ∈ nz_gd := nz_gm (List.mem_of_getElem? (i := 961) (by decide +kernel)) rfl
theorem k_870 : Cond.code y_NF_isPlace b_NF_isPlace 2 (some .boolean) ∈ nz_gd := nz_gm (List.mem_of_getElem? (i := 962) (by decide +kernel)) rfl
theorem k_958 : Cond.constantLong R_NF 242 (-1) ∈ nz_gd := nz_gm (List.mem_of_getElem? (i := 1050) (by decide +kernel)) rfl
theorem k_1018 : Cond.fieldLink R_Mo 7 "NameFallModel" "tape" "[B" ∈ nz_gd := nz_gm (List.mem_of_getElem? (i := 1110) (by decide +kernel)) rfl
theorem k_1020 : Cond.fieldLink R_Mo 237 "NameFallModel" "taped" "I" ∈ nz_gd := nz_gm (List.mem_of_getElem? (i := 1112) (by decide +kernel)) rfl
theorem k_1022 : Cond.fieldLink R_Mo 145 "NameFallModel" "faultKind" "I" ∈ nz_gd := nz_gm (List.mem_of_getElem? (i := 1114) (by decide +kernel)) rfl
theorem k_1023 : Cond.fieldLink R_Mo 16 "NameFallModel" "faultPlace" "I" ∈ nz_gd := nz_gm (List.mem_of_getElem? (i := 1115) (by decide +kernel)) rfl
theorem k_1029 : Cond.fieldLink R_Mo 20 "NameFallModel" "places" "[I" ∈ nz_gd := nz_gm (List.mem_of_getElem? (i := 1121) (by decide +kernel)) rfl
theorem k_1030 : Cond.fieldLink R_Mo 24 "NameFallModel" "meanings" "[I" ∈ nz_gd := nz_gm (List.mem_of_getElem? (i := 1122) (by decide +kernel)) rfl
theorem k_1031 : Cond.fieldLink R_Mo 27 "NameFallModel" "words" "[I" ∈ nz_gd := nz_gm (List.mem_of_getElem? (i := 1123) (by decide +kernel)) rfl
theorem k_1032 : Cond.fieldLink R_Mo 30 "NameFallModel" "turns" "[I" ∈ nz_gd := nz_gm (List.mem_of_getElem? (i := 1124) (by decide +kernel)) rfl
theorem k_1033 : Cond.fieldLink R_Mo 33 "NameFallModel" "persons" "[I" ∈ nz_gd := nz_gm (List.mem_of_getElem? (i := 1125) (by decide +kernel)) rfl
theorem k_1034 : Cond.fieldLink R_Mo 36 "NameFallModel" "talks" "[I" ∈ nz_gd := nz_gm (List.mem_of_getElem? (i := 1126) (by decide +kernel)) rfl
theorem k_1057 : Cond.fieldLink R_Mo 240 "NameFallModel" "bank" "I" ∈ nz_gd := nz_gm (List.mem_of_getElem? (i := 1149) (by decide +kernel)) rfl
theorem k_1063 : Cond.fieldLink R_Mo 249 "NameFallModel" "deaths" "I" ∈ nz_gd := nz_gm (List.mem_of_getElem? (i := 1155) (by decide +kernel)) rfl
theorem k_1064 : Cond.fieldLink R_Mo 318 "NameFallModel" "time" "I" ∈ nz_gd := nz_gm (List.mem_of_getElem? (i := 1156) (by decide +kernel)) rfl
theorem k_1322 : Cond.methodLink R_Mo 309 y_Mo_isPerson ∈ nz_gd := nz_gm (List.mem_of_getElem? (i := 1414) (by decide +kernel)) rfl
theorem k_1324 : Cond.instanceMethod y_Mo_isPerson ∈ nz_gd := nz_gm (List.mem_of_getElem? (i := 1416) (by decide +kernel)) rfl
theorem k_1325 : Cond.code y_Mo_isPerson b_Mo_isPerson 2 (some .boolean) ∈ nz_gd := nz_gm (List.mem_of_getElem? (i := 1417) (by decide +kernel)) rfl
theorem k_1326 : Cond.methodLink R_Mo 305 y_Mo_isIn ∈ nz_gd := nz_gm (List.mem_of_getElem? (i := 1418) (by decide +kernel)) rfl
theorem k_1327 : Cond.static y_Mo_isIn ∈ nz_gd := nz_gm (List.mem_of_getElem? (i := 1419) (by decide +kernel)) rfl
theorem k_1328 : Cond.code y_Mo_isIn b_Mo_isIn 3 (some .boolean) ∈ nz_gd := nz_gm (List.mem_of_getElem? (i := 1420) (by decide +kernel)) rfl
theorem k_1344 : Cond.constant R_Mo 321 (100000) ∈ nz_gd := nz_gm (List.mem_of_getElem? (i := 1436) (by decide +kernel)) rfl
theorem k_1361 : Cond.methodLink R_Mo 339 y_Mo_isWordNo ∈ nz_gd := nz_gm (List.mem_of_getElem? (i := 1453) (by decide +kernel)) rfl
theorem k_1363 : Cond.instanceMethod y_Mo_isWordNo ∈ nz_gd := nz_gm (List.mem_of_getElem? (i := 1455) (by decide +kernel)) rfl
theorem k_1364 : Cond.code y_Mo_isWordNo b_Mo_isWordNo 2 (some .boolean) ∈ nz_gd := nz_gm (List.mem_of_getElem? (i := 1456) (by decide +kernel)) rfl
theorem k_1389 : Cond.methodLink R_Mo 370 y_Mo_speak ∈ nz_gd := nz_gm (List.mem_of_getElem? (i := 1481) (by decide +kernel)) rfl
theorem k_1391 : Cond.instanceMethod y_Mo_speak ∈ nz_gd := nz_gm (List.mem_of_getElem? (i := 1483) (by decide +kernel)) rfl
theorem k_1392 : Cond.code y_Mo_speak b_Mo_speak 5 (some .boolean) ∈ nz_gd := nz_gm (List.mem_of_getElem? (i := 1484) (by decide +kernel)) rfl
theorem k_1421 : Cond.constant R_Mo 377 (33554432) ∈ nz_gd := nz_gm (List.mem_of_getElem? (i := 1513) (by decide +kernel)) rfl
theorem k_1426 : Cond.methodLink R_Mo 388 y_Mo_isMeaning ∈ nz_gd := nz_gm (List.mem_of_getElem? (i := 1518) (by decide +kernel)) rfl
theorem k_1428 : Cond.instanceMethod y_Mo_isMeaning ∈ nz_gd := nz_gm (List.mem_of_getElem? (i := 1520) (by decide +kernel)) rfl
theorem k_1429 : Cond.code y_Mo_isMeaning b_Mo_isMeaning 2 (some .boolean) ∈ nz_gd := nz_gm (List.mem_of_getElem? (i := 1521) (by decide +kernel)) rfl
theorem k_1462 : Cond.methodLink R_Mo 402 y_Mo_isPlace ∈ nz_gd := nz_gm (List.mem_of_getElem? (i := 1554) (by decide +kernel)) rfl
theorem k_1464 : Cond.instanceMethod y_Mo_isPlace ∈ nz_gd := nz_gm (List.mem_of_getElem? (i := 1556) (by decide +kernel)) rfl
theorem k_1465 : Cond.code y_Mo_isPlace b_Mo_isPlace 2 (some .boolean) ∈ nz_gd := nz_gm (List.mem_of_getElem? (i := 1557) (by decide +kernel)) rfl
theorem k_1494 : Cond.instanceMethod y_Mo_tell ∈ nz_gd := nz_gm (List.mem_of_getElem? (i := 1586) (by decide +kernel)) rfl
theorem k_1495 : Cond.selects R_Mo y_Mo_tell y_Mo_tell ∈ nz_gd := nz_gm (List.mem_of_getElem? (i := 1587) (by decide +kernel)) rfl
theorem k_1496 : Cond.code y_Mo_tell b_Mo_tell 6 (some .int) ∈ nz_gd := nz_gm (List.mem_of_getElem? (i := 1588) (by decide +kernel)) rfl
theorem k_1513 : Cond.methodLink R_Mo 423 y_Mo_tell ∈ nz_gd := nz_gm (List.mem_of_getElem? (i := 1605) (by decide +kernel)) rfl
theorem k_1534 : Cond.constantLong R_Mo 429 (-1) ∈ nz_gd := nz_gm (List.mem_of_getElem? (i := 1626) (by decide +kernel)) rfl
theorem s_0 : Cond.selects R_NF y_NF_putBytes y_NF_putBytes ∈ nz_gd := nz_gm (List.mem_of_getElem? (i := 0) (by decide +kernel)) rfl
theorem s_22 : Cond.selects R_NF y_NF_isPerson y_NF_isPerson ∈ nz_gd := nz_gm (List.mem_of_getElem? (i := 22) (by decide +kernel)) rfl
theorem s_25 : Cond.selects R_NF y_NF_isWord y_NF_isWord ∈ nz_gd := nz_gm (List.mem_of_getElem? (i := 25) (by decide +kernel)) rfl
theorem s_26 : Cond.selects R_NF y_NF_canSpeak y_NF_canSpeak ∈ nz_gd := nz_gm (List.mem_of_getElem? (i := 26) (by decide +kernel)) rfl
theorem s_30 : Cond.selects R_NF y_NF_isMeaning y_NF_isMeaning ∈ nz_gd := nz_gm (List.mem_of_getElem? (i := 30) (by decide +kernel)) rfl
theorem s_32 : Cond.selects R_NF y_NF_isPlace y_NF_isPlace ∈ nz_gd := nz_gm (List.mem_of_getElem? (i := 32) (by decide +kernel)) rfl
theorem s_61 : Cond.selects R_Mo y_Mo_isPerson y_Mo_isPerson ∈ nz_gd := nz_gm (List.mem_of_getElem? (i := 61) (by decide +kernel)) rfl
theorem s_65 : Cond.selects R_Mo y_Mo_isWordNo y_Mo_isWordNo ∈ nz_gd := nz_gm (List.mem_of_getElem? (i := 65) (by decide +kernel)) rfl
theorem s_69 : Cond.selects R_Mo y_Mo_speak y_Mo_speak ∈ nz_gd := nz_gm (List.mem_of_getElem? (i := 69) (by decide +kernel)) rfl
theorem s_76 : Cond.selects R_Mo y_Mo_isMeaning y_Mo_isMeaning ∈ nz_gd := nz_gm (List.mem_of_getElem? (i := 76) (by decide +kernel)) rfl
theorem s_82 : Cond.selects R_Mo y_Mo_isPlace y_Mo_isPlace ∈ nz_gd := nz_gm (List.mem_of_getElem? (i := 82) (by decide +kernel)) rfl
theorem i_Chances : ∀ w ∈ u_ws R_Chances F_Chances 5, w ∈ nz_gd := by decide +kernel
theorem i_Deaths : ∀ w ∈ u_ws R_Deaths F_Deaths 6, w ∈ nz_gd := by decide +kernel
theorem i_Falls : ∀ w ∈ u_ws R_Falls F_Falls 7, w ∈ nz_gd := by decide +kernel
theorem i_Land : ∀ w ∈ u_ws R_Land F_Land 5, w ∈ nz_gd := by decide +kernel
theorem i_Meanings : ∀ w ∈ u_ws R_Meanings F_Meanings 6, w ∈ nz_gd := by decide +kernel
theorem i_Persons : ∀ w ∈ u_ws R_Persons F_Persons 11, w ∈ nz_gd := by decide +kernel
theorem i_Places : ∀ w ∈ u_ws R_Places F_Places 8, w ∈ nz_gd := by decide +kernel
theorem i_Reader : ∀ w ∈ u_ws R_Reader F_Reader 5, w ∈ nz_gd := by decide +kernel
theorem i_Scanner : ∀ w ∈ u_ws R_Scanner F_Scanner 9, w ∈ nz_gd := by decide +kernel
theorem i_Speech : ∀ w ∈ u_ws R_Speech F_Speech 5, w ∈ nz_gd := by decide +kernel
theorem i_Words : ∀ w ∈ u_ws R_Words F_Words 3, w ∈ nz_gd := by decide +kernel
theorem i_NF : ∀ w ∈ u_ws R_NF F_NF 11, w ∈ nz_gd := by decide +kernel
theorem i_Mo : ∀ w ∈ u_ws R_Mo F_Mo 55, w ∈ nz_gd := by decide +kernel
theorem g_NF_80 : nz_wV R_NF 80 y_NF_putBytes b_NF_putBytes 3 none 1 := ⟨k_498, k_500, s_0, k_1, k_501, by decide +kernel, by decide +kernel, by decide +kernel⟩
theorem g_NF_104 : nz_wV R_NF 104 y_NF_isPerson b_NF_isPerson 2 (some .boolean) 1 := ⟨k_694, k_696, s_22, k_1, k_697, by decide +kernel, by decide +kernel, by decide +kernel⟩
theorem g_NF_124 : nz_wV R_NF 124 y_Deaths_takeBack b_Deaths_takeBack 2 (some .boolean) 1 := ⟨k_709, k_710, k_711, k_14, k_712, by decide +kernel, by decide +kernel, by decide +kernel⟩
theorem g_NF_127 : nz_wV R_NF 127 y_Deaths_goOn b_Deaths_goOn 2 (some .int) 1 := ⟨k_717, k_718, k_719, k_14, k_720, by decide +kernel, by decide +kernel, by decide +kernel⟩
theorem g_NF_138 : nz_wV R_NF 138 y_NF_isWord b_NF_isWord 2 (some .boolean) 1 := ⟨k_760, k_762, s_25, k_1, k_763, by decide +kernel, by decide +kernel, by decide +kernel⟩
theorem g_NF_161 : nz_wV R_NF 161 y_NF_canSpeak b_NF_canSpeak 5 (some .boolean) 4 := ⟨k_774, k_776, s_26, k_1, k_777, by decide +kernel, by decide +kernel, by decide +kernel⟩
theorem g_NF_176 : nz_wV R_NF 176 y_NF_isMeaning b_NF_isMeaning 2 (some .boolean) 1 := ⟨k_809, k_811, s_30, k_1, k_812, by decide +kernel, by decide +kernel, by decide +kernel⟩
theorem g_NF_190 : nz_wV R_NF 190 y_NF_isPlace b_NF_isPlace 2 (some .boolean) 1 := ⟨k_867, k_869, s_32, k_1, k_870, by decide +kernel, by decide +kernel, by decide +kernel⟩
theorem g_Mo_305 : nz_wS R_Mo 305 y_Mo_isIn b_Mo_isIn 3 (some .boolean) 3 := ⟨k_1326, k_1327, k_17, k_1328, by decide +kernel, by decide +kernel, by decide +kernel⟩
theorem g_Mo_309 : nz_wV R_Mo 309 y_Mo_isPerson b_Mo_isPerson 2 (some .boolean) 1 := ⟨k_1322, k_1324, s_61, k_17, k_1325, by decide +kernel, by decide +kernel, by decide +kernel⟩
theorem g_Mo_339 : nz_wV R_Mo 339 y_Mo_isWordNo b_Mo_isWordNo 2 (some .boolean) 1 := ⟨k_1361, k_1363, s_65, k_17, k_1364, by decide +kernel, by decide +kernel, by decide +kernel⟩
theorem g_Mo_370 : nz_wV R_Mo 370 y_Mo_speak b_Mo_speak 5 (some .boolean) 4 := ⟨k_1389, k_1391, s_69, k_17, k_1392, by decide +kernel, by decide +kernel, by decide +kernel⟩
theorem g_Mo_388 : nz_wV R_Mo 388 y_Mo_isMeaning b_Mo_isMeaning 2 (some .boolean) 1 := ⟨k_1426, k_1428, s_76, k_17, k_1429, by decide +kernel, by decide +kernel, by decide +kernel⟩
theorem g_Mo_402 : nz_wV R_Mo 402 y_Mo_isPlace b_Mo_isPlace 2 (some .boolean) 1 := ⟨k_1462, k_1464, s_82, k_17, k_1465, by decide +kernel, by decide +kernel, by decide +kernel⟩
theorem g_Mo_423 : nz_wV R_Mo 423 y_Mo_tell b_Mo_tell 6 (some .int) 5 := ⟨k_1513, k_1494, k_1495, k_17, k_1496, by decide +kernel, by decide +kernel, by decide +kernel⟩
