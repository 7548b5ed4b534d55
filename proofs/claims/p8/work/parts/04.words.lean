theorem k_14 : Cond.initialized R_Deaths ∈ nz_gd := nz_gm (List.mem_of_getElem? (i := 106) (by decide +kernel)) rfl
theorem k_17 : Cond.initialized R_Mo ∈ nz_gd := nz_gm (List.mem_of_getElem? (i := 109) (by decide +kernel)) rfl
theorem k_395 : Cond.fieldLink R_Deaths 28 "NameFall$Deaths" "time" "I" ∈ nz_gd := nz_gm (List.mem_of_getElem? (i := 487) (by decide +kernel)) rfl
theorem k_465 : Cond.fieldLink R_NF 45 "NameFall" "deaths" "LNameFall$Deaths;" ∈ nz_gd := nz_gm (List.mem_of_getElem? (i := 557) (by decide +kernel)) rfl
theorem k_717 : Cond.methodLink R_NF 127 y_Deaths_goOn ∈ nz_gd := nz_gm (List.mem_of_getElem? (i := 809) (by decide +kernel)) rfl
theorem k_718 : Cond.instanceMethod y_Deaths_goOn ∈ nz_gd := nz_gm (List.mem_of_getElem? (i := 810) (by decide +kernel)) rfl
theorem k_719 : Cond.selects R_Deaths y_Deaths_goOn y_Deaths_goOn ∈ nz_gd := nz_gm (List.mem_of_getElem? (i := 811) (by decide +kernel)) rfl
theorem k_720 : Cond.code y_Deaths_goOn b_Deaths_goOn 2 (some .int) ∈ nz_gd := nz_gm (List.mem_of_getElem? (i := 812) (by decide +kernel)) rfl
theorem k_721 : Cond.constant R_Deaths 31 (100000) ∈ nz_gd := nz_gm (List.mem_of_getElem? (i := 813) (by decide +kernel)) rfl
theorem k_1033 : Cond.fieldLink R_Mo 33 "NameFallModel" "persons" "[I" ∈ nz_gd := nz_gm (List.mem_of_getElem? (i := 1125) (by decide +kernel)) rfl
theorem k_1052 : Cond.fieldLink R_Mo 91 "NameFallModel" "born" "[I" ∈ nz_gd := nz_gm (List.mem_of_getElem? (i := 1144) (by decide +kernel)) rfl
theorem k_1057 : Cond.fieldLink R_Mo 240 "NameFallModel" "bank" "I" ∈ nz_gd := nz_gm (List.mem_of_getElem? (i := 1149) (by decide +kernel)) rfl
theorem k_1059 : Cond.fieldLink R_Mo 106 "NameFallModel" "dPerson" "[I" ∈ nz_gd := nz_gm (List.mem_of_getElem? (i := 1151) (by decide +kernel)) rfl
theorem k_1060 : Cond.fieldLink R_Mo 109 "NameFallModel" "dYear" "[I" ∈ nz_gd := nz_gm (List.mem_of_getElem? (i := 1152) (by decide +kernel)) rfl
theorem k_1061 : Cond.fieldLink R_Mo 112 "NameFallModel" "dTold" "[I" ∈ nz_gd := nz_gm (List.mem_of_getElem? (i := 1153) (by decide +kernel)) rfl
theorem k_1062 : Cond.fieldLink R_Mo 115 "NameFallModel" "dUntold" "[I" ∈ nz_gd := nz_gm (List.mem_of_getElem? (i := 1154) (by decide +kernel)) rfl
theorem k_1063 : Cond.fieldLink R_Mo 249 "NameFallModel" "deaths" "I" ∈ nz_gd := nz_gm (List.mem_of_getElem? (i := 1155) (by decide +kernel)) rfl
theorem k_1064 : Cond.fieldLink R_Mo 318 "NameFallModel" "time" "I" ∈ nz_gd := nz_gm (List.mem_of_getElem? (i := 1156) (by decide +kernel)) rfl
theorem k_1065 : Cond.fieldLink R_Mo 118 "NameFallModel" "died" "[I" ∈ nz_gd := nz_gm (List.mem_of_getElem? (i := 1157) (by decide +kernel)) rfl
theorem k_1322 : Cond.methodLink R_Mo 309 y_Mo_isPerson ∈ nz_gd := nz_gm (List.mem_of_getElem? (i := 1414) (by decide +kernel)) rfl
theorem k_1324 : Cond.instanceMethod y_Mo_isPerson ∈ nz_gd := nz_gm (List.mem_of_getElem? (i := 1416) (by decide +kernel)) rfl
theorem k_1325 : Cond.code y_Mo_isPerson b_Mo_isPerson 2 (some .boolean) ∈ nz_gd := nz_gm (List.mem_of_getElem? (i := 1417) (by decide +kernel)) rfl
theorem k_1326 : Cond.methodLink R_Mo 305 y_Mo_isIn ∈ nz_gd := nz_gm (List.mem_of_getElem? (i := 1418) (by decide +kernel)) rfl
theorem k_1327 : Cond.static y_Mo_isIn ∈ nz_gd := nz_gm (List.mem_of_getElem? (i := 1419) (by decide +kernel)) rfl
theorem k_1328 : Cond.code y_Mo_isIn b_Mo_isIn 3 (some .boolean) ∈ nz_gd := nz_gm (List.mem_of_getElem? (i := 1420) (by decide +kernel)) rfl
theorem k_1329 : Cond.methodLink R_Mo 312 y_Mo_isYear ∈ nz_gd := nz_gm (List.mem_of_getElem? (i := 1421) (by decide +kernel)) rfl
theorem k_1330 : Cond.static y_Mo_isYear ∈ nz_gd := nz_gm (List.mem_of_getElem? (i := 1422) (by decide +kernel)) rfl
theorem k_1331 : Cond.code y_Mo_isYear b_Mo_isYear 1 (some .boolean) ∈ nz_gd := nz_gm (List.mem_of_getElem? (i := 1423) (by decide +kernel)) rfl
theorem k_1332 : Cond.methodLink R_Mo 315 y_Mo_bornOf ∈ nz_gd := nz_gm (List.mem_of_getElem? (i := 1424) (by decide +kernel)) rfl
theorem k_1334 : Cond.instanceMethod y_Mo_bornOf ∈ nz_gd := nz_gm (List.mem_of_getElem? (i := 1426) (by decide +kernel)) rfl
theorem k_1335 : Cond.code y_Mo_bornOf b_Mo_bornOf 2 (some .int) ∈ nz_gd := nz_gm (List.mem_of_getElem? (i := 1427) (by decide +kernel)) rfl
theorem k_1344 : Cond.constant R_Mo 321 (100000) ∈ nz_gd := nz_gm (List.mem_of_getElem? (i := 1436) (by decide +kernel)) rfl
theorem k_1349 : Cond.methodLink R_Mo 322 y_Mo_know ∈ nz_gd := nz_gm (List.mem_of_getElem? (i := 1441) (by decide +kernel)) rfl
theorem k_1351 : Cond.instanceMethod y_Mo_know ∈ nz_gd := nz_gm (List.mem_of_getElem? (i := 1443) (by decide +kernel)) rfl
theorem k_1352 : Cond.code y_Mo_know b_Mo_know 3 none ∈ nz_gd := nz_gm (List.mem_of_getElem? (i := 1444) (by decide +kernel)) rfl
theorem k_1353 : Cond.methodLink R_Mo 326 y_Mo_isAlive ∈ nz_gd := nz_gm (List.mem_of_getElem? (i := 1445) (by decide +kernel)) rfl
theorem k_1355 : Cond.instanceMethod y_Mo_isAlive ∈ nz_gd := nz_gm (List.mem_of_getElem? (i := 1447) (by decide +kernel)) rfl
theorem k_1356 : Cond.code y_Mo_isAlive b_Mo_isAlive 3 (some .boolean) ∈ nz_gd := nz_gm (List.mem_of_getElem? (i := 1448) (by decide +kernel)) rfl
theorem s_61 : Cond.selects R_Mo y_Mo_isPerson y_Mo_isPerson ∈ nz_gd := nz_gm (List.mem_of_getElem? (i := 61) (by decide +kernel)) rfl
theorem s_62 : Cond.selects R_Mo y_Mo_bornOf y_Mo_bornOf ∈ nz_gd := nz_gm (List.mem_of_getElem? (i := 62) (by decide +kernel)) rfl
theorem s_63 : Cond.selects R_Mo y_Mo_know y_Mo_know ∈ nz_gd := nz_gm (List.mem_of_getElem? (i := 63) (by decide +kernel)) rfl
theorem s_64 : Cond.selects R_Mo y_Mo_isAlive y_Mo_isAlive ∈ nz_gd := nz_gm (List.mem_of_getElem? (i := 64) (by decide +kernel)) rfl
theorem i_Chances : ∀ w ∈ u_ws R_Chances F_Chances 5, w ∈ nz_gd := by decide +kernel
theorem i_Deaths : ∀ w ∈ u_ws R_Deaths F_Deaths 6, w ∈ nz_gd := by decide +kernel
theorem i_Falls : ∀ w ∈ u_ws R_Falls F_Falls 7, w ∈ nz_gd := by decide +kernel
theorem i_Land : ∀ w ∈ u_ws R_Land F_Land 5, w ∈ nz_gd := by decide +kernel
theorem i_Meanings : ∀ w ∈ u_ws R_Meanings F_Meanings 6, w ∈ nz_gd := by decide +kernel
theorem i_Persons : ∀ w ∈ u_ws R_Persons F_Persons 11, w ∈ nz_gd := by decide +kernel
theorem i_Places : ∀ w ∈ u_ws R_Places F_Places 8, w ∈ nz_gd := by decide +kernel
theorem i_Reader : ∀ w ∈ u_ws R_Reader F_Reader 5, w ∈ nz_gd := by decide +kernel
theorem i_Scanner : ∀ w ∈ u_ws R_Scanner F_Scanner 9, w ∈ nz_gd := by decide +kernel
theorem i_Speech : ∀ w ∈ u_ws R_Speech F_Speech 5, w ∈ nz_gd := by decide +kernel
theorem i_Words : ∀ w ∈ u_ws R_Words F_Words 3, w ∈ nz_gd := by decide +kernel
theorem i_NF : ∀ w ∈ u_ws R_NF F_NF 11, w ∈ nz_gd := by decide +kernel
theorem i_Mo : ∀ w ∈ u_ws R_Mo F_Mo 55, w ∈ nz_gd := by decide +kernel
theorem g_NF_127 : nz_wV R_NF 127 y_Deaths_goOn b_Deaths_goOn 2 (some .int) 1 := ⟨k_717, k_718, k_719, k_14, k_720, by decide +kernel, by decide +kernel, by decide +kernel⟩
theorem g_Mo_305 : nz_wS R_Mo 305 y_Mo_isIn b_Mo_isIn 3 (some .boolean) 3 := ⟨k_1326, k_1327, k_17, k_1328, by decide +kernel, by decide +kernel, by decide +kernel⟩
theorem g_Mo_309 : nz_wV R_Mo 309 y_Mo_isPerson b_Mo_isPerson 2 (some .boolean) 1 := ⟨k_1322, k_1324, s_61, k_17, k_1325, by decide +kernel, by decide +kernel, by decide +kernel⟩
theorem g_Mo_312 : nz_wS R_Mo 312 y_Mo_isYear b_Mo_isYear 1 (some .boolean) 1 := ⟨k_1329, k_1330, k_17, k_1331, by decide +kernel, by decide +kernel, by decide +kernel⟩
theorem g_Mo_315 : nz_wV R_Mo 315 y_Mo_bornOf b_Mo_bornOf 2 (some .int) 1 := ⟨k_1332, k_1334, s_62, k_17, k_1335, by decide +kernel, by decide +kernel, by decide +kernel⟩
theorem g_Mo_322 : nz_wV R_Mo 322 y_Mo_know b_Mo_know 3 none 1 := ⟨k_1349, k_1351, s_63, k_17, k_1352, by decide +kernel, by decide +kernel, by decide +kernel⟩
theorem g_Mo_326 : nz_wV R_Mo 326 y_Mo_isAlive b_Mo_isAlive 3 (some .boolean) 2 := ⟨k_1353, k_1355, s_64, k_17, k_1356, by decide +kernel, by decide +kernel, by decide +kernel⟩
