theorem k_14 : Cond.initialized R_Deaths ∈ nz_gd := nz_gm (List.mem_of_getElem? (i := 106) (by decide +kernel)) rfl
theorem k_17 : Cond.initialized R_Mo ∈ nz_gd := nz_gm (List.mem_of_getElem? (i := 109) (by decide +kernel)) rfl
theorem k_44 : Cond.fieldLink R_NF 282 "NameFall$Places" "count" "I" ∈ nz_gd := nz_gm (List.mem_of_getElem? (i := 136) (by decide +kernel)) rfl
theorem k_94 : Cond.fieldLink R_NF 210 "NameFall$Meanings" "count" "I" ∈ nz_gd := nz_gm (List.mem_of_getElem? (i := 186) (by decide +kernel)) rfl
theorem k_132 : Cond.fieldLink R_NF 241 "NameFall$Words" "count" "I" ∈ nz_gd := nz_gm (List.mem_of_getElem? (i := 224) (by decide +kernel)) rfl
theorem k_158 : Cond.fieldLink R_NF 231 "NameFall$Persons" "count" "I" ∈ nz_gd := nz_gm (List.mem_of_getElem? (i := 250) (by decide +kernel)) rfl
theorem k_217 : Cond.fieldLink R_NF 193 "NameFall$Land" "places" "LNameFall$Places;" ∈ nz_gd := nz_gm (List.mem_of_getElem? (i := 309) (by decide +kernel)) rfl
theorem k_222 : Cond.fieldLink R_NF 206 "NameFall$Land" "meanings" "LNameFall$Meanings;" ∈ nz_gd := nz_gm (List.mem_of_getElem? (i := 314) (by decide +kernel)) rfl
theorem k_225 : Cond.fieldLink R_NF 141 "NameFall$Land" "words" "LNameFall$Words;" ∈ nz_gd := nz_gm (List.mem_of_getElem? (i := 317) (by decide +kernel)) rfl
theorem k_231 : Cond.fieldLink R_NF 111 "NameFall$Land" "persons" "LNameFall$Persons;" ∈ nz_gd := nz_gm (List.mem_of_getElem? (i := 323) (by decide +kernel)) rfl
theorem k_393 : Cond.fieldLink R_Deaths 24 "NameFall$Deaths" "count" "I" ∈ nz_gd := nz_gm (List.mem_of_getElem? (i := 485) (by decide +kernel)) rfl
theorem k_395 : Cond.fieldLink R_Deaths 28 "NameFall$Deaths" "time" "I" ∈ nz_gd := nz_gm (List.mem_of_getElem? (i := 487) (by decide +kernel)) rfl
theorem k_462 : Cond.fieldLink R_NF 21 "NameFall" "current" "LNameFall$Land;" ∈ nz_gd := nz_gm (List.mem_of_getElem? (i := 554) (by decide +kernel)) rfl
theorem k_465 : Cond.fieldLink R_NF 45 "NameFall" "deaths" "LNameFall$Deaths;" ∈ nz_gd := nz_gm (List.mem_of_getElem? (i := 557) (by decide +kernel)) rfl
theorem k_717 : Cond.methodLink R_NF 127 y_Deaths_goOn ∈ nz_gd := nz_gm (List.mem_of_getElem? (i := 809) (by decide +kernel)) rfl
theorem k_718 : Cond.instanceMethod y_Deaths_goOn ∈ nz_gd := nz_gm (List.mem_of_getElem? (i := 810) (by decide +kernel)) rfl
theorem k_719 : Cond.selects R_Deaths y_Deaths_goOn y_Deaths_goOn ∈ nz_gd := nz_gm (List.mem_of_getElem? (i := 811) (by decide +kernel)) rfl
theorem k_720 : Cond.code y_Deaths_goOn b_Deaths_goOn 2 (some .int) ∈ nz_gd := nz_gm (List.mem_of_getElem? (i := 812) (by decide +kernel)) rfl
theorem k_721 : Cond.constant R_Deaths 31 (100000) ∈ nz_gd := nz_gm (List.mem_of_getElem? (i := 813) (by decide +kernel)) rfl
theorem k_1064 : Cond.fieldLink R_Mo 318 "NameFallModel" "time" "I" ∈ nz_gd := nz_gm (List.mem_of_getElem? (i := 1156) (by decide +kernel)) rfl
theorem k_1326 : Cond.methodLink R_Mo 305 y_Mo_isIn ∈ nz_gd := nz_gm (List.mem_of_getElem? (i := 1418) (by decide +kernel)) rfl
theorem k_1327 : Cond.static y_Mo_isIn ∈ nz_gd := nz_gm (List.mem_of_getElem? (i := 1419) (by decide +kernel)) rfl
theorem k_1328 : Cond.code y_Mo_isIn b_Mo_isIn 3 (some .boolean) ∈ nz_gd := nz_gm (List.mem_of_getElem? (i := 1420) (by decide +kernel)) rfl
theorem k_1344 : Cond.constant R_Mo 321 (100000) ∈ nz_gd := nz_gm (List.mem_of_getElem? (i := 1436) (by decide +kernel)) rfl
theorem i_Chances : ∀ w ∈ u_ws R_Chances F_Chances 5, w ∈ nz_gd := by decide +kernel
theorem i_Deaths : ∀ w ∈ u_ws R_Deaths F_Deaths 6, w ∈ nz_gd := by decide +kernel
theorem i_Falls : ∀ w ∈ u_ws R_Falls F_Falls 7, w ∈ nz_gd := by decide +kernel
theorem i_Land : ∀ w ∈ u_ws R_Land F_Land 5, w ∈ nz_gd := by decide +kernel
theorem i_Meanings : ∀ w ∈ u_ws R_Meanings F_Meanings 6, w ∈ nz_gd := by decide +kernel
theorem i_Persons : ∀ w ∈ u_ws R_Persons F_Persons 11, w ∈ nz_gd := by decide +kernel
theorem i_Places : ∀ w ∈ u_ws R_Places F_Places 8, w ∈ nz_gd := by decide +kernel
theorem i_Reader : ∀ w ∈ u_ws R_Reader F_Reader 5, w ∈ nz_gd := by decide +kernel
theorem i_Scanner : ∀ w ∈ u_ws R_Scanner F_Scanner 9, w ∈ nz_gd := by decide +kernel
theorem i_Speech : ∀ w ∈ u_ws R_Speech F_Speech 5, w ∈ nz_gd := by decide +kernel
theorem i_Words : ∀ w ∈ u_ws R_Words F_Words 3, w ∈ nz_gd := by decide +kernel
theorem i_NF : ∀ w ∈ u_ws R_NF F_NF 11, w ∈ nz_gd := by decide +kernel
theorem i_Mo : ∀ w ∈ u_ws R_Mo F_Mo 55, w ∈ nz_gd := by decide +kernel
theorem g_NF_127 : nz_wV R_NF 127 y_Deaths_goOn b_Deaths_goOn 2 (some .int) 1 := ⟨k_717, k_718, k_719, k_14, k_720, by decide +kernel, by decide +kernel, by decide +kernel⟩
theorem g_Mo_305 : nz_wS R_Mo 305 y_Mo_isIn b_Mo_isIn 3 (some .boolean) 3 := ⟨k_1326, k_1327, k_17, k_1328, by decide +kernel, by decide +kernel, by decide +kernel⟩
