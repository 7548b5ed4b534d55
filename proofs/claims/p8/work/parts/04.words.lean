theorem k_1 : Cond.initialized R_NF ∈ nz_gd := nz_gm (List.mem_of_getElem? (i := 93) (by decide +kernel)) rfl
theorem k_2 : Cond.initialized R_Land ∈ nz_gd := nz_gm (List.mem_of_getElem? (i := 94) (by decide +kernel)) rfl
theorem k_3 : Cond.initialized R_Places ∈ nz_gd := nz_gm (List.mem_of_getElem? (i := 95) (by decide +kernel)) rfl
theorem k_4 : Cond.initialized R_Meanings ∈ nz_gd := nz_gm (List.mem_of_getElem? (i := 96) (by decide +kernel)) rfl
theorem k_5 : Cond.initialized R_Words ∈ nz_gd := nz_gm (List.mem_of_getElem? (i := 97) (by decide +kernel)) rfl
theorem k_6 : Cond.initialized R_Persons ∈ nz_gd := nz_gm (List.mem_of_getElem? (i := 98) (by decide +kernel)) rfl
theorem k_7 : Cond.initialized R_Falls ∈ nz_gd := nz_gm (List.mem_of_getElem? (i := 99) (by decide +kernel)) rfl
theorem k_8 : Cond.initialized R_Reader ∈ nz_gd := nz_gm (List.mem_of_getElem? (i := 100) (by decide +kernel)) rfl
theorem k_9 : Cond.initialized R_Scanner ∈ nz_gd := nz_gm (List.mem_of_getElem? (i := 101) (by decide +kernel)) rfl
theorem k_10 : Cond.initialized R_Str ∈ nz_gd := nz_gm (List.mem_of_getElem? (i := 102) (by decide +kernel)) rfl
theorem k_11 : Cond.initialized R_Lat ∈ nz_gd := nz_gm (List.mem_of_getElem? (i := 103) (by decide +kernel)) rfl
theorem k_12 : Cond.initialized R_Pre ∈ nz_gd := nz_gm (List.mem_of_getElem? (i := 104) (by decide +kernel)) rfl
theorem k_14 : Cond.initialized R_Deaths ∈ nz_gd := nz_gm (List.mem_of_getElem? (i := 106) (by decide +kernel)) rfl
theorem k_15 : Cond.initialized R_Speech ∈ nz_gd := nz_gm (List.mem_of_getElem? (i := 107) (by decide +kernel)) rfl
theorem k_16 : Cond.initialized R_Chances ∈ nz_gd := nz_gm (List.mem_of_getElem? (i := 108) (by decide +kernel)) rfl
theorem k_17 : Cond.initialized R_Mo ∈ nz_gd := nz_gm (List.mem_of_getElem? (i := 109) (by decide +kernel)) rfl
theorem k_18 : Cond.initialized R_Math ∈ nz_gd := nz_gm (List.mem_of_getElem? (i := 110) (by decide +kernel)) rfl
theorem k_19 : Cond.initialized R_Intg ∈ nz_gd := nz_gm (List.mem_of_getElem? (i := 111) (by decide +kernel)) rfl
theorem k_20 : Cond.classLink R_law 7 R_NF ∈ nz_gd := nz_gm (List.mem_of_getElem? (i := 112) (by decide +kernel)) rfl
theorem k_21 : Cond.instantiable R_NF 11 ∈ nz_gd := nz_gm (List.mem_of_getElem? (i := 113) (by decide +kernel)) rfl
theorem k_22 : Cond.methodLink R_law 9 y_NF_init ∈ nz_gd := nz_gm (List.mem_of_getElem? (i := 114) (by decide +kernel)) rfl
theorem k_23 : Cond.instanceMethod y_NF_init ∈ nz_gd := nz_gm (List.mem_of_getElem? (i := 115) (by decide +kernel)) rfl
theorem k_24 : Cond.code y_NF_init b_NF_init 4 none ∈ nz_gd := nz_gm (List.mem_of_getElem? (i := 116) (by decide +kernel)) rfl
theorem k_25 : Cond.methodLink R_NF 1 Lib.objectInit ∈ nz_gd := nz_gm (List.mem_of_getElem? (i := 117) (by decide +kernel)) rfl
theorem k_26 : Cond.instanceMethod Lib.objectInit ∈ nz_gd := nz_gm (List.mem_of_getElem? (i := 118) (by decide +kernel)) rfl
theorem k_27 : Cond.code Lib.objectInit ⟨#[0xb1]⟩ 1 none ∈ nz_gd := nz_gm (List.mem_of_getElem? (i := 119) (by decide +kernel)) rfl
theorem k_28 : Cond.classLink R_NF 9 R_Land ∈ nz_gd := nz_gm (List.mem_of_getElem? (i := 120) (by decide +kernel)) rfl
theorem k_29 : Cond.instantiable R_Land 5 ∈ nz_gd := nz_gm (List.mem_of_getElem? (i := 121) (by decide +kernel)) rfl
theorem k_31 : Cond.instanceMethod y_Land_init ∈ nz_gd := nz_gm (List.mem_of_getElem? (i := 123) (by decide +kernel)) rfl
theorem k_32 : Cond.code y_Land_init b_Land_init 1 none ∈ nz_gd := nz_gm (List.mem_of_getElem? (i := 124) (by decide +kernel)) rfl
theorem k_33 : Cond.methodLink R_Land 3 Lib.objectInit ∈ nz_gd := nz_gm (List.mem_of_getElem? (i := 125) (by decide +kernel)) rfl
theorem k_34 : Cond.classLink R_Land 9 R_Places ∈ nz_gd := nz_gm (List.mem_of_getElem? (i := 126) (by decide +kernel)) rfl
theorem k_35 : Cond.instantiable R_Places 8 ∈ nz_gd := nz_gm (List.mem_of_getElem? (i := 127) (by decide +kernel)) rfl
theorem k_37 : Cond.instanceMethod y_Places_init ∈ nz_gd := nz_gm (List.mem_of_getElem? (i := 129) (by decide +kernel)) rfl
theorem k_38 : Cond.code y_Places_init b_Places_init 1 none ∈ nz_gd := nz_gm (List.mem_of_getElem? (i := 130) (by decide +kernel)) rfl
theorem k_39 : Cond.methodLink R_Places 3 Lib.objectInit ∈ nz_gd := nz_gm (List.mem_of_getElem? (i := 131) (by decide +kernel)) rfl
theorem k_40 : Cond.fieldLink R_Places 34 "NameFall$Places" "count" "I" ∈ nz_gd := nz_gm (List.mem_of_getElem? (i := 132) (by decide +kernel)) rfl
theorem k_41 : Cond.fieldLink R_Falls 40 "NameFall$Places" "count" "I" ∈ nz_gd := nz_gm (List.mem_of_getElem? (i := 133) (by decide +kernel)) rfl
theorem k_42 : Cond.fieldLink R_Speech 59 "NameFall$Places" "count" "I" ∈ nz_gd := nz_gm (List.mem_of_getElem? (i := 134) (by decide +kernel)) rfl
theorem k_43 : Cond.fieldLink R_Reader 47 "NameFall$Places" "count" "I" ∈ nz_gd := nz_gm (List.mem_of_getElem? (i := 135) (by decide +kernel)) rfl
theorem k_44 : Cond.fieldLink R_NF 282 "NameFall$Places" "count" "I" ∈ nz_gd := nz_gm (List.mem_of_getElem? (i := 136) (by decide +kernel)) rfl
theorem k_45 : Cond.fieldLink R_Places 9 "NameFall$Places" "names" "[J" ∈ nz_gd := nz_gm (List.mem_of_getElem? (i := 137) (by decide +kernel)) rfl
theorem k_46 : Cond.fieldLink R_Reader 105 "NameFall$Places" "names" "[J" ∈ nz_gd := nz_gm (List.mem_of_getElem? (i := 138) (by decide +kernel)) rfl
theorem k_47 : Cond.fieldLink R_Places 15 "NameFall$Places" "kinds" "[I" ∈ nz_gd := nz_gm (List.mem_of_getElem? (i := 139) (by decide +kernel)) rfl
theorem k_48 : Cond.fieldLink R_Falls 46 "NameFall$Places" "kinds" "[I" ∈ nz_gd := nz_gm (List.mem_of_getElem? (i := 140) (by decide +kernel)) rfl
theorem k_49 : Cond.fieldLink R_Reader 123 "NameFall$Places" "kinds" "[I" ∈ nz_gd := nz_gm (List.mem_of_getElem? (i := 141) (by decide +kernel)) rfl
theorem k_50 : Cond.fieldLink R_Places 19 "NameFall$Places" "alikes" "[I" ∈ nz_gd := nz_gm (List.mem_of_getElem? (i := 142) (by decide +kernel)) rfl
theorem k_51 : Cond.fieldLink R_Falls 47 "NameFall$Places" "alikes" "[I" ∈ nz_gd := nz_gm (List.mem_of_getElem? (i := 143) (by decide +kernel)) rfl
theorem k_52 : Cond.fieldLink R_Reader 133 "NameFall$Places" "alikes" "[I" ∈ nz_gd := nz_gm (List.mem_of_getElem? (i := 144) (by decide +kernel)) rfl
theorem k_53 : Cond.fieldLink R_NF 228 "NameFall$Places" "alikes" "[I" ∈ nz_gd := nz_gm (List.mem_of_getElem? (i := 145) (by decide +kernel)) rfl
theorem k_54 : Cond.fieldLink R_Places 22 "NameFall$Places" "nears" "[I" ∈ nz_gd := nz_gm (List.mem_of_getElem? (i := 146) (by decide +kernel)) rfl
theorem k_55 : Cond.fieldLink R_Reader 136 "NameFall$Places" "nears" "[I" ∈ nz_gd := nz_gm (List.mem_of_getElem? (i := 147) (by decide +kernel)) rfl
theorem k_56 : Cond.fieldLink R_Falls 115 "NameFall$Places" "nears" "[I" ∈ nz_gd := nz_gm (List.mem_of_getElem? (i := 148) (by decide +kernel)) rfl
theorem k_57 : Cond.fieldLink R_Places 25 "NameFall$Places" "years" "[I" ∈ nz_gd := nz_gm (List.mem_of_getElem? (i := 149) (by decide +kernel)) rfl
theorem k_58 : Cond.fieldLink R_Reader 139 "NameFall$Places" "years" "[I" ∈ nz_gd := nz_gm (List.mem_of_getElem? (i := 150) (by decide +kernel)) rfl
theorem k_59 : Cond.fieldLink R_Falls 76 "NameFall$Places" "years" "[I" ∈ nz_gd := nz_gm (List.mem_of_getElem? (i := 151) (by decide +kernel)) rfl
theorem k_60 : Cond.fieldLink R_Places 28 "NameFall$Places" "backs" "[I" ∈ nz_gd := nz_gm (List.mem_of_getElem? (i := 152) (by decide +kernel)) rfl
theorem k_61 : Cond.fieldLink R_Reader 142 "NameFall$Places" "backs" "[I" ∈ nz_gd := nz_gm (List.mem_of_getElem? (i := 153) (by decide +kernel)) rfl
theorem k_62 : Cond.fieldLink R_Falls 90 "NameFall$Places" "backs" "[I" ∈ nz_gd := nz_gm (List.mem_of_getElem? (i := 154) (by decide +kernel)) rfl
theorem k_63 : Cond.fieldLink R_Places 31 "NameFall$Places" "rows" "[I" ∈ nz_gd := nz_gm (List.mem_of_getElem? (i := 155) (by decide +kernel)) rfl
theorem k_81 : Cond.arrayClass .byte ∈ nz_gd := nz_gm (List.mem_of_getElem? (i := 173) (by decide +kernel)) rfl
theorem k_82 : Cond.arrayClass .long ∈ nz_gd := nz_gm (List.mem_of_getElem? (i := 174) (by decide +kernel)) rfl
theorem k_83 : Cond.arrayClass .int ∈ nz_gd := nz_gm (List.mem_of_getElem? (i := 175) (by decide +kernel)) rfl
theorem k_84 : Cond.classLink R_Land 18 R_Meanings ∈ nz_gd := nz_gm (List.mem_of_getElem? (i := 176) (by decide +kernel)) rfl
theorem k_85 : Cond.instantiable R_Meanings 6 ∈ nz_gd := nz_gm (List.mem_of_getElem? (i := 177) (by decide +kernel)) rfl
theorem k_87 : Cond.instanceMethod y_Meanings_init ∈ nz_gd := nz_gm (List.mem_of_getElem? (i := 179) (by decide +kernel)) rfl
theorem k_88 : Cond.code y_Meanings_init b_Meanings_init 1 none ∈ nz_gd := nz_gm (List.mem_of_getElem? (i := 180) (by decide +kernel)) rfl
theorem k_89 : Cond.methodLink R_Meanings 3 Lib.objectInit ∈ nz_gd := nz_gm (List.mem_of_getElem? (i := 181) (by decide +kernel)) rfl
theorem k_90 : Cond.fieldLink R_Meanings 25 "NameFall$Meanings" "count" "I" ∈ nz_gd := nz_gm (List.mem_of_getElem? (i := 182) (by decide +kernel)) rfl
theorem k_91 : Cond.fieldLink R_Reader 64 "NameFall$Meanings" "count" "I" ∈ nz_gd := nz_gm (List.mem_of_getElem? (i := 183) (by decide +kernel)) rfl
theorem k_92 : Cond.fieldLink R_Chances 65 "NameFall$Meanings" "count" "I" ∈ nz_gd := nz_gm (List.mem_of_getElem? (i := 184) (by decide +kernel)) rfl
theorem k_93 : Cond.fieldLink R_Speech 67 "NameFall$Meanings" "count" "I" ∈ nz_gd := nz_gm (List.mem_of_getElem? (i := 185) (by decide +kernel)) rfl
theorem k_94 : Cond.fieldLink R_NF 210 "NameFall$Meanings" "count" "I" ∈ nz_gd := nz_gm (List.mem_of_getElem? (i := 186) (by decide +kernel)) rfl
theorem k_95 : Cond.fieldLink R_Meanings 9 "NameFall$Meanings" "names" "[J" ∈ nz_gd := nz_gm (List.mem_of_getElem? (i := 187) (by decide +kernel)) rfl
theorem k_96 : Cond.fieldLink R_Reader 149 "NameFall$Meanings" "names" "[J" ∈ nz_gd := nz_gm (List.mem_of_getElem? (i := 188) (by decide +kernel)) rfl
theorem k_97 : Cond.fieldLink R_Meanings 29 "NameFall$Meanings" "turns" "I" ∈ nz_gd := nz_gm (List.mem_of_getElem? (i := 189) (by decide +kernel)) rfl
theorem k_98 : Cond.fieldLink R_Reader 82 "NameFall$Meanings" "turns" "I" ∈ nz_gd := nz_gm (List.mem_of_getElem? (i := 190) (by decide +kernel)) rfl
theorem k_99 : Cond.fieldLink R_Speech 74 "NameFall$Meanings" "turns" "I" ∈ nz_gd := nz_gm (List.mem_of_getElem? (i := 191) (by decide +kernel)) rfl
theorem k_100 : Cond.fieldLink R_NF 283 "NameFall$Meanings" "turns" "I" ∈ nz_gd := nz_gm (List.mem_of_getElem? (i := 192) (by decide +kernel)) rfl
theorem k_101 : Cond.fieldLink R_Meanings 15 "NameFall$Meanings" "turnOf" "[I" ∈ nz_gd := nz_gm (List.mem_of_getElem? (i := 193) (by decide +kernel)) rfl
theorem k_102 : Cond.fieldLink R_Speech 83 "NameFall$Meanings" "turnOf" "[I" ∈ nz_gd := nz_gm (List.mem_of_getElem? (i := 194) (by decide +kernel)) rfl
theorem k_103 : Cond.fieldLink R_Reader 163 "NameFall$Meanings" "turnOf" "[I" ∈ nz_gd := nz_gm (List.mem_of_getElem? (i := 195) (by decide +kernel)) rfl
theorem k_104 : Cond.fieldLink R_Meanings 19 "NameFall$Meanings" "turnBy" "[I" ∈ nz_gd := nz_gm (List.mem_of_getElem? (i := 196) (by decide +kernel)) rfl
theorem k_105 : Cond.fieldLink R_Speech 77 "NameFall$Meanings" "turnBy" "[I" ∈ nz_gd := nz_gm (List.mem_of_getElem? (i := 197) (by decide +kernel)) rfl
theorem k_106 : Cond.fieldLink R_Reader 166 "NameFall$Meanings" "turnBy" "[I" ∈ nz_gd := nz_gm (List.mem_of_getElem? (i := 198) (by decide +kernel)) rfl
theorem k_107 : Cond.fieldLink R_Meanings 22 "NameFall$Meanings" "turnWith" "[I" ∈ nz_gd := nz_gm (List.mem_of_getElem? (i := 199) (by decide +kernel)) rfl
theorem k_108 : Cond.fieldLink R_Speech 80 "NameFall$Meanings" "turnWith" "[I" ∈ nz_gd := nz_gm (List.mem_of_getElem? (i := 200) (by decide +kernel)) rfl
theorem k_109 : Cond.fieldLink R_Reader 169 "NameFall$Meanings" "turnWith" "[I" ∈ nz_gd := nz_gm (List.mem_of_getElem? (i := 201) (by decide +kernel)) rfl
theorem k_123 : Cond.classLink R_Land 25 R_Words ∈ nz_gd := nz_gm (List.mem_of_getElem? (i := 215) (by decide +kernel)) rfl
theorem k_124 : Cond.instantiable R_Words 3 ∈ nz_gd := nz_gm (List.mem_of_getElem? (i := 216) (by decide +kernel)) rfl
theorem k_126 : Cond.instanceMethod y_Words_init ∈ nz_gd := nz_gm (List.mem_of_getElem? (i := 218) (by decide +kernel)) rfl
theorem k_127 : Cond.code y_Words_init b_Words_init 1 none ∈ nz_gd := nz_gm (List.mem_of_getElem? (i := 219) (by decide +kernel)) rfl
theorem k_128 : Cond.methodLink R_Words 3 Lib.objectInit ∈ nz_gd := nz_gm (List.mem_of_getElem? (i := 220) (by decide +kernel)) rfl
theorem k_129 : Cond.fieldLink R_Words 19 "NameFall$Words" "count" "I" ∈ nz_gd := nz_gm (List.mem_of_getElem? (i := 221) (by decide +kernel)) rfl
theorem k_130 : Cond.fieldLink R_Land 70 "NameFall$Words" "count" "I" ∈ nz_gd := nz_gm (List.mem_of_getElem? (i := 222) (by decide +kernel)) rfl
theorem k_131 : Cond.fieldLink R_Reader 75 "NameFall$Words" "count" "I" ∈ nz_gd := nz_gm (List.mem_of_getElem? (i := 223) (by decide +kernel)) rfl
theorem k_132 : Cond.fieldLink R_NF 241 "NameFall$Words" "count" "I" ∈ nz_gd := nz_gm (List.mem_of_getElem? (i := 224) (by decide +kernel)) rfl
theorem k_133 : Cond.fieldLink R_Words 9 "NameFall$Words" "names" "[J" ∈ nz_gd := nz_gm (List.mem_of_getElem? (i := 225) (by decide +kernel)) rfl
theorem k_134 : Cond.fieldLink R_Land 71 "NameFall$Words" "names" "[J" ∈ nz_gd := nz_gm (List.mem_of_getElem? (i := 226) (by decide +kernel)) rfl
theorem k_135 : Cond.fieldLink R_Reader 150 "NameFall$Words" "names" "[J" ∈ nz_gd := nz_gm (List.mem_of_getElem? (i := 227) (by decide +kernel)) rfl
theorem k_136 : Cond.fieldLink R_NF 145 "NameFall$Words" "names" "[J" ∈ nz_gd := nz_gm (List.mem_of_getElem? (i := 228) (by decide +kernel)) rfl
theorem k_137 : Cond.fieldLink R_Words 15 "NameFall$Words" "sounding" "[I" ∈ nz_gd := nz_gm (List.mem_of_getElem? (i := 229) (by decide +kernel)) rfl
theorem k_138 : Cond.fieldLink R_Land 74 "NameFall$Words" "sounding" "[I" ∈ nz_gd := nz_gm (List.mem_of_getElem? (i := 230) (by decide +kernel)) rfl
theorem k_146 : Cond.classLink R_Land 32 R_Persons ∈ nz_gd := nz_gm (List.mem_of_getElem? (i := 238) (by decide +kernel)) rfl
theorem k_147 : Cond.instantiable R_Persons 11 ∈ nz_gd := nz_gm (List.mem_of_getElem? (i := 239) (by decide +kernel)) rfl
theorem k_149 : Cond.instanceMethod y_Persons_init ∈ nz_gd := nz_gm (List.mem_of_getElem? (i := 241) (by decide +kernel)) rfl
theorem k_150 : Cond.code y_Persons_init b_Persons_init 1 none ∈ nz_gd := nz_gm (List.mem_of_getElem? (i := 242) (by decide +kernel)) rfl
theorem k_151 : Cond.methodLink R_Persons 3 Lib.objectInit ∈ nz_gd := nz_gm (List.mem_of_getElem? (i := 243) (by decide +kernel)) rfl
theorem k_152 : Cond.fieldLink R_Persons 40 "NameFall$Persons" "count" "I" ∈ nz_gd := nz_gm (List.mem_of_getElem? (i := 244) (by decide +kernel)) rfl
theorem k_153 : Cond.fieldLink R_Chances 29 "NameFall$Persons" "count" "I" ∈ nz_gd := nz_gm (List.mem_of_getElem? (i := 245) (by decide +kernel)) rfl
theorem k_154 : Cond.fieldLink R_Falls 56 "NameFall$Persons" "count" "I" ∈ nz_gd := nz_gm (List.mem_of_getElem? (i := 246) (by decide +kernel)) rfl
theorem k_155 : Cond.fieldLink R_Land 55 "NameFall$Persons" "count" "I" ∈ nz_gd := nz_gm (List.mem_of_getElem? (i := 247) (by decide +kernel)) rfl
theorem k_156 : Cond.fieldLink R_Reader 92 "NameFall$Persons" "count" "I" ∈ nz_gd := nz_gm (List.mem_of_getElem? (i := 248) (by decide +kernel)) rfl
theorem k_157 : Cond.fieldLink R_Speech 97 "NameFall$Persons" "count" "I" ∈ nz_gd := nz_gm (List.mem_of_getElem? (i := 249) (by decide +kernel)) rfl
theorem k_158 : Cond.fieldLink R_NF 231 "NameFall$Persons" "count" "I" ∈ nz_gd := nz_gm (List.mem_of_getElem? (i := 250) (by decide +kernel)) rfl
theorem k_159 : Cond.fieldLink R_Persons 44 "NameFall$Persons" "talks" "I" ∈ nz_gd := nz_gm (List.mem_of_getElem? (i := 251) (by decide +kernel)) rfl
theorem k_160 : Cond.fieldLink R_Reader 98 "NameFall$Persons" "talks" "I" ∈ nz_gd := nz_gm (List.mem_of_getElem? (i := 252) (by decide +kernel)) rfl
theorem k_161 : Cond.fieldLink R_NF 286 "NameFall$Persons" "talks" "I" ∈ nz_gd := nz_gm (List.mem_of_getElem? (i := 253) (by decide +kernel)) rfl
theorem k_162 : Cond.fieldLink R_Persons 9 "NameFall$Persons" "names" "[J" ∈ nz_gd := nz_gm (List.mem_of_getElem? (i := 254) (by decide +kernel)) rfl
theorem k_163 : Cond.fieldLink R_Reader 172 "NameFall$Persons" "names" "[J" ∈ nz_gd := nz_gm (List.mem_of_getElem? (i := 255) (by decide +kernel)) rfl
theorem k_164 : Cond.fieldLink R_Persons 15 "NameFall$Persons" "called" "[J" ∈ nz_gd := nz_gm (List.mem_of_getElem? (i := 256) (by decide +kernel)) rfl
theorem k_165 : Cond.fieldLink R_Land 59 "NameFall$Persons" "called" "[J" ∈ nz_gd := nz_gm (List.mem_of_getElem? (i := 257) (by decide +kernel)) rfl
theorem k_166 : Cond.fieldLink R_Falls 93 "NameFall$Persons" "called" "[J" ∈ nz_gd := nz_gm (List.mem_of_getElem? (i := 258) (by decide +kernel)) rfl
theorem k_167 : Cond.fieldLink R_Reader 176 "NameFall$Persons" "called" "[J" ∈ nz_gd := nz_gm (List.mem_of_getElem? (i := 259) (by decide +kernel)) rfl
theorem k_168 : Cond.fieldLink R_NF 151 "NameFall$Persons" "called" "[J" ∈ nz_gd := nz_gm (List.mem_of_getElem? (i := 260) (by decide +kernel)) rfl
theorem k_169 : Cond.fieldLink R_Persons 18 "NameFall$Persons" "homes" "[I" ∈ nz_gd := nz_gm (List.mem_of_getElem? (i := 261) (by decide +kernel)) rfl
theorem k_170 : Cond.fieldLink R_Speech 38 "NameFall$Persons" "homes" "[I" ∈ nz_gd := nz_gm (List.mem_of_getElem? (i := 262) (by decide +kernel)) rfl
theorem k_171 : Cond.fieldLink R_Chances 34 "NameFall$Persons" "homes" "[I" ∈ nz_gd := nz_gm (List.mem_of_getElem? (i := 263) (by decide +kernel)) rfl
theorem k_172 : Cond.fieldLink R_Falls 79 "NameFall$Persons" "homes" "[I" ∈ nz_gd := nz_gm (List.mem_of_getElem? (i := 264) (by decide +kernel)) rfl
theorem k_173 : Cond.fieldLink R_Reader 179 "NameFall$Persons" "homes" "[I" ∈ nz_gd := nz_gm (List.mem_of_getElem? (i := 265) (by decide +kernel)) rfl
theorem k_174 : Cond.fieldLink R_NF 232 "NameFall$Persons" "homes" "[I" ∈ nz_gd := nz_gm (List.mem_of_getElem? (i := 266) (by decide +kernel)) rfl
theorem k_175 : Cond.fieldLink R_Persons 22 "NameFall$Persons" "born" "[I" ∈ nz_gd := nz_gm (List.mem_of_getElem? (i := 267) (by decide +kernel)) rfl
theorem k_176 : Cond.fieldLink R_Falls 73 "NameFall$Persons" "born" "[I" ∈ nz_gd := nz_gm (List.mem_of_getElem? (i := 268) (by decide +kernel)) rfl
theorem k_177 : Cond.fieldLink R_NF 115 "NameFall$Persons" "born" "[I" ∈ nz_gd := nz_gm (List.mem_of_getElem? (i := 269) (by decide +kernel)) rfl
theorem k_178 : Cond.fieldLink R_Reader 182 "NameFall$Persons" "born" "[I" ∈ nz_gd := nz_gm (List.mem_of_getElem? (i := 270) (by decide +kernel)) rfl
theorem k_179 : Cond.fieldLink R_Persons 25 "NameFall$Persons" "parents" "[I" ∈ nz_gd := nz_gm (List.mem_of_getElem? (i := 271) (by decide +kernel)) rfl
theorem k_180 : Cond.fieldLink R_Reader 188 "NameFall$Persons" "parents" "[I" ∈ nz_gd := nz_gm (List.mem_of_getElem? (i := 272) (by decide +kernel)) rfl
theorem k_181 : Cond.fieldLink R_Persons 28 "NameFall$Persons" "forebears" "[I" ∈ nz_gd := nz_gm (List.mem_of_getElem? (i := 273) (by decide +kernel)) rfl
theorem k_182 : Cond.fieldLink R_Falls 97 "NameFall$Persons" "forebears" "[I" ∈ nz_gd := nz_gm (List.mem_of_getElem? (i := 274) (by decide +kernel)) rfl
theorem k_183 : Cond.fieldLink R_Persons 31 "NameFall$Persons" "partners" "[I" ∈ nz_gd := nz_gm (List.mem_of_getElem? (i := 275) (by decide +kernel)) rfl
theorem k_184 : Cond.fieldLink R_Speech 113 "NameFall$Persons" "partners" "[I" ∈ nz_gd := nz_gm (List.mem_of_getElem? (i := 276) (by decide +kernel)) rfl
theorem k_185 : Cond.fieldLink R_Reader 194 "NameFall$Persons" "partners" "[I" ∈ nz_gd := nz_gm (List.mem_of_getElem? (i := 277) (by decide +kernel)) rfl
theorem k_186 : Cond.fieldLink R_Persons 34 "NameFall$Persons" "sounding" "[I" ∈ nz_gd := nz_gm (List.mem_of_getElem? (i := 278) (by decide +kernel)) rfl
theorem k_187 : Cond.fieldLink R_Land 63 "NameFall$Persons" "sounding" "[I" ∈ nz_gd := nz_gm (List.mem_of_getElem? (i := 279) (by decide +kernel)) rfl
theorem k_188 : Cond.fieldLink R_Persons 37 "NameFall$Persons" "steps" "[I" ∈ nz_gd := nz_gm (List.mem_of_getElem? (i := 280) (by decide +kernel)) rfl
theorem k_212 : Cond.fieldLink R_Land 12 "NameFall$Land" "places" "LNameFall$Places;" ∈ nz_gd := nz_gm (List.mem_of_getElem? (i := 304) (by decide +kernel)) rfl
theorem k_213 : Cond.fieldLink R_Speech 28 "NameFall$Land" "places" "LNameFall$Places;" ∈ nz_gd := nz_gm (List.mem_of_getElem? (i := 305) (by decide +kernel)) rfl
theorem k_214 : Cond.fieldLink R_Falls 34 "NameFall$Land" "places" "LNameFall$Places;" ∈ nz_gd := nz_gm (List.mem_of_getElem? (i := 306) (by decide +kernel)) rfl
theorem k_215 : Cond.fieldLink R_Reader 43 "NameFall$Land" "places" "LNameFall$Places;" ∈ nz_gd := nz_gm (List.mem_of_getElem? (i := 307) (by decide +kernel)) rfl
theorem k_216 : Cond.fieldLink R_Chances 68 "NameFall$Land" "places" "LNameFall$Places;" ∈ nz_gd := nz_gm (List.mem_of_getElem? (i := 308) (by decide +kernel)) rfl
theorem k_217 : Cond.fieldLink R_NF 193 "NameFall$Land" "places" "LNameFall$Places;" ∈ nz_gd := nz_gm (List.mem_of_getElem? (i := 309) (by decide +kernel)) rfl
theorem k_218 : Cond.fieldLink R_Land 21 "NameFall$Land" "meanings" "LNameFall$Meanings;" ∈ nz_gd := nz_gm (List.mem_of_getElem? (i := 310) (by decide +kernel)) rfl
theorem k_219 : Cond.fieldLink R_Reader 60 "NameFall$Land" "meanings" "LNameFall$Meanings;" ∈ nz_gd := nz_gm (List.mem_of_getElem? (i := 311) (by decide +kernel)) rfl
theorem k_220 : Cond.fieldLink R_Chances 61 "NameFall$Land" "meanings" "LNameFall$Meanings;" ∈ nz_gd := nz_gm (List.mem_of_getElem? (i := 312) (by decide +kernel)) rfl
theorem k_221 : Cond.fieldLink R_Speech 63 "NameFall$Land" "meanings" "LNameFall$Meanings;" ∈ nz_gd := nz_gm (List.mem_of_getElem? (i := 313) (by decide +kernel)) rfl
theorem k_222 : Cond.fieldLink R_NF 206 "NameFall$Land" "meanings" "LNameFall$Meanings;" ∈ nz_gd := nz_gm (List.mem_of_getElem? (i := 314) (by decide +kernel)) rfl
theorem k_223 : Cond.fieldLink R_Land 28 "NameFall$Land" "words" "LNameFall$Words;" ∈ nz_gd := nz_gm (List.mem_of_getElem? (i := 315) (by decide +kernel)) rfl
theorem k_224 : Cond.fieldLink R_Reader 71 "NameFall$Land" "words" "LNameFall$Words;" ∈ nz_gd := nz_gm (List.mem_of_getElem? (i := 316) (by decide +kernel)) rfl
theorem k_225 : Cond.fieldLink R_NF 141 "NameFall$Land" "words" "LNameFall$Words;" ∈ nz_gd := nz_gm (List.mem_of_getElem? (i := 317) (by decide +kernel)) rfl
theorem k_226 : Cond.fieldLink R_Land 35 "NameFall$Land" "persons" "LNameFall$Persons;" ∈ nz_gd := nz_gm (List.mem_of_getElem? (i := 318) (by decide +kernel)) rfl
theorem k_227 : Cond.fieldLink R_Speech 34 "NameFall$Land" "persons" "LNameFall$Persons;" ∈ nz_gd := nz_gm (List.mem_of_getElem? (i := 319) (by decide +kernel)) rfl
theorem k_228 : Cond.fieldLink R_Chances 23 "NameFall$Land" "persons" "LNameFall$Persons;" ∈ nz_gd := nz_gm (List.mem_of_getElem? (i := 320) (by decide +kernel)) rfl
theorem k_229 : Cond.fieldLink R_Falls 52 "NameFall$Land" "persons" "LNameFall$Persons;" ∈ nz_gd := nz_gm (List.mem_of_getElem? (i := 321) (by decide +kernel)) rfl
theorem k_230 : Cond.fieldLink R_Reader 88 "NameFall$Land" "persons" "LNameFall$Persons;" ∈ nz_gd := nz_gm (List.mem_of_getElem? (i := 322) (by decide +kernel)) rfl
theorem k_231 : Cond.fieldLink R_NF 111 "NameFall$Land" "persons" "LNameFall$Persons;" ∈ nz_gd := nz_gm (List.mem_of_getElem? (i := 323) (by decide +kernel)) rfl
theorem k_232 : Cond.fieldLink R_Land 39 "NameFall$Land" "changed" "[I" ∈ nz_gd := nz_gm (List.mem_of_getElem? (i := 324) (by decide +kernel)) rfl
theorem k_244 : Cond.classLink R_NF 12 R_Falls ∈ nz_gd := nz_gm (List.mem_of_getElem? (i := 336) (by decide +kernel)) rfl
theorem k_245 : Cond.instantiable R_Falls 7 ∈ nz_gd := nz_gm (List.mem_of_getElem? (i := 337) (by decide +kernel)) rfl
theorem k_246 : Cond.methodLink R_NF 14 y_Falls_init ∈ nz_gd := nz_gm (List.mem_of_getElem? (i := 338) (by decide +kernel)) rfl
theorem k_247 : Cond.instanceMethod y_Falls_init ∈ nz_gd := nz_gm (List.mem_of_getElem? (i := 339) (by decide +kernel)) rfl
theorem k_248 : Cond.code y_Falls_init b_Falls_init 2 none ∈ nz_gd := nz_gm (List.mem_of_getElem? (i := 340) (by decide +kernel)) rfl
theorem k_249 : Cond.methodLink R_Falls 3 Lib.objectInit ∈ nz_gd := nz_gm (List.mem_of_getElem? (i := 341) (by decide +kernel)) rfl
theorem k_250 : Cond.fieldLink R_Falls 24 "NameFall$Falls" "land" "LNameFall$Land;" ∈ nz_gd := nz_gm (List.mem_of_getElem? (i := 342) (by decide +kernel)) rfl
theorem k_251 : Cond.fieldLink R_Falls 67 "NameFall$Falls" "year" "I" ∈ nz_gd := nz_gm (List.mem_of_getElem? (i := 343) (by decide +kernel)) rfl
theorem k_252 : Cond.fieldLink R_Falls 70 "NameFall$Falls" "standing" "I" ∈ nz_gd := nz_gm (List.mem_of_getElem? (i := 344) (by decide +kernel)) rfl
theorem k_253 : Cond.fieldLink R_Falls 9 "NameFall$Falls" "died" "[I" ∈ nz_gd := nz_gm (List.mem_of_getElem? (i := 345) (by decide +kernel)) rfl
theorem k_254 : Cond.fieldLink R_Falls 15 "NameFall$Falls" "over" "[I" ∈ nz_gd := nz_gm (List.mem_of_getElem? (i := 346) (by decide +kernel)) rfl
theorem k_255 : Cond.fieldLink R_Falls 18 "NameFall$Falls" "kinds" "[I" ∈ nz_gd := nz_gm (List.mem_of_getElem? (i := 347) (by decide +kernel)) rfl
theorem k_256 : Cond.fieldLink R_Falls 21 "NameFall$Falls" "alikes" "[I" ∈ nz_gd := nz_gm (List.mem_of_getElem? (i := 348) (by decide +kernel)) rfl
theorem k_272 : Cond.classLink R_NF 28 R_Reader ∈ nz_gd := nz_gm (List.mem_of_getElem? (i := 364) (by decide +kernel)) rfl
theorem k_273 : Cond.instantiable R_Reader 5 ∈ nz_gd := nz_gm (List.mem_of_getElem? (i := 365) (by decide +kernel)) rfl
theorem k_274 : Cond.classLink R_NF 30 R_Scanner ∈ nz_gd := nz_gm (List.mem_of_getElem? (i := 366) (by decide +kernel)) rfl
theorem k_275 : Cond.instantiable R_Scanner 9 ∈ nz_gd := nz_gm (List.mem_of_getElem? (i := 367) (by decide +kernel)) rfl
theorem k_276 : Cond.methodLink R_NF 32 y_Scanner_init ∈ nz_gd := nz_gm (List.mem_of_getElem? (i := 368) (by decide +kernel)) rfl
theorem k_277 : Cond.instanceMethod y_Scanner_init ∈ nz_gd := nz_gm (List.mem_of_getElem? (i := 369) (by decide +kernel)) rfl
theorem k_278 : Cond.code y_Scanner_init b_Scanner_init 5 none ∈ nz_gd := nz_gm (List.mem_of_getElem? (i := 370) (by decide +kernel)) rfl
theorem k_279 : Cond.methodLink R_Scanner 3 Lib.objectInit ∈ nz_gd := nz_gm (List.mem_of_getElem? (i := 371) (by decide +kernel)) rfl
theorem k_281 : Cond.methodLink R_Scanner 21 y_Str_length ∈ nz_gd := nz_gm (List.mem_of_getElem? (i := 373) (by decide +kernel)) rfl
theorem k_282 : Cond.instanceMethod y_Str_length ∈ nz_gd := nz_gm (List.mem_of_getElem? (i := 374) (by decide +kernel)) rfl
theorem k_283 : Cond.selects R_Str y_Str_length y_Str_length ∈ nz_gd := nz_gm (List.mem_of_getElem? (i := 375) (by decide +kernel)) rfl
theorem k_284 : Cond.code y_Str_length b_Str_length 1 (some .int) ∈ nz_gd := nz_gm (List.mem_of_getElem? (i := 376) (by decide +kernel)) rfl
theorem k_285 : Cond.methodLink R_Str 335 y_Str_coder ∈ nz_gd := nz_gm (List.mem_of_getElem? (i := 377) (by decide +kernel)) rfl
theorem k_286 : Cond.instanceMethod y_Str_coder ∈ nz_gd := nz_gm (List.mem_of_getElem? (i := 378) (by decide +kernel)) rfl
theorem k_287 : Cond.selects R_Str y_Str_coder y_Str_coder ∈ nz_gd := nz_gm (List.mem_of_getElem? (i := 379) (by decide +kernel)) rfl
theorem k_288 : Cond.code y_Str_coder b_Str_coder 1 (some .byte) ∈ nz_gd := nz_gm (List.mem_of_getElem? (i := 380) (by decide +kernel)) rfl
theorem k_289 : Cond.fieldLink R_Str 38 "java/lang/String" "COMPACT_STRINGS" "Z" ∈ nz_gd := nz_gm (List.mem_of_getElem? (i := 381) (by decide +kernel)) rfl
theorem k_291 : Cond.methodLink R_Scanner 27 y_Str_charAt ∈ nz_gd := nz_gm (List.mem_of_getElem? (i := 383) (by decide +kernel)) rfl
theorem k_292 : Cond.instanceMethod y_Str_charAt ∈ nz_gd := nz_gm (List.mem_of_getElem? (i := 384) (by decide +kernel)) rfl
theorem k_293 : Cond.selects R_Str y_Str_charAt y_Str_charAt ∈ nz_gd := nz_gm (List.mem_of_getElem? (i := 385) (by decide +kernel)) rfl
theorem k_294 : Cond.code y_Str_charAt b_Str_charAt 2 (some .char) ∈ nz_gd := nz_gm (List.mem_of_getElem? (i := 386) (by decide +kernel)) rfl
theorem k_295 : Cond.methodLink R_Str 492 y_Str_isLatin1 ∈ nz_gd := nz_gm (List.mem_of_getElem? (i := 387) (by decide +kernel)) rfl
theorem k_296 : Cond.instanceMethod y_Str_isLatin1 ∈ nz_gd := nz_gm (List.mem_of_getElem? (i := 388) (by decide +kernel)) rfl
theorem k_297 : Cond.selects R_Str y_Str_isLatin1 y_Str_isLatin1 ∈ nz_gd := nz_gm (List.mem_of_getElem? (i := 389) (by decide +kernel)) rfl
theorem k_298 : Cond.code y_Str_isLatin1 b_Str_isLatin1 1 (some .boolean) ∈ nz_gd := nz_gm (List.mem_of_getElem? (i := 390) (by decide +kernel)) rfl
theorem k_299 : Cond.methodLink R_Str 495 y_Lat_charAt ∈ nz_gd := nz_gm (List.mem_of_getElem? (i := 391) (by decide +kernel)) rfl
theorem k_300 : Cond.static y_Lat_charAt ∈ nz_gd := nz_gm (List.mem_of_getElem? (i := 392) (by decide +kernel)) rfl
theorem k_301 : Cond.code y_Lat_charAt b_Lat_charAt 2 (some .char) ∈ nz_gd := nz_gm (List.mem_of_getElem? (i := 393) (by decide +kernel)) rfl
theorem k_302 : Cond.methodLink R_Lat 9 y_Str_checkIndex ∈ nz_gd := nz_gm (List.mem_of_getElem? (i := 394) (by decide +kernel)) rfl
theorem k_303 : Cond.static y_Str_checkIndex ∈ nz_gd := nz_gm (List.mem_of_getElem? (i := 395) (by decide +kernel)) rfl
theorem k_304 : Cond.code y_Str_checkIndex b_Str_checkIndex 2 none ∈ nz_gd := nz_gm (List.mem_of_getElem? (i := 396) (by decide +kernel)) rfl
theorem k_305 : Cond.fieldLink R_Str 1053 "jdk/internal/util/Preconditions" "SIOOBE_FORMATTER" "Ljava/util/function/BiFunction;" ∈ nz_gd := nz_gm (List.mem_of_getElem? (i := 397) (by decide +kernel)) rfl
theorem k_307 : Cond.methodLink R_Str 1059 y_Pre_checkIndex ∈ nz_gd := nz_gm (List.mem_of_getElem? (i := 399) (by decide +kernel)) rfl
theorem k_308 : Cond.static y_Pre_checkIndex ∈ nz_gd := nz_gm (List.mem_of_getElem? (i := 400) (by decide +kernel)) rfl
theorem k_309 : Cond.code y_Pre_checkIndex b_Pre_checkIndex 3 (some .int) ∈ nz_gd := nz_gm (List.mem_of_getElem? (i := 401) (by decide +kernel)) rfl
theorem k_329 : Cond.methodLink R_Scanner 31 y_Scanner_letterCode ∈ nz_gd := nz_gm (List.mem_of_getElem? (i := 421) (by decide +kernel)) rfl
theorem k_330 : Cond.static y_Scanner_letterCode ∈ nz_gd := nz_gm (List.mem_of_getElem? (i := 422) (by decide +kernel)) rfl
theorem k_331 : Cond.code y_Scanner_letterCode b_Scanner_letterCode 2 (some .long) ∈ nz_gd := nz_gm (List.mem_of_getElem? (i := 423) (by decide +kernel)) rfl
theorem k_332 : Cond.fieldLink R_Reader 33 "NameFall$Scanner" "kind" "I" ∈ nz_gd := nz_gm (List.mem_of_getElem? (i := 424) (by decide +kernel)) rfl
theorem k_333 : Cond.fieldLink R_Scanner 60 "NameFall$Scanner" "kind" "I" ∈ nz_gd := nz_gm (List.mem_of_getElem? (i := 425) (by decide +kernel)) rfl
theorem k_334 : Cond.fieldLink R_Scanner 57 "NameFall$Scanner" "place" "I" ∈ nz_gd := nz_gm (List.mem_of_getElem? (i := 426) (by decide +kernel)) rfl
theorem k_335 : Cond.fieldLink R_Reader 208 "NameFall$Scanner" "place" "I" ∈ nz_gd := nz_gm (List.mem_of_getElem? (i := 427) (by decide +kernel)) rfl
theorem k_336 : Cond.fieldLink R_Scanner 76 "NameFall$Scanner" "name" "J" ∈ nz_gd := nz_gm (List.mem_of_getElem? (i := 428) (by decide +kernel)) rfl
theorem k_337 : Cond.fieldLink R_Reader 200 "NameFall$Scanner" "name" "J" ∈ nz_gd := nz_gm (List.mem_of_getElem? (i := 429) (by decide +kernel)) rfl
theorem k_338 : Cond.fieldLink R_Reader 40 "NameFall$Scanner" "keyword" "I" ∈ nz_gd := nz_gm (List.mem_of_getElem? (i := 430) (by decide +kernel)) rfl
theorem k_339 : Cond.fieldLink R_Scanner 84 "NameFall$Scanner" "keyword" "I" ∈ nz_gd := nz_gm (List.mem_of_getElem? (i := 431) (by decide +kernel)) rfl
theorem k_340 : Cond.fieldLink R_Scanner 87 "NameFall$Scanner" "number" "I" ∈ nz_gd := nz_gm (List.mem_of_getElem? (i := 432) (by decide +kernel)) rfl
theorem k_341 : Cond.fieldLink R_Reader 197 "NameFall$Scanner" "number" "I" ∈ nz_gd := nz_gm (List.mem_of_getElem? (i := 433) (by decide +kernel)) rfl
theorem k_342 : Cond.fieldLink R_Scanner 9 "NameFall$Scanner" "text" "[B" ∈ nz_gd := nz_gm (List.mem_of_getElem? (i := 434) (by decide +kernel)) rfl
theorem k_343 : Cond.fieldLink R_Scanner 15 "NameFall$Scanner" "keywords" "[J" ∈ nz_gd := nz_gm (List.mem_of_getElem? (i := 435) (by decide +kernel)) rfl
theorem k_344 : Cond.fieldLink R_Scanner 44 "NameFall$Scanner" "length" "I" ∈ nz_gd := nz_gm (List.mem_of_getElem? (i := 436) (by decide +kernel)) rfl
theorem k_345 : Cond.fieldLink R_Scanner 47 "NameFall$Scanner" "at" "I" ∈ nz_gd := nz_gm (List.mem_of_getElem? (i := 437) (by decide +kernel)) rfl
theorem k_365 : Cond.methodLink R_NF 35 y_Reader_init ∈ nz_gd := nz_gm (List.mem_of_getElem? (i := 457) (by decide +kernel)) rfl
theorem k_366 : Cond.instanceMethod y_Reader_init ∈ nz_gd := nz_gm (List.mem_of_getElem? (i := 458) (by decide +kernel)) rfl
theorem k_367 : Cond.code y_Reader_init b_Reader_init 2 none ∈ nz_gd := nz_gm (List.mem_of_getElem? (i := 459) (by decide +kernel)) rfl
theorem k_368 : Cond.methodLink R_Reader 3 Lib.objectInit ∈ nz_gd := nz_gm (List.mem_of_getElem? (i := 460) (by decide +kernel)) rfl
theorem k_369 : Cond.fieldLink R_Reader 19 "NameFall$Reader" "fault" "I" ∈ nz_gd := nz_gm (List.mem_of_getElem? (i := 461) (by decide +kernel)) rfl
theorem k_370 : Cond.fieldLink R_NF 92 "NameFall$Reader" "fault" "I" ∈ nz_gd := nz_gm (List.mem_of_getElem? (i := 462) (by decide +kernel)) rfl
theorem k_371 : Cond.fieldLink R_Reader 15 "NameFall$Reader" "faultPlace" "I" ∈ nz_gd := nz_gm (List.mem_of_getElem? (i := 463) (by decide +kernel)) rfl
theorem k_372 : Cond.fieldLink R_NF 101 "NameFall$Reader" "faultPlace" "I" ∈ nz_gd := nz_gm (List.mem_of_getElem? (i := 464) (by decide +kernel)) rfl
theorem k_373 : Cond.fieldLink R_Reader 9 "NameFall$Reader" "scanner" "LNameFall$Scanner;" ∈ nz_gd := nz_gm (List.mem_of_getElem? (i := 465) (by decide +kernel)) rfl
theorem k_374 : Cond.fieldLink R_Reader 113 "NameFall$Reader" "name" "J" ∈ nz_gd := nz_gm (List.mem_of_getElem? (i := 466) (by decide +kernel)) rfl
theorem k_375 : Cond.fieldLink R_Reader 127 "NameFall$Reader" "value" "I" ∈ nz_gd := nz_gm (List.mem_of_getElem? (i := 467) (by decide +kernel)) rfl
theorem k_387 : Cond.classLink R_NF 42 R_Deaths ∈ nz_gd := nz_gm (List.mem_of_getElem? (i := 479) (by decide +kernel)) rfl
theorem k_388 : Cond.instantiable R_Deaths 6 ∈ nz_gd := nz_gm (List.mem_of_getElem? (i := 480) (by decide +kernel)) rfl
theorem k_390 : Cond.instanceMethod y_Deaths_init ∈ nz_gd := nz_gm (List.mem_of_getElem? (i := 482) (by decide +kernel)) rfl
theorem k_391 : Cond.code y_Deaths_init b_Deaths_init 1 none ∈ nz_gd := nz_gm (List.mem_of_getElem? (i := 483) (by decide +kernel)) rfl
theorem k_392 : Cond.methodLink R_Deaths 3 Lib.objectInit ∈ nz_gd := nz_gm (List.mem_of_getElem? (i := 484) (by decide +kernel)) rfl
theorem k_393 : Cond.fieldLink R_Deaths 24 "NameFall$Deaths" "count" "I" ∈ nz_gd := nz_gm (List.mem_of_getElem? (i := 485) (by decide +kernel)) rfl
theorem k_394 : Cond.fieldLink R_NF 289 "NameFall$Deaths" "count" "I" ∈ nz_gd := nz_gm (List.mem_of_getElem? (i := 486) (by decide +kernel)) rfl
theorem k_395 : Cond.fieldLink R_Deaths 28 "NameFall$Deaths" "time" "I" ∈ nz_gd := nz_gm (List.mem_of_getElem? (i := 487) (by decide +kernel)) rfl
theorem k_396 : Cond.fieldLink R_NF 290 "NameFall$Deaths" "time" "I" ∈ nz_gd := nz_gm (List.mem_of_getElem? (i := 488) (by decide +kernel)) rfl
theorem k_397 : Cond.fieldLink R_Deaths 9 "NameFall$Deaths" "persons" "[I" ∈ nz_gd := nz_gm (List.mem_of_getElem? (i := 489) (by decide +kernel)) rfl
theorem k_398 : Cond.fieldLink R_Deaths 15 "NameFall$Deaths" "years" "[I" ∈ nz_gd := nz_gm (List.mem_of_getElem? (i := 490) (by decide +kernel)) rfl
theorem k_399 : Cond.fieldLink R_Deaths 18 "NameFall$Deaths" "toldAt" "[I" ∈ nz_gd := nz_gm (List.mem_of_getElem? (i := 491) (by decide +kernel)) rfl
theorem k_400 : Cond.fieldLink R_Deaths 21 "NameFall$Deaths" "untoldAt" "[I" ∈ nz_gd := nz_gm (List.mem_of_getElem? (i := 492) (by decide +kernel)) rfl
theorem k_414 : Cond.classLink R_NF 53 R_Speech ∈ nz_gd := nz_gm (List.mem_of_getElem? (i := 506) (by decide +kernel)) rfl
theorem k_415 : Cond.instantiable R_Speech 5 ∈ nz_gd := nz_gm (List.mem_of_getElem? (i := 507) (by decide +kernel)) rfl
theorem k_416 : Cond.methodLink R_NF 55 y_Speech_init ∈ nz_gd := nz_gm (List.mem_of_getElem? (i := 508) (by decide +kernel)) rfl
theorem k_417 : Cond.instanceMethod y_Speech_init ∈ nz_gd := nz_gm (List.mem_of_getElem? (i := 509) (by decide +kernel)) rfl
theorem k_418 : Cond.code y_Speech_init b_Speech_init 2 none ∈ nz_gd := nz_gm (List.mem_of_getElem? (i := 510) (by decide +kernel)) rfl
theorem k_419 : Cond.methodLink R_Speech 3 Lib.objectInit ∈ nz_gd := nz_gm (List.mem_of_getElem? (i := 511) (by decide +kernel)) rfl
theorem k_420 : Cond.fieldLink R_Speech 24 "NameFall$Speech" "falls" "LNameFall$Falls;" ∈ nz_gd := nz_gm (List.mem_of_getElem? (i := 512) (by decide +kernel)) rfl
theorem k_421 : Cond.fieldLink R_Speech 9 "NameFall$Speech" "costs" "[I" ∈ nz_gd := nz_gm (List.mem_of_getElem? (i := 513) (by decide +kernel)) rfl
theorem k_422 : Cond.fieldLink R_Speech 15 "NameFall$Speech" "queue" "[I" ∈ nz_gd := nz_gm (List.mem_of_getElem? (i := 514) (by decide +kernel)) rfl
theorem k_423 : Cond.fieldLink R_Speech 18 "NameFall$Speech" "toldBy" "[I" ∈ nz_gd := nz_gm (List.mem_of_getElem? (i := 515) (by decide +kernel)) rfl
theorem k_424 : Cond.fieldLink R_Speech 21 "NameFall$Speech" "way" "[I" ∈ nz_gd := nz_gm (List.mem_of_getElem? (i := 516) (by decide +kernel)) rfl
theorem k_436 : Cond.classLink R_NF 62 R_Chances ∈ nz_gd := nz_gm (List.mem_of_getElem? (i := 528) (by decide +kernel)) rfl
theorem k_437 : Cond.instantiable R_Chances 5 ∈ nz_gd := nz_gm (List.mem_of_getElem? (i := 529) (by decide +kernel)) rfl
theorem k_439 : Cond.instanceMethod y_Chances_init ∈ nz_gd := nz_gm (List.mem_of_getElem? (i := 531) (by decide +kernel)) rfl
theorem k_440 : Cond.code y_Chances_init b_Chances_init 1 none ∈ nz_gd := nz_gm (List.mem_of_getElem? (i := 532) (by decide +kernel)) rfl
theorem k_441 : Cond.methodLink R_Chances 3 Lib.objectInit ∈ nz_gd := nz_gm (List.mem_of_getElem? (i := 533) (by decide +kernel)) rfl
theorem k_442 : Cond.fieldLink R_Chances 85 "NameFall$Chances" "upper" "J" ∈ nz_gd := nz_gm (List.mem_of_getElem? (i := 534) (by decide +kernel)) rfl
theorem k_443 : Cond.fieldLink R_NF 257 "NameFall$Chances" "upper" "J" ∈ nz_gd := nz_gm (List.mem_of_getElem? (i := 535) (by decide +kernel)) rfl
theorem k_444 : Cond.fieldLink R_Chances 89 "NameFall$Chances" "lower" "J" ∈ nz_gd := nz_gm (List.mem_of_getElem? (i := 536) (by decide +kernel)) rfl
theorem k_445 : Cond.fieldLink R_NF 261 "NameFall$Chances" "lower" "J" ∈ nz_gd := nz_gm (List.mem_of_getElem? (i := 537) (by decide +kernel)) rfl
theorem k_446 : Cond.fieldLink R_Chances 19 "NameFall$Chances" "mortals" "I" ∈ nz_gd := nz_gm (List.mem_of_getElem? (i := 538) (by decide +kernel)) rfl
theorem k_447 : Cond.fieldLink R_Chances 9 "NameFall$Chances" "heldByEach" "[I" ∈ nz_gd := nz_gm (List.mem_of_getElem? (i := 539) (by decide +kernel)) rfl
theorem k_448 : Cond.fieldLink R_Chances 15 "NameFall$Chances" "todays" "[J" ∈ nz_gd := nz_gm (List.mem_of_getElem? (i := 540) (by decide +kernel)) rfl
theorem k_460 : Cond.fieldLink R_NF 17 "NameFall" "tape" "[B" ∈ nz_gd := nz_gm (List.mem_of_getElem? (i := 552) (by decide +kernel)) rfl
theorem k_461 : Cond.fieldLink R_NF 76 "NameFall" "taped" "I" ∈ nz_gd := nz_gm (List.mem_of_getElem? (i := 553) (by decide +kernel)) rfl
theorem k_462 : Cond.fieldLink R_NF 21 "NameFall" "current" "LNameFall$Land;" ∈ nz_gd := nz_gm (List.mem_of_getElem? (i := 554) (by decide +kernel)) rfl
theorem k_463 : Cond.fieldLink R_NF 25 "NameFall" "draft" "LNameFall$Land;" ∈ nz_gd := nz_gm (List.mem_of_getElem? (i := 555) (by decide +kernel)) rfl
theorem k_464 : Cond.fieldLink R_NF 38 "NameFall" "reader" "LNameFall$Reader;" ∈ nz_gd := nz_gm (List.mem_of_getElem? (i := 556) (by decide +kernel)) rfl
theorem k_465 : Cond.fieldLink R_NF 45 "NameFall" "deaths" "LNameFall$Deaths;" ∈ nz_gd := nz_gm (List.mem_of_getElem? (i := 557) (by decide +kernel)) rfl
theorem k_466 : Cond.fieldLink R_NF 49 "NameFall" "falls" "LNameFall$Falls;" ∈ nz_gd := nz_gm (List.mem_of_getElem? (i := 558) (by decide +kernel)) rfl
theorem k_467 : Cond.fieldLink R_NF 58 "NameFall" "speech" "LNameFall$Speech;" ∈ nz_gd := nz_gm (List.mem_of_getElem? (i := 559) (by decide +kernel)) rfl
theorem k_468 : Cond.fieldLink R_NF 65 "NameFall" "chances" "LNameFall$Chances;" ∈ nz_gd := nz_gm (List.mem_of_getElem? (i := 560) (by decide +kernel)) rfl
theorem k_469 : Cond.fieldLink R_NF 69 "NameFall" "latest" "[I" ∈ nz_gd := nz_gm (List.mem_of_getElem? (i := 561) (by decide +kernel)) rfl
theorem k_470 : Cond.fieldLink R_NF 73 "NameFall" "turned" "[I" ∈ nz_gd := nz_gm (List.mem_of_getElem? (i := 562) (by decide +kernel)) rfl
theorem k_494 : Cond.methodLink R_law 13 y_NF_feed ∈ nz_gd := nz_gm (List.mem_of_getElem? (i := 586) (by decide +kernel)) rfl
theorem k_495 : Cond.instanceMethod y_NF_feed ∈ nz_gd := nz_gm (List.mem_of_getElem? (i := 587) (by decide +kernel)) rfl
theorem k_496 : Cond.selects R_NF y_NF_feed y_NF_feed ∈ nz_gd := nz_gm (List.mem_of_getElem? (i := 588) (by decide +kernel)) rfl
theorem k_497 : Cond.code y_NF_feed b_NF_feed 6 (some .int) ∈ nz_gd := nz_gm (List.mem_of_getElem? (i := 589) (by decide +kernel)) rfl
theorem k_498 : Cond.methodLink R_NF 80 y_NF_putBytes ∈ nz_gd := nz_gm (List.mem_of_getElem? (i := 590) (by decide +kernel)) rfl
theorem k_500 : Cond.instanceMethod y_NF_putBytes ∈ nz_gd := nz_gm (List.mem_of_getElem? (i := 592) (by decide +kernel)) rfl
theorem k_501 : Cond.code y_NF_putBytes b_NF_putBytes 3 none ∈ nz_gd := nz_gm (List.mem_of_getElem? (i := 593) (by decide +kernel)) rfl
theorem k_502 : Cond.methodLink R_law 18 y_NF_end ∈ nz_gd := nz_gm (List.mem_of_getElem? (i := 594) (by decide +kernel)) rfl
theorem k_503 : Cond.instanceMethod y_NF_end ∈ nz_gd := nz_gm (List.mem_of_getElem? (i := 595) (by decide +kernel)) rfl
theorem k_504 : Cond.selects R_NF y_NF_end y_NF_end ∈ nz_gd := nz_gm (List.mem_of_getElem? (i := 596) (by decide +kernel)) rfl
theorem k_505 : Cond.code y_NF_end b_NF_end 2 (some .int) ∈ nz_gd := nz_gm (List.mem_of_getElem? (i := 597) (by decide +kernel)) rfl
theorem k_506 : Cond.methodLink R_law 23 y_NF_land ∈ nz_gd := nz_gm (List.mem_of_getElem? (i := 598) (by decide +kernel)) rfl
theorem k_507 : Cond.instanceMethod y_NF_land ∈ nz_gd := nz_gm (List.mem_of_getElem? (i := 599) (by decide +kernel)) rfl
theorem k_508 : Cond.selects R_NF y_NF_land y_NF_land ∈ nz_gd := nz_gm (List.mem_of_getElem? (i := 600) (by decide +kernel)) rfl
theorem k_509 : Cond.code y_NF_land b_NF_land 3 (some .int) ∈ nz_gd := nz_gm (List.mem_of_getElem? (i := 601) (by decide +kernel)) rfl
theorem k_510 : Cond.methodLink R_NF 84 y_Reader_begin ∈ nz_gd := nz_gm (List.mem_of_getElem? (i := 602) (by decide +kernel)) rfl
theorem k_511 : Cond.instanceMethod y_Reader_begin ∈ nz_gd := nz_gm (List.mem_of_getElem? (i := 603) (by decide +kernel)) rfl
theorem k_512 : Cond.selects R_Reader y_Reader_begin y_Reader_begin ∈ nz_gd := nz_gm (List.mem_of_getElem? (i := 604) (by decide +kernel)) rfl
theorem k_513 : Cond.code y_Reader_begin b_Reader_begin 3 none ∈ nz_gd := nz_gm (List.mem_of_getElem? (i := 605) (by decide +kernel)) rfl
theorem k_514 : Cond.methodLink R_Reader 22 y_Land_clear ∈ nz_gd := nz_gm (List.mem_of_getElem? (i := 606) (by decide +kernel)) rfl
theorem k_515 : Cond.instanceMethod y_Land_clear ∈ nz_gd := nz_gm (List.mem_of_getElem? (i := 607) (by decide +kernel)) rfl
theorem k_516 : Cond.selects R_Land y_Land_clear y_Land_clear ∈ nz_gd := nz_gm (List.mem_of_getElem? (i := 608) (by decide +kernel)) rfl
theorem k_517 : Cond.code y_Land_clear b_Land_clear 1 none ∈ nz_gd := nz_gm (List.mem_of_getElem? (i := 609) (by decide +kernel)) rfl
theorem k_518 : Cond.methodLink R_Land 43 y_Places_clear ∈ nz_gd := nz_gm (List.mem_of_getElem? (i := 610) (by decide +kernel)) rfl
theorem k_519 : Cond.instanceMethod y_Places_clear ∈ nz_gd := nz_gm (List.mem_of_getElem? (i := 611) (by decide +kernel)) rfl
theorem k_520 : Cond.selects R_Places y_Places_clear y_Places_clear ∈ nz_gd := nz_gm (List.mem_of_getElem? (i := 612) (by decide +kernel)) rfl
theorem k_521 : Cond.code y_Places_clear b_Places_clear 2 none ∈ nz_gd := nz_gm (List.mem_of_getElem? (i := 613) (by decide +kernel)) rfl
theorem k_522 : Cond.methodLink R_Land 46 y_Meanings_clear ∈ nz_gd := nz_gm (List.mem_of_getElem? (i := 614) (by decide +kernel)) rfl
theorem k_523 : Cond.instanceMethod y_Meanings_clear ∈ nz_gd := nz_gm (List.mem_of_getElem? (i := 615) (by decide +kernel)) rfl
theorem k_524 : Cond.selects R_Meanings y_Meanings_clear y_Meanings_clear ∈ nz_gd := nz_gm (List.mem_of_getElem? (i := 616) (by decide +kernel)) rfl
theorem k_525 : Cond.code y_Meanings_clear b_Meanings_clear 1 none ∈ nz_gd := nz_gm (List.mem_of_getElem? (i := 617) (by decide +kernel)) rfl
theorem k_526 : Cond.methodLink R_Land 47 y_Words_clear ∈ nz_gd := nz_gm (List.mem_of_getElem? (i := 618) (by decide +kernel)) rfl
theorem k_527 : Cond.instanceMethod y_Words_clear ∈ nz_gd := nz_gm (List.mem_of_getElem? (i := 619) (by decide +kernel)) rfl
theorem k_528 : Cond.selects R_Words y_Words_clear y_Words_clear ∈ nz_gd := nz_gm (List.mem_of_getElem? (i := 620) (by decide +kernel)) rfl
theorem k_529 : Cond.code y_Words_clear b_Words_clear 1 none ∈ nz_gd := nz_gm (List.mem_of_getElem? (i := 621) (by decide +kernel)) rfl
theorem k_530 : Cond.methodLink R_Land 48 y_Persons_clear ∈ nz_gd := nz_gm (List.mem_of_getElem? (i := 622) (by decide +kernel)) rfl
theorem k_531 : Cond.instanceMethod y_Persons_clear ∈ nz_gd := nz_gm (List.mem_of_getElem? (i := 623) (by decide +kernel)) rfl
theorem k_532 : Cond.selects R_Persons y_Persons_clear y_Persons_clear ∈ nz_gd := nz_gm (List.mem_of_getElem? (i := 624) (by decide +kernel)) rfl
theorem k_533 : Cond.code y_Persons_clear b_Persons_clear 2 none ∈ nz_gd := nz_gm (List.mem_of_getElem? (i := 625) (by decide +kernel)) rfl
theorem k_534 : Cond.methodLink R_Reader 27 y_Scanner_begin ∈ nz_gd := nz_gm (List.mem_of_getElem? (i := 626) (by decide +kernel)) rfl
theorem k_535 : Cond.instanceMethod y_Scanner_begin ∈ nz_gd := nz_gm (List.mem_of_getElem? (i := 627) (by decide +kernel)) rfl
theorem k_536 : Cond.selects R_Scanner y_Scanner_begin y_Scanner_begin ∈ nz_gd := nz_gm (List.mem_of_getElem? (i := 628) (by decide +kernel)) rfl
theorem k_537 : Cond.code y_Scanner_begin b_Scanner_begin 2 none ∈ nz_gd := nz_gm (List.mem_of_getElem? (i := 629) (by decide +kernel)) rfl
theorem k_538 : Cond.methodLink R_Scanner 35 y_Math_min ∈ nz_gd := nz_gm (List.mem_of_getElem? (i := 630) (by decide +kernel)) rfl
theorem k_539 : Cond.static y_Math_min ∈ nz_gd := nz_gm (List.mem_of_getElem? (i := 631) (by decide +kernel)) rfl
theorem k_540 : Cond.code y_Math_min b_Math_min 2 (some .int) ∈ nz_gd := nz_gm (List.mem_of_getElem? (i := 632) (by decide +kernel)) rfl
theorem k_541 : Cond.methodLink R_Scanner 41 y_Math_max ∈ nz_gd := nz_gm (List.mem_of_getElem? (i := 633) (by decide +kernel)) rfl
theorem k_542 : Cond.static y_Math_max ∈ nz_gd := nz_gm (List.mem_of_getElem? (i := 634) (by decide +kernel)) rfl
theorem k_543 : Cond.code y_Math_max b_Math_max 2 (some .int) ∈ nz_gd := nz_gm (List.mem_of_getElem? (i := 635) (by decide +kernel)) rfl
theorem k_544 : Cond.methodLink R_Scanner 50 y_Scanner_advance ∈ nz_gd := nz_gm (List.mem_of_getElem? (i := 636) (by decide +kernel)) rfl
theorem k_545 : Cond.instanceMethod y_Scanner_advance ∈ nz_gd := nz_gm (List.mem_of_getElem? (i := 637) (by decide +kernel)) rfl
theorem k_546 : Cond.selects R_Scanner y_Scanner_advance y_Scanner_advance ∈ nz_gd := nz_gm (List.mem_of_getElem? (i := 638) (by decide +kernel)) rfl
theorem k_547 : Cond.code y_Scanner_advance b_Scanner_advance 1 none ∈ nz_gd := nz_gm (List.mem_of_getElem? (i := 639) (by decide +kernel)) rfl
theorem k_548 : Cond.methodLink R_Scanner 53 y_Scanner_skipBlanks ∈ nz_gd := nz_gm (List.mem_of_getElem? (i := 640) (by decide +kernel)) rfl
theorem k_550 : Cond.instanceMethod y_Scanner_skipBlanks ∈ nz_gd := nz_gm (List.mem_of_getElem? (i := 642) (by decide +kernel)) rfl
theorem k_551 : Cond.code y_Scanner_skipBlanks b_Scanner_skipBlanks 3 (some .int) ∈ nz_gd := nz_gm (List.mem_of_getElem? (i := 643) (by decide +kernel)) rfl
theorem k_552 : Cond.methodLink R_Scanner 63 y_Scanner_isLetter ∈ nz_gd := nz_gm (List.mem_of_getElem? (i := 644) (by decide +kernel)) rfl
theorem k_553 : Cond.static y_Scanner_isLetter ∈ nz_gd := nz_gm (List.mem_of_getElem? (i := 645) (by decide +kernel)) rfl
theorem k_554 : Cond.code y_Scanner_isLetter b_Scanner_isLetter 1 (some .boolean) ∈ nz_gd := nz_gm (List.mem_of_getElem? (i := 646) (by decide +kernel)) rfl
theorem k_555 : Cond.methodLink R_Scanner 67 y_Scanner_takeWord ∈ nz_gd := nz_gm (List.mem_of_getElem? (i := 647) (by decide +kernel)) rfl
theorem k_557 : Cond.instanceMethod y_Scanner_takeWord ∈ nz_gd := nz_gm (List.mem_of_getElem? (i := 649) (by decide +kernel)) rfl
theorem k_558 : Cond.code y_Scanner_takeWord b_Scanner_takeWord 2 none ∈ nz_gd := nz_gm (List.mem_of_getElem? (i := 650) (by decide +kernel)) rfl
theorem k_560 : Cond.static y_NF_find ∈ nz_gd := nz_gm (List.mem_of_getElem? (i := 652) (by decide +kernel)) rfl
theorem k_561 : Cond.code y_NF_find b_NF_find 5 (some .int) ∈ nz_gd := nz_gm (List.mem_of_getElem? (i := 653) (by decide +kernel)) rfl
theorem k_562 : Cond.methodLink R_Scanner 70 y_Scanner_isDigit ∈ nz_gd := nz_gm (List.mem_of_getElem? (i := 654) (by decide +kernel)) rfl
theorem k_563 : Cond.static y_Scanner_isDigit ∈ nz_gd := nz_gm (List.mem_of_getElem? (i := 655) (by decide +kernel)) rfl
theorem k_564 : Cond.code y_Scanner_isDigit b_Scanner_isDigit 1 (some .boolean) ∈ nz_gd := nz_gm (List.mem_of_getElem? (i := 656) (by decide +kernel)) rfl
theorem k_565 : Cond.methodLink R_Scanner 73 y_Scanner_takeNumber ∈ nz_gd := nz_gm (List.mem_of_getElem? (i := 657) (by decide +kernel)) rfl
theorem k_567 : Cond.instanceMethod y_Scanner_takeNumber ∈ nz_gd := nz_gm (List.mem_of_getElem? (i := 659) (by decide +kernel)) rfl
theorem k_568 : Cond.code y_Scanner_takeNumber b_Scanner_takeNumber 3 none ∈ nz_gd := nz_gm (List.mem_of_getElem? (i := 660) (by decide +kernel)) rfl
theorem k_569 : Cond.methodLink R_NF 88 y_Reader_readLine ∈ nz_gd := nz_gm (List.mem_of_getElem? (i := 661) (by decide +kernel)) rfl
theorem k_570 : Cond.instanceMethod y_Reader_readLine ∈ nz_gd := nz_gm (List.mem_of_getElem? (i := 662) (by decide +kernel)) rfl
theorem k_571 : Cond.selects R_Reader y_Reader_readLine y_Reader_readLine ∈ nz_gd := nz_gm (List.mem_of_getElem? (i := 663) (by decide +kernel)) rfl
theorem k_572 : Cond.code y_Reader_readLine b_Reader_readLine 2 (some .boolean) ∈ nz_gd := nz_gm (List.mem_of_getElem? (i := 664) (by decide +kernel)) rfl
theorem k_573 : Cond.methodLink R_Reader 36 y_Reader_refuse ∈ nz_gd := nz_gm (List.mem_of_getElem? (i := 665) (by decide +kernel)) rfl
theorem k_575 : Cond.instanceMethod y_Reader_refuse ∈ nz_gd := nz_gm (List.mem_of_getElem? (i := 667) (by decide +kernel)) rfl
theorem k_576 : Cond.code y_Reader_refuse b_Reader_refuse 2 (some .boolean) ∈ nz_gd := nz_gm (List.mem_of_getElem? (i := 668) (by decide +kernel)) rfl
theorem k_577 : Cond.methodLink R_Reader 52 y_Reader_hasRoom ∈ nz_gd := nz_gm (List.mem_of_getElem? (i := 669) (by decide +kernel)) rfl
theorem k_579 : Cond.instanceMethod y_Reader_hasRoom ∈ nz_gd := nz_gm (List.mem_of_getElem? (i := 671) (by decide +kernel)) rfl
theorem k_580 : Cond.code y_Reader_hasRoom b_Reader_hasRoom 3 (some .boolean) ∈ nz_gd := nz_gm (List.mem_of_getElem? (i := 672) (by decide +kernel)) rfl
theorem k_581 : Cond.methodLink R_Reader 191 y_Scanner_advance ∈ nz_gd := nz_gm (List.mem_of_getElem? (i := 673) (by decide +kernel)) rfl
theorem k_582 : Cond.methodLink R_Reader 56 y_Reader_readPlace ∈ nz_gd := nz_gm (List.mem_of_getElem? (i := 674) (by decide +kernel)) rfl
theorem k_584 : Cond.instanceMethod y_Reader_readPlace ∈ nz_gd := nz_gm (List.mem_of_getElem? (i := 676) (by decide +kernel)) rfl
theorem k_585 : Cond.code y_Reader_readPlace b_Reader_readPlace 3 (some .boolean) ∈ nz_gd := nz_gm (List.mem_of_getElem? (i := 677) (by decide +kernel)) rfl
theorem k_586 : Cond.methodLink R_Reader 109 y_Reader_takeNewName ∈ nz_gd := nz_gm (List.mem_of_getElem? (i := 678) (by decide +kernel)) rfl
theorem k_588 : Cond.instanceMethod y_Reader_takeNewName ∈ nz_gd := nz_gm (List.mem_of_getElem? (i := 680) (by decide +kernel)) rfl
theorem k_589 : Cond.code y_Reader_takeNewName b_Reader_takeNewName 3 (some .boolean) ∈ nz_gd := nz_gm (List.mem_of_getElem? (i := 681) (by decide +kernel)) rfl
theorem k_591 : Cond.methodLink R_Reader 173 y_Reader_takeName ∈ nz_gd := nz_gm (List.mem_of_getElem? (i := 683) (by decide +kernel)) rfl
theorem k_593 : Cond.instanceMethod y_Reader_takeName ∈ nz_gd := nz_gm (List.mem_of_getElem? (i := 685) (by decide +kernel)) rfl
theorem k_594 : Cond.code y_Reader_takeName b_Reader_takeName 1 (some .boolean) ∈ nz_gd := nz_gm (List.mem_of_getElem? (i := 686) (by decide +kernel)) rfl
theorem k_595 : Cond.methodLink R_Reader 117 y_Reader_takeKeyword ∈ nz_gd := nz_gm (List.mem_of_getElem? (i := 687) (by decide +kernel)) rfl
theorem k_597 : Cond.instanceMethod y_Reader_takeKeyword ∈ nz_gd := nz_gm (List.mem_of_getElem? (i := 689) (by decide +kernel)) rfl
theorem k_598 : Cond.code y_Reader_takeKeyword b_Reader_takeKeyword 2 (some .boolean) ∈ nz_gd := nz_gm (List.mem_of_getElem? (i := 690) (by decide +kernel)) rfl
theorem k_599 : Cond.methodLink R_Reader 120 y_Reader_takeChoice ∈ nz_gd := nz_gm (List.mem_of_getElem? (i := 691) (by decide +kernel)) rfl
theorem k_601 : Cond.instanceMethod y_Reader_takeChoice ∈ nz_gd := nz_gm (List.mem_of_getElem? (i := 693) (by decide +kernel)) rfl
theorem k_602 : Cond.code y_Reader_takeChoice b_Reader_takeChoice 4 (some .boolean) ∈ nz_gd := nz_gm (List.mem_of_getElem? (i := 694) (by decide +kernel)) rfl
theorem k_603 : Cond.methodLink R_Reader 130 y_Reader_takeNumber ∈ nz_gd := nz_gm (List.mem_of_getElem? (i := 695) (by decide +kernel)) rfl
theorem k_605 : Cond.instanceMethod y_Reader_takeNumber ∈ nz_gd := nz_gm (List.mem_of_getElem? (i := 697) (by decide +kernel)) rfl
theorem k_606 : Cond.code y_Reader_takeNumber b_Reader_takeNumber 3 (some .boolean) ∈ nz_gd := nz_gm (List.mem_of_getElem? (i := 698) (by decide +kernel)) rfl
theorem k_607 : Cond.methodLink R_Reader 145 y_Reader_takeSign ∈ nz_gd := nz_gm (List.mem_of_getElem? (i := 699) (by decide +kernel)) rfl
theorem k_609 : Cond.instanceMethod y_Reader_takeSign ∈ nz_gd := nz_gm (List.mem_of_getElem? (i := 701) (by decide +kernel)) rfl
theorem k_610 : Cond.code y_Reader_takeSign b_Reader_takeSign 1 (some .boolean) ∈ nz_gd := nz_gm (List.mem_of_getElem? (i := 702) (by decide +kernel)) rfl
theorem k_611 : Cond.methodLink R_Reader 67 y_Reader_readMeaning ∈ nz_gd := nz_gm (List.mem_of_getElem? (i := 703) (by decide +kernel)) rfl
theorem k_613 : Cond.instanceMethod y_Reader_readMeaning ∈ nz_gd := nz_gm (List.mem_of_getElem? (i := 705) (by decide +kernel)) rfl
theorem k_614 : Cond.code y_Reader_readMeaning b_Reader_readMeaning 2 (some .boolean) ∈ nz_gd := nz_gm (List.mem_of_getElem? (i := 706) (by decide +kernel)) rfl
theorem k_615 : Cond.methodLink R_Reader 78 y_Reader_readWord ∈ nz_gd := nz_gm (List.mem_of_getElem? (i := 707) (by decide +kernel)) rfl
theorem k_617 : Cond.instanceMethod y_Reader_readWord ∈ nz_gd := nz_gm (List.mem_of_getElem? (i := 709) (by decide +kernel)) rfl
theorem k_618 : Cond.code y_Reader_readWord b_Reader_readWord 5 (some .boolean) ∈ nz_gd := nz_gm (List.mem_of_getElem? (i := 710) (by decide +kernel)) rfl
theorem k_619 : Cond.methodLink R_Reader 151 y_Reader_takeKnownName ∈ nz_gd := nz_gm (List.mem_of_getElem? (i := 711) (by decide +kernel)) rfl
theorem k_621 : Cond.instanceMethod y_Reader_takeKnownName ∈ nz_gd := nz_gm (List.mem_of_getElem? (i := 713) (by decide +kernel)) rfl
theorem k_622 : Cond.code y_Reader_takeKnownName b_Reader_takeKnownName 5 (some .boolean) ∈ nz_gd := nz_gm (List.mem_of_getElem? (i := 714) (by decide +kernel)) rfl
theorem k_624 : Cond.static y_NF_has ∈ nz_gd := nz_gm (List.mem_of_getElem? (i := 716) (by decide +kernel)) rfl
theorem k_625 : Cond.code y_NF_has b_NF_has 2 (some .boolean) ∈ nz_gd := nz_gm (List.mem_of_getElem? (i := 717) (by decide +kernel)) rfl
theorem k_626 : Cond.methodLink R_Reader 155 y_Reader_takeRows ∈ nz_gd := nz_gm (List.mem_of_getElem? (i := 718) (by decide +kernel)) rfl
theorem k_628 : Cond.instanceMethod y_Reader_takeRows ∈ nz_gd := nz_gm (List.mem_of_getElem? (i := 720) (by decide +kernel)) rfl
theorem k_629 : Cond.code y_Reader_takeRows b_Reader_takeRows 6 (some .boolean) ∈ nz_gd := nz_gm (List.mem_of_getElem? (i := 721) (by decide +kernel)) rfl
theorem k_630 : Cond.methodLink R_Reader 159 y_Places_addToRow ∈ nz_gd := nz_gm (List.mem_of_getElem? (i := 722) (by decide +kernel)) rfl
theorem k_631 : Cond.instanceMethod y_Places_addToRow ∈ nz_gd := nz_gm (List.mem_of_getElem? (i := 723) (by decide +kernel)) rfl
theorem k_632 : Cond.selects R_Places y_Places_addToRow y_Places_addToRow ∈ nz_gd := nz_gm (List.mem_of_getElem? (i := 724) (by decide +kernel)) rfl
theorem k_633 : Cond.code y_Places_addToRow b_Places_addToRow 4 none ∈ nz_gd := nz_gm (List.mem_of_getElem? (i := 725) (by decide +kernel)) rfl
theorem k_634 : Cond.methodLink R_Reader 85 y_Reader_readTurn ∈ nz_gd := nz_gm (List.mem_of_getElem? (i := 726) (by decide +kernel)) rfl
theorem k_636 : Cond.instanceMethod y_Reader_readTurn ∈ nz_gd := nz_gm (List.mem_of_getElem? (i := 728) (by decide +kernel)) rfl
theorem k_637 : Cond.code y_Reader_readTurn b_Reader_readTurn 4 (some .boolean) ∈ nz_gd := nz_gm (List.mem_of_getElem? (i := 729) (by decide +kernel)) rfl
theorem k_638 : Cond.methodLink R_Reader 95 y_Reader_readPerson ∈ nz_gd := nz_gm (List.mem_of_getElem? (i := 730) (by decide +kernel)) rfl
theorem k_640 : Cond.instanceMethod y_Reader_readPerson ∈ nz_gd := nz_gm (List.mem_of_getElem? (i := 732) (by decide +kernel)) rfl
theorem k_641 : Cond.code y_Reader_readPerson b_Reader_readPerson 4 (some .boolean) ∈ nz_gd := nz_gm (List.mem_of_getElem? (i := 733) (by decide +kernel)) rfl
theorem k_642 : Cond.methodLink R_Reader 185 y_Reader_takeParents ∈ nz_gd := nz_gm (List.mem_of_getElem? (i := 734) (by decide +kernel)) rfl
theorem k_644 : Cond.instanceMethod y_Reader_takeParents ∈ nz_gd := nz_gm (List.mem_of_getElem? (i := 736) (by decide +kernel)) rfl
theorem k_645 : Cond.code y_Reader_takeParents b_Reader_takeParents 3 (some .boolean) ∈ nz_gd := nz_gm (List.mem_of_getElem? (i := 737) (by decide +kernel)) rfl
theorem k_646 : Cond.methodLink R_Reader 101 y_Reader_readTalk ∈ nz_gd := nz_gm (List.mem_of_getElem? (i := 738) (by decide +kernel)) rfl
theorem k_648 : Cond.instanceMethod y_Reader_readTalk ∈ nz_gd := nz_gm (List.mem_of_getElem? (i := 740) (by decide +kernel)) rfl
theorem k_649 : Cond.code y_Reader_readTalk b_Reader_readTalk 4 (some .boolean) ∈ nz_gd := nz_gm (List.mem_of_getElem? (i := 741) (by decide +kernel)) rfl
theorem k_650 : Cond.methodLink R_NF 95 y_Land_settle ∈ nz_gd := nz_gm (List.mem_of_getElem? (i := 742) (by decide +kernel)) rfl
theorem k_651 : Cond.instanceMethod y_Land_settle ∈ nz_gd := nz_gm (List.mem_of_getElem? (i := 743) (by decide +kernel)) rfl
theorem k_652 : Cond.selects R_Land y_Land_settle y_Land_settle ∈ nz_gd := nz_gm (List.mem_of_getElem? (i := 744) (by decide +kernel)) rfl
theorem k_653 : Cond.code y_Land_settle b_Land_settle 2 none ∈ nz_gd := nz_gm (List.mem_of_getElem? (i := 745) (by decide +kernel)) rfl
theorem k_654 : Cond.methodLink R_Land 49 y_Persons_findForebears ∈ nz_gd := nz_gm (List.mem_of_getElem? (i := 746) (by decide +kernel)) rfl
theorem k_655 : Cond.instanceMethod y_Persons_findForebears ∈ nz_gd := nz_gm (List.mem_of_getElem? (i := 747) (by decide +kernel)) rfl
theorem k_656 : Cond.selects R_Persons y_Persons_findForebears y_Persons_findForebears ∈ nz_gd := nz_gm (List.mem_of_getElem? (i := 748) (by decide +kernel)) rfl
theorem k_657 : Cond.code y_Persons_findForebears b_Persons_findForebears 4 none ∈ nz_gd := nz_gm (List.mem_of_getElem? (i := 749) (by decide +kernel)) rfl
theorem k_659 : Cond.methodLink R_Land 52 y_Persons_findSteps ∈ nz_gd := nz_gm (List.mem_of_getElem? (i := 751) (by decide +kernel)) rfl
theorem k_660 : Cond.instanceMethod y_Persons_findSteps ∈ nz_gd := nz_gm (List.mem_of_getElem? (i := 752) (by decide +kernel)) rfl
theorem k_661 : Cond.selects R_Persons y_Persons_findSteps y_Persons_findSteps ∈ nz_gd := nz_gm (List.mem_of_getElem? (i := 753) (by decide +kernel)) rfl
theorem k_662 : Cond.code y_Persons_findSteps b_Persons_findSteps 5 none ∈ nz_gd := nz_gm (List.mem_of_getElem? (i := 754) (by decide +kernel)) rfl
theorem k_663 : Cond.methodLink R_Persons 51 y_Persons_stepsBetween ∈ nz_gd := nz_gm (List.mem_of_getElem? (i := 755) (by decide +kernel)) rfl
theorem k_664 : Cond.instanceMethod y_Persons_stepsBetween ∈ nz_gd := nz_gm (List.mem_of_getElem? (i := 756) (by decide +kernel)) rfl
theorem k_665 : Cond.selects R_Persons y_Persons_stepsBetween y_Persons_stepsBetween ∈ nz_gd := nz_gm (List.mem_of_getElem? (i := 757) (by decide +kernel)) rfl
theorem k_666 : Cond.code y_Persons_stepsBetween b_Persons_stepsBetween 3 (some .int) ∈ nz_gd := nz_gm (List.mem_of_getElem? (i := 758) (by decide +kernel)) rfl
theorem k_667 : Cond.methodLink R_Land 66 y_Land_noteSounds ∈ nz_gd := nz_gm (List.mem_of_getElem? (i := 759) (by decide +kernel)) rfl
theorem k_669 : Cond.instanceMethod y_Land_noteSounds ∈ nz_gd := nz_gm (List.mem_of_getElem? (i := 761) (by decide +kernel)) rfl
theorem k_670 : Cond.code y_Land_noteSounds b_Land_noteSounds 8 none ∈ nz_gd := nz_gm (List.mem_of_getElem? (i := 762) (by decide +kernel)) rfl
theorem k_671 : Cond.methodLink R_Land 75 y_Land_lettersApart ∈ nz_gd := nz_gm (List.mem_of_getElem? (i := 763) (by decide +kernel)) rfl
theorem k_672 : Cond.instanceMethod y_Land_lettersApart ∈ nz_gd := nz_gm (List.mem_of_getElem? (i := 764) (by decide +kernel)) rfl
theorem k_673 : Cond.selects R_Land y_Land_lettersApart y_Land_lettersApart ∈ nz_gd := nz_gm (List.mem_of_getElem? (i := 765) (by decide +kernel)) rfl
theorem k_674 : Cond.code y_Land_lettersApart b_Land_lettersApart 12 (some .int) ∈ nz_gd := nz_gm (List.mem_of_getElem? (i := 766) (by decide +kernel)) rfl
theorem k_675 : Cond.methodLink R_Land 79 y_Land_lengthOf ∈ nz_gd := nz_gm (List.mem_of_getElem? (i := 767) (by decide +kernel)) rfl
theorem k_676 : Cond.static y_Land_lengthOf ∈ nz_gd := nz_gm (List.mem_of_getElem? (i := 768) (by decide +kernel)) rfl
theorem k_677 : Cond.code y_Land_lengthOf b_Land_lengthOf 3 (some .int) ∈ nz_gd := nz_gm (List.mem_of_getElem? (i := 769) (by decide +kernel)) rfl
theorem k_678 : Cond.methodLink R_Land 83 y_Land_letterAt ∈ nz_gd := nz_gm (List.mem_of_getElem? (i := 770) (by decide +kernel)) rfl
theorem k_679 : Cond.static y_Land_letterAt ∈ nz_gd := nz_gm (List.mem_of_getElem? (i := 771) (by decide +kernel)) rfl
theorem k_680 : Cond.code y_Land_letterAt b_Land_letterAt 3 (some .int) ∈ nz_gd := nz_gm (List.mem_of_getElem? (i := 772) (by decide +kernel)) rfl
theorem k_681 : Cond.methodLink R_Land 87 y_Math_min ∈ nz_gd := nz_gm (List.mem_of_getElem? (i := 773) (by decide +kernel)) rfl
theorem k_682 : Cond.methodLink R_NF 98 y_Deaths_forget ∈ nz_gd := nz_gm (List.mem_of_getElem? (i := 774) (by decide +kernel)) rfl
theorem k_683 : Cond.instanceMethod y_Deaths_forget ∈ nz_gd := nz_gm (List.mem_of_getElem? (i := 775) (by decide +kernel)) rfl
theorem k_684 : Cond.selects R_Deaths y_Deaths_forget y_Deaths_forget ∈ nz_gd := nz_gm (List.mem_of_getElem? (i := 776) (by decide +kernel)) rfl
theorem k_685 : Cond.code y_Deaths_forget b_Deaths_forget 1 none ∈ nz_gd := nz_gm (List.mem_of_getElem? (i := 777) (by decide +kernel)) rfl
theorem k_686 : Cond.methodLink R_law 28 y_NF_fault ∈ nz_gd := nz_gm (List.mem_of_getElem? (i := 778) (by decide +kernel)) rfl
theorem k_687 : Cond.instanceMethod y_NF_fault ∈ nz_gd := nz_gm (List.mem_of_getElem? (i := 779) (by decide +kernel)) rfl
theorem k_688 : Cond.selects R_NF y_NF_fault y_NF_fault ∈ nz_gd := nz_gm (List.mem_of_getElem? (i := 780) (by decide +kernel)) rfl
theorem k_689 : Cond.code y_NF_fault b_NF_fault 2 (some .int) ∈ nz_gd := nz_gm (List.mem_of_getElem? (i := 781) (by decide +kernel)) rfl
theorem k_690 : Cond.methodLink R_law 32 y_NF_die ∈ nz_gd := nz_gm (List.mem_of_getElem? (i := 782) (by decide +kernel)) rfl
theorem k_691 : Cond.instanceMethod y_NF_die ∈ nz_gd := nz_gm (List.mem_of_getElem? (i := 783) (by decide +kernel)) rfl
theorem k_692 : Cond.selects R_NF y_NF_die y_NF_die ∈ nz_gd := nz_gm (List.mem_of_getElem? (i := 784) (by decide +kernel)) rfl
theorem k_693 : Cond.code y_NF_die b_NF_die 3 (some .int) ∈ nz_gd := nz_gm (List.mem_of_getElem? (i := 785) (by decide +kernel)) rfl
theorem k_694 : Cond.methodLink R_NF 104 y_NF_isPerson ∈ nz_gd := nz_gm (List.mem_of_getElem? (i := 786) (by decide +kernel)) rfl
theorem k_696 : Cond.instanceMethod y_NF_isPerson ∈ nz_gd := nz_gm (List.mem_of_getElem? (i := 788) (by decide +kernel)) rfl
theorem k_697 : Cond.code y_NF_isPerson b_NF_isPerson 2 (some .boolean) ∈ nz_gd := nz_gm (List.mem_of_getElem? (i := 789) (by decide +kernel)) rfl
theorem k_698 : Cond.methodLink R_NF 108 y_NF_isYear ∈ nz_gd := nz_gm (List.mem_of_getElem? (i := 790) (by decide +kernel)) rfl
theorem k_699 : Cond.static y_NF_isYear ∈ nz_gd := nz_gm (List.mem_of_getElem? (i := 791) (by decide +kernel)) rfl
theorem k_700 : Cond.code y_NF_isYear b_NF_isYear 1 (some .boolean) ∈ nz_gd := nz_gm (List.mem_of_getElem? (i := 792) (by decide +kernel)) rfl
theorem k_701 : Cond.methodLink R_NF 120 y_Deaths_add ∈ nz_gd := nz_gm (List.mem_of_getElem? (i := 793) (by decide +kernel)) rfl
theorem k_702 : Cond.instanceMethod y_Deaths_add ∈ nz_gd := nz_gm (List.mem_of_getElem? (i := 794) (by decide +kernel)) rfl
theorem k_703 : Cond.selects R_Deaths y_Deaths_add y_Deaths_add ∈ nz_gd := nz_gm (List.mem_of_getElem? (i := 795) (by decide +kernel)) rfl
theorem k_704 : Cond.code y_Deaths_add b_Deaths_add 3 (some .int) ∈ nz_gd := nz_gm (List.mem_of_getElem? (i := 796) (by decide +kernel)) rfl
theorem k_705 : Cond.methodLink R_law 37 y_NF_untell ∈ nz_gd := nz_gm (List.mem_of_getElem? (i := 797) (by decide +kernel)) rfl
theorem k_706 : Cond.instanceMethod y_NF_untell ∈ nz_gd := nz_gm (List.mem_of_getElem? (i := 798) (by decide +kernel)) rfl
theorem k_707 : Cond.selects R_NF y_NF_untell y_NF_untell ∈ nz_gd := nz_gm (List.mem_of_getElem? (i := 799) (by decide +kernel)) rfl
theorem k_708 : Cond.code y_NF_untell b_NF_untell 2 (some .boolean) ∈ nz_gd := nz_gm (List.mem_of_getElem? (i := 800) (by decide +kernel)) rfl
theorem k_709 : Cond.methodLink R_NF 124 y_Deaths_takeBack ∈ nz_gd := nz_gm (List.mem_of_getElem? (i := 801) (by decide +kernel)) rfl
theorem k_710 : Cond.instanceMethod y_Deaths_takeBack ∈ nz_gd := nz_gm (List.mem_of_getElem? (i := 802) (by decide +kernel)) rfl
theorem k_711 : Cond.selects R_Deaths y_Deaths_takeBack y_Deaths_takeBack ∈ nz_gd := nz_gm (List.mem_of_getElem? (i := 803) (by decide +kernel)) rfl
theorem k_712 : Cond.code y_Deaths_takeBack b_Deaths_takeBack 2 (some .boolean) ∈ nz_gd := nz_gm (List.mem_of_getElem? (i := 804) (by decide +kernel)) rfl
theorem k_713 : Cond.methodLink R_law 42 y_NF_later ∈ nz_gd := nz_gm (List.mem_of_getElem? (i := 805) (by decide +kernel)) rfl
theorem k_714 : Cond.instanceMethod y_NF_later ∈ nz_gd := nz_gm (List.mem_of_getElem? (i := 806) (by decide +kernel)) rfl
theorem k_715 : Cond.selects R_NF y_NF_later y_NF_later ∈ nz_gd := nz_gm (List.mem_of_getElem? (i := 807) (by decide +kernel)) rfl
theorem k_716 : Cond.code y_NF_later b_NF_later 2 (some .int) ∈ nz_gd := nz_gm (List.mem_of_getElem? (i := 808) (by decide +kernel)) rfl
theorem k_717 : Cond.methodLink R_NF 127 y_Deaths_goOn ∈ nz_gd := nz_gm (List.mem_of_getElem? (i := 809) (by decide +kernel)) rfl
theorem k_718 : Cond.instanceMethod y_Deaths_goOn ∈ nz_gd := nz_gm (List.mem_of_getElem? (i := 810) (by decide +kernel)) rfl
theorem k_719 : Cond.selects R_Deaths y_Deaths_goOn y_Deaths_goOn ∈ nz_gd := nz_gm (List.mem_of_getElem? (i := 811) (by decide +kernel)) rfl
theorem k_720 : Cond.code y_Deaths_goOn b_Deaths_goOn 2 (some .int) ∈ nz_gd := nz_gm (List.mem_of_getElem? (i := 812) (by decide +kernel)) rfl
theorem k_721 : Cond.constant R_Deaths 31 (100000) ∈ nz_gd := nz_gm (List.mem_of_getElem? (i := 813) (by decide +kernel)) rfl
theorem k_722 : Cond.methodLink R_law 46 y_NF_alive ∈ nz_gd := nz_gm (List.mem_of_getElem? (i := 814) (by decide +kernel)) rfl
theorem k_723 : Cond.instanceMethod y_NF_alive ∈ nz_gd := nz_gm (List.mem_of_getElem? (i := 815) (by decide +kernel)) rfl
theorem k_724 : Cond.selects R_NF y_NF_alive y_NF_alive ∈ nz_gd := nz_gm (List.mem_of_getElem? (i := 816) (by decide +kernel)) rfl
theorem k_725 : Cond.code y_NF_alive b_NF_alive 4 (some .int) ∈ nz_gd := nz_gm (List.mem_of_getElem? (i := 817) (by decide +kernel)) rfl
theorem k_726 : Cond.methodLink R_NF 131 y_Falls_know ∈ nz_gd := nz_gm (List.mem_of_getElem? (i := 818) (by decide +kernel)) rfl
theorem k_727 : Cond.instanceMethod y_Falls_know ∈ nz_gd := nz_gm (List.mem_of_getElem? (i := 819) (by decide +kernel)) rfl
theorem k_728 : Cond.selects R_Falls y_Falls_know y_Falls_know ∈ nz_gd := nz_gm (List.mem_of_getElem? (i := 820) (by decide +kernel)) rfl
theorem k_729 : Cond.code y_Falls_know b_Falls_know 6 none ∈ nz_gd := nz_gm (List.mem_of_getElem? (i := 821) (by decide +kernel)) rfl
theorem k_730 : Cond.methodLink R_Falls 28 y_Deaths_writeYears ∈ nz_gd := nz_gm (List.mem_of_getElem? (i := 822) (by decide +kernel)) rfl
theorem k_731 : Cond.instanceMethod y_Deaths_writeYears ∈ nz_gd := nz_gm (List.mem_of_getElem? (i := 823) (by decide +kernel)) rfl
theorem k_732 : Cond.selects R_Deaths y_Deaths_writeYears y_Deaths_writeYears ∈ nz_gd := nz_gm (List.mem_of_getElem? (i := 824) (by decide +kernel)) rfl
theorem k_733 : Cond.code y_Deaths_writeYears b_Deaths_writeYears 5 none ∈ nz_gd := nz_gm (List.mem_of_getElem? (i := 825) (by decide +kernel)) rfl
theorem k_734 : Cond.methodLink R_Falls 48 y_Falls_suppose ∈ nz_gd := nz_gm (List.mem_of_getElem? (i := 826) (by decide +kernel)) rfl
theorem k_735 : Cond.instanceMethod y_Falls_suppose ∈ nz_gd := nz_gm (List.mem_of_getElem? (i := 827) (by decide +kernel)) rfl
theorem k_736 : Cond.selects R_Falls y_Falls_suppose y_Falls_suppose ∈ nz_gd := nz_gm (List.mem_of_getElem? (i := 828) (by decide +kernel)) rfl
theorem k_737 : Cond.code y_Falls_suppose b_Falls_suppose 4 none ∈ nz_gd := nz_gm (List.mem_of_getElem? (i := 829) (by decide +kernel)) rfl
theorem k_738 : Cond.methodLink R_Falls 59 y_Falls_endOfFall ∈ nz_gd := nz_gm (List.mem_of_getElem? (i := 830) (by decide +kernel)) rfl
theorem k_740 : Cond.instanceMethod y_Falls_endOfFall ∈ nz_gd := nz_gm (List.mem_of_getElem? (i := 832) (by decide +kernel)) rfl
theorem k_741 : Cond.code y_Falls_endOfFall b_Falls_endOfFall 5 (some .int) ∈ nz_gd := nz_gm (List.mem_of_getElem? (i := 833) (by decide +kernel)) rfl
theorem k_742 : Cond.methodLink R_Falls 82 y_Falls_liftingYear ∈ nz_gd := nz_gm (List.mem_of_getElem? (i := 834) (by decide +kernel)) rfl
theorem k_744 : Cond.instanceMethod y_Falls_liftingYear ∈ nz_gd := nz_gm (List.mem_of_getElem? (i := 836) (by decide +kernel)) rfl
theorem k_745 : Cond.code y_Falls_liftingYear b_Falls_liftingYear 9 (some .int) ∈ nz_gd := nz_gm (List.mem_of_getElem? (i := 837) (by decide +kernel)) rfl
theorem k_747 : Cond.methodLink R_Falls 85 y_Math_min ∈ nz_gd := nz_gm (List.mem_of_getElem? (i := 839) (by decide +kernel)) rfl
theorem k_748 : Cond.methodLink R_Falls 63 y_Falls_turnTo ∈ nz_gd := nz_gm (List.mem_of_getElem? (i := 840) (by decide +kernel)) rfl
theorem k_749 : Cond.instanceMethod y_Falls_turnTo ∈ nz_gd := nz_gm (List.mem_of_getElem? (i := 841) (by decide +kernel)) rfl
theorem k_750 : Cond.selects R_Falls y_Falls_turnTo y_Falls_turnTo ∈ nz_gd := nz_gm (List.mem_of_getElem? (i := 842) (by decide +kernel)) rfl
theorem k_751 : Cond.code y_Falls_turnTo b_Falls_turnTo 3 none ∈ nz_gd := nz_gm (List.mem_of_getElem? (i := 843) (by decide +kernel)) rfl
theorem k_752 : Cond.methodLink R_NF 135 y_Falls_isAlive ∈ nz_gd := nz_gm (List.mem_of_getElem? (i := 844) (by decide +kernel)) rfl
theorem k_753 : Cond.instanceMethod y_Falls_isAlive ∈ nz_gd := nz_gm (List.mem_of_getElem? (i := 845) (by decide +kernel)) rfl
theorem k_754 : Cond.selects R_Falls y_Falls_isAlive y_Falls_isAlive ∈ nz_gd := nz_gm (List.mem_of_getElem? (i := 846) (by decide +kernel)) rfl
theorem k_755 : Cond.code y_Falls_isAlive b_Falls_isAlive 3 (some .boolean) ∈ nz_gd := nz_gm (List.mem_of_getElem? (i := 847) (by decide +kernel)) rfl
theorem k_756 : Cond.methodLink R_law 51 y_NF_apart ∈ nz_gd := nz_gm (List.mem_of_getElem? (i := 848) (by decide +kernel)) rfl
theorem k_757 : Cond.instanceMethod y_NF_apart ∈ nz_gd := nz_gm (List.mem_of_getElem? (i := 849) (by decide +kernel)) rfl
theorem k_758 : Cond.selects R_NF y_NF_apart y_NF_apart ∈ nz_gd := nz_gm (List.mem_of_getElem? (i := 850) (by decide +kernel)) rfl
theorem k_759 : Cond.code y_NF_apart b_NF_apart 3 (some .int) ∈ nz_gd := nz_gm (List.mem_of_getElem? (i := 851) (by decide +kernel)) rfl
theorem k_760 : Cond.methodLink R_NF 138 y_NF_isWord ∈ nz_gd := nz_gm (List.mem_of_getElem? (i := 852) (by decide +kernel)) rfl
theorem k_762 : Cond.instanceMethod y_NF_isWord ∈ nz_gd := nz_gm (List.mem_of_getElem? (i := 854) (by decide +kernel)) rfl
theorem k_763 : Cond.code y_NF_isWord b_NF_isWord 2 (some .boolean) ∈ nz_gd := nz_gm (List.mem_of_getElem? (i := 855) (by decide +kernel)) rfl
theorem k_764 : Cond.methodLink R_NF 154 y_Land_lettersApart ∈ nz_gd := nz_gm (List.mem_of_getElem? (i := 856) (by decide +kernel)) rfl
theorem k_765 : Cond.methodLink R_law 55 y_NF_near ∈ nz_gd := nz_gm (List.mem_of_getElem? (i := 857) (by decide +kernel)) rfl
theorem k_766 : Cond.instanceMethod y_NF_near ∈ nz_gd := nz_gm (List.mem_of_getElem? (i := 858) (by decide +kernel)) rfl
theorem k_767 : Cond.selects R_NF y_NF_near y_NF_near ∈ nz_gd := nz_gm (List.mem_of_getElem? (i := 859) (by decide +kernel)) rfl
theorem k_768 : Cond.code y_NF_near b_NF_near 3 (some .int) ∈ nz_gd := nz_gm (List.mem_of_getElem? (i := 860) (by decide +kernel)) rfl
theorem k_769 : Cond.methodLink R_NF 158 y_Persons_stepsBetween ∈ nz_gd := nz_gm (List.mem_of_getElem? (i := 861) (by decide +kernel)) rfl
theorem k_770 : Cond.methodLink R_law 59 y_NF_may ∈ nz_gd := nz_gm (List.mem_of_getElem? (i := 862) (by decide +kernel)) rfl
theorem k_771 : Cond.instanceMethod y_NF_may ∈ nz_gd := nz_gm (List.mem_of_getElem? (i := 863) (by decide +kernel)) rfl
theorem k_772 : Cond.selects R_NF y_NF_may y_NF_may ∈ nz_gd := nz_gm (List.mem_of_getElem? (i := 864) (by decide +kernel)) rfl
theorem k_773 : Cond.code y_NF_may b_NF_may 6 (some .int) ∈ nz_gd := nz_gm (List.mem_of_getElem? (i := 865) (by decide +kernel)) rfl
theorem k_774 : Cond.methodLink R_NF 161 y_NF_canSpeak ∈ nz_gd := nz_gm (List.mem_of_getElem? (i := 866) (by decide +kernel)) rfl
theorem k_776 : Cond.instanceMethod y_NF_canSpeak ∈ nz_gd := nz_gm (List.mem_of_getElem? (i := 868) (by decide +kernel)) rfl
theorem k_777 : Cond.code y_NF_canSpeak b_NF_canSpeak 5 (some .boolean) ∈ nz_gd := nz_gm (List.mem_of_getElem? (i := 869) (by decide +kernel)) rfl
theorem k_778 : Cond.methodLink R_NF 165 y_Falls_barred ∈ nz_gd := nz_gm (List.mem_of_getElem? (i := 870) (by decide +kernel)) rfl
theorem k_779 : Cond.instanceMethod y_Falls_barred ∈ nz_gd := nz_gm (List.mem_of_getElem? (i := 871) (by decide +kernel)) rfl
theorem k_780 : Cond.selects R_Falls y_Falls_barred y_Falls_barred ∈ nz_gd := nz_gm (List.mem_of_getElem? (i := 872) (by decide +kernel)) rfl
theorem k_781 : Cond.code y_Falls_barred b_Falls_barred 5 (some .int) ∈ nz_gd := nz_gm (List.mem_of_getElem? (i := 873) (by decide +kernel)) rfl
theorem k_782 : Cond.methodLink R_Falls 104 y_Falls_binds ∈ nz_gd := nz_gm (List.mem_of_getElem? (i := 874) (by decide +kernel)) rfl
theorem k_784 : Cond.instanceMethod y_Falls_binds ∈ nz_gd := nz_gm (List.mem_of_getElem? (i := 876) (by decide +kernel)) rfl
theorem k_785 : Cond.code y_Falls_binds b_Falls_binds 7 (some .boolean) ∈ nz_gd := nz_gm (List.mem_of_getElem? (i := 877) (by decide +kernel)) rfl
theorem k_786 : Cond.methodLink R_Falls 112 y_Persons_stepsBetween ∈ nz_gd := nz_gm (List.mem_of_getElem? (i := 878) (by decide +kernel)) rfl
theorem k_787 : Cond.methodLink R_Falls 108 y_Falls_wordsOf ∈ nz_gd := nz_gm (List.mem_of_getElem? (i := 879) (by decide +kernel)) rfl
theorem k_789 : Cond.instanceMethod y_Falls_wordsOf ∈ nz_gd := nz_gm (List.mem_of_getElem? (i := 881) (by decide +kernel)) rfl
theorem k_790 : Cond.code y_Falls_wordsOf b_Falls_wordsOf 2 (some .int) ∈ nz_gd := nz_gm (List.mem_of_getElem? (i := 882) (by decide +kernel)) rfl
theorem k_791 : Cond.methodLink R_Falls 118 y_Persons_soundsLike ∈ nz_gd := nz_gm (List.mem_of_getElem? (i := 883) (by decide +kernel)) rfl
theorem k_792 : Cond.instanceMethod y_Persons_soundsLike ∈ nz_gd := nz_gm (List.mem_of_getElem? (i := 884) (by decide +kernel)) rfl
theorem k_793 : Cond.selects R_Persons y_Persons_soundsLike y_Persons_soundsLike ∈ nz_gd := nz_gm (List.mem_of_getElem? (i := 885) (by decide +kernel)) rfl
theorem k_794 : Cond.code y_Persons_soundsLike b_Persons_soundsLike 3 (some .int) ∈ nz_gd := nz_gm (List.mem_of_getElem? (i := 886) (by decide +kernel)) rfl
theorem k_795 : Cond.methodLink R_NF 168 y_NF_has ∈ nz_gd := nz_gm (List.mem_of_getElem? (i := 887) (by decide +kernel)) rfl
theorem k_796 : Cond.methodLink R_law 63 y_NF_judge ∈ nz_gd := nz_gm (List.mem_of_getElem? (i := 888) (by decide +kernel)) rfl
theorem k_797 : Cond.instanceMethod y_NF_judge ∈ nz_gd := nz_gm (List.mem_of_getElem? (i := 889) (by decide +kernel)) rfl
theorem k_798 : Cond.selects R_NF y_NF_judge y_NF_judge ∈ nz_gd := nz_gm (List.mem_of_getElem? (i := 890) (by decide +kernel)) rfl
theorem k_799 : Cond.code y_NF_judge b_NF_judge 6 (some .int) ∈ nz_gd := nz_gm (List.mem_of_getElem? (i := 891) (by decide +kernel)) rfl
theorem k_800 : Cond.constant R_NF 172 (33554431) ∈ nz_gd := nz_gm (List.mem_of_getElem? (i := 892) (by decide +kernel)) rfl
theorem k_801 : Cond.methodLink R_NF 173 y_NF_firstBarred ∈ nz_gd := nz_gm (List.mem_of_getElem? (i := 893) (by decide +kernel)) rfl
theorem k_803 : Cond.instanceMethod y_NF_firstBarred ∈ nz_gd := nz_gm (List.mem_of_getElem? (i := 895) (by decide +kernel)) rfl
theorem k_804 : Cond.code y_NF_firstBarred b_NF_firstBarred 7 (some .int) ∈ nz_gd := nz_gm (List.mem_of_getElem? (i := 896) (by decide +kernel)) rfl
theorem k_805 : Cond.methodLink R_law 67 y_NF_instead ∈ nz_gd := nz_gm (List.mem_of_getElem? (i := 897) (by decide +kernel)) rfl
theorem k_806 : Cond.instanceMethod y_NF_instead ∈ nz_gd := nz_gm (List.mem_of_getElem? (i := 898) (by decide +kernel)) rfl
theorem k_807 : Cond.selects R_NF y_NF_instead y_NF_instead ∈ nz_gd := nz_gm (List.mem_of_getElem? (i := 899) (by decide +kernel)) rfl
theorem k_808 : Cond.code y_NF_instead b_NF_instead 6 (some .int) ∈ nz_gd := nz_gm (List.mem_of_getElem? (i := 900) (by decide +kernel)) rfl
theorem k_809 : Cond.methodLink R_NF 176 y_NF_isMeaning ∈ nz_gd := nz_gm (List.mem_of_getElem? (i := 901) (by decide +kernel)) rfl
theorem k_811 : Cond.instanceMethod y_NF_isMeaning ∈ nz_gd := nz_gm (List.mem_of_getElem? (i := 903) (by decide +kernel)) rfl
theorem k_812 : Cond.code y_NF_isMeaning b_NF_isMeaning 2 (some .boolean) ∈ nz_gd := nz_gm (List.mem_of_getElem? (i := 904) (by decide +kernel)) rfl
theorem k_813 : Cond.methodLink R_NF 179 y_Speech_wordFor ∈ nz_gd := nz_gm (List.mem_of_getElem? (i := 905) (by decide +kernel)) rfl
theorem k_814 : Cond.instanceMethod y_Speech_wordFor ∈ nz_gd := nz_gm (List.mem_of_getElem? (i := 906) (by decide +kernel)) rfl
theorem k_815 : Cond.selects R_Speech y_Speech_wordFor y_Speech_wordFor ∈ nz_gd := nz_gm (List.mem_of_getElem? (i := 907) (by decide +kernel)) rfl
theorem k_816 : Cond.code y_Speech_wordFor b_Speech_wordFor 5 (some .int) ∈ nz_gd := nz_gm (List.mem_of_getElem? (i := 908) (by decide +kernel)) rfl
theorem k_817 : Cond.methodLink R_Speech 43 y_Falls_barred ∈ nz_gd := nz_gm (List.mem_of_getElem? (i := 909) (by decide +kernel)) rfl
theorem k_818 : Cond.methodLink R_Speech 49 y_Speech_choose ∈ nz_gd := nz_gm (List.mem_of_getElem? (i := 910) (by decide +kernel)) rfl
theorem k_819 : Cond.static y_Speech_choose ∈ nz_gd := nz_gm (List.mem_of_getElem? (i := 911) (by decide +kernel)) rfl
theorem k_820 : Cond.code y_Speech_choose b_Speech_choose 6 (some .int) ∈ nz_gd := nz_gm (List.mem_of_getElem? (i := 912) (by decide +kernel)) rfl
theorem k_821 : Cond.methodLink R_Speech 53 y_Places_firstOf ∈ nz_gd := nz_gm (List.mem_of_getElem? (i := 913) (by decide +kernel)) rfl
theorem k_822 : Cond.instanceMethod y_Places_firstOf ∈ nz_gd := nz_gm (List.mem_of_getElem? (i := 914) (by decide +kernel)) rfl
theorem k_823 : Cond.selects R_Places y_Places_firstOf y_Places_firstOf ∈ nz_gd := nz_gm (List.mem_of_getElem? (i := 915) (by decide +kernel)) rfl
theorem k_824 : Cond.code y_Places_firstOf b_Places_firstOf 4 (some .int) ∈ nz_gd := nz_gm (List.mem_of_getElem? (i := 916) (by decide +kernel)) rfl
theorem k_825 : Cond.methodLink R_Places 38 y_Places_rowOf ∈ nz_gd := nz_gm (List.mem_of_getElem? (i := 917) (by decide +kernel)) rfl
theorem k_826 : Cond.instanceMethod y_Places_rowOf ∈ nz_gd := nz_gm (List.mem_of_getElem? (i := 918) (by decide +kernel)) rfl
theorem k_827 : Cond.selects R_Places y_Places_rowOf y_Places_rowOf ∈ nz_gd := nz_gm (List.mem_of_getElem? (i := 919) (by decide +kernel)) rfl
theorem k_828 : Cond.code y_Places_rowOf b_Places_rowOf 3 (some .int) ∈ nz_gd := nz_gm (List.mem_of_getElem? (i := 920) (by decide +kernel)) rfl
theorem k_830 : Cond.static y_NF_lowest ∈ nz_gd := nz_gm (List.mem_of_getElem? (i := 922) (by decide +kernel)) rfl
theorem k_831 : Cond.code y_NF_lowest b_NF_lowest 1 (some .int) ∈ nz_gd := nz_gm (List.mem_of_getElem? (i := 923) (by decide +kernel)) rfl
theorem k_832 : Cond.methodLink R_NF 274 y_Intg_bitCount ∈ nz_gd := nz_gm (List.mem_of_getElem? (i := 924) (by decide +kernel)) rfl
theorem k_833 : Cond.static y_Intg_bitCount ∈ nz_gd := nz_gm (List.mem_of_getElem? (i := 925) (by decide +kernel)) rfl
theorem k_834 : Cond.code y_Intg_bitCount b_Intg_bitCount 1 (some .int) ∈ nz_gd := nz_gm (List.mem_of_getElem? (i := 926) (by decide +kernel)) rfl
theorem k_835 : Cond.constant R_Intg 265 (1431655765) ∈ nz_gd := nz_gm (List.mem_of_getElem? (i := 927) (by decide +kernel)) rfl
theorem k_836 : Cond.constant R_Intg 266 (858993459) ∈ nz_gd := nz_gm (List.mem_of_getElem? (i := 928) (by decide +kernel)) rfl
theorem k_837 : Cond.constant R_Intg 267 (252645135) ∈ nz_gd := nz_gm (List.mem_of_getElem? (i := 929) (by decide +kernel)) rfl
theorem k_838 : Cond.methodLink R_law 71 y_NF_cost ∈ nz_gd := nz_gm (List.mem_of_getElem? (i := 930) (by decide +kernel)) rfl
theorem k_839 : Cond.instanceMethod y_NF_cost ∈ nz_gd := nz_gm (List.mem_of_getElem? (i := 931) (by decide +kernel)) rfl
theorem k_840 : Cond.selects R_NF y_NF_cost y_NF_cost ∈ nz_gd := nz_gm (List.mem_of_getElem? (i := 932) (by decide +kernel)) rfl
theorem k_841 : Cond.code y_NF_cost b_NF_cost 6 (some .int) ∈ nz_gd := nz_gm (List.mem_of_getElem? (i := 933) (by decide +kernel)) rfl
theorem k_842 : Cond.methodLink R_NF 183 y_Speech_leastCost ∈ nz_gd := nz_gm (List.mem_of_getElem? (i := 934) (by decide +kernel)) rfl
theorem k_843 : Cond.instanceMethod y_Speech_leastCost ∈ nz_gd := nz_gm (List.mem_of_getElem? (i := 935) (by decide +kernel)) rfl
theorem k_844 : Cond.selects R_Speech y_Speech_leastCost y_Speech_leastCost ∈ nz_gd := nz_gm (List.mem_of_getElem? (i := 936) (by decide +kernel)) rfl
theorem k_845 : Cond.code y_Speech_leastCost b_Speech_leastCost 9 (some .int) ∈ nz_gd := nz_gm (List.mem_of_getElem? (i := 937) (by decide +kernel)) rfl
theorem k_846 : Cond.methodLink R_Speech 70 y_Speech_lowerByTurns ∈ nz_gd := nz_gm (List.mem_of_getElem? (i := 938) (by decide +kernel)) rfl
theorem k_848 : Cond.instanceMethod y_Speech_lowerByTurns ∈ nz_gd := nz_gm (List.mem_of_getElem? (i := 940) (by decide +kernel)) rfl
theorem k_849 : Cond.code y_Speech_lowerByTurns b_Speech_lowerByTurns 7 none ∈ nz_gd := nz_gm (List.mem_of_getElem? (i := 941) (by decide +kernel)) rfl
theorem k_850 : Cond.methodLink R_law 75 y_NF_grasp ∈ nz_gd := nz_gm (List.mem_of_getElem? (i := 942) (by decide +kernel)) rfl
theorem k_851 : Cond.instanceMethod y_NF_grasp ∈ nz_gd := nz_gm (List.mem_of_getElem? (i := 943) (by decide +kernel)) rfl
theorem k_852 : Cond.selects R_NF y_NF_grasp y_NF_grasp ∈ nz_gd := nz_gm (List.mem_of_getElem? (i := 944) (by decide +kernel)) rfl
theorem k_853 : Cond.code y_NF_grasp b_NF_grasp 5 (some .int) ∈ nz_gd := nz_gm (List.mem_of_getElem? (i := 945) (by decide +kernel)) rfl
theorem k_854 : Cond.methodLink R_NF 186 y_Speech_grasped ∈ nz_gd := nz_gm (List.mem_of_getElem? (i := 946) (by decide +kernel)) rfl
theorem k_855 : Cond.instanceMethod y_Speech_grasped ∈ nz_gd := nz_gm (List.mem_of_getElem? (i := 947) (by decide +kernel)) rfl
theorem k_856 : Cond.selects R_Speech y_Speech_grasped y_Speech_grasped ∈ nz_gd := nz_gm (List.mem_of_getElem? (i := 948) (by decide +kernel)) rfl
theorem k_857 : Cond.code y_Speech_grasped b_Speech_grasped 7 (some .int) ∈ nz_gd := nz_gm (List.mem_of_getElem? (i := 949) (by decide +kernel)) rfl
theorem k_858 : Cond.methodLink R_Speech 86 y_Speech_isGrasped ∈ nz_gd := nz_gm (List.mem_of_getElem? (i := 950) (by decide +kernel)) rfl
theorem k_859 : Cond.static y_Speech_isGrasped ∈ nz_gd := nz_gm (List.mem_of_getElem? (i := 951) (by decide +kernel)) rfl
theorem k_860 : Cond.code y_Speech_isGrasped b_Speech_isGrasped 7 (some .boolean) ∈ nz_gd := nz_gm (List.mem_of_getElem? (i := 952) (by decide +kernel)) rfl
theorem k_861 : Cond.methodLink R_Speech 90 y_Places_rowOf ∈ nz_gd := nz_gm (List.mem_of_getElem? (i := 953) (by decide +kernel)) rfl
theorem k_863 : Cond.methodLink R_law 80 y_NF_today ∈ nz_gd := nz_gm (List.mem_of_getElem? (i := 955) (by decide +kernel)) rfl
theorem k_864 : Cond.instanceMethod y_NF_today ∈ nz_gd := nz_gm (List.mem_of_getElem? (i := 956) (by decide +kernel)) rfl
theorem k_865 : Cond.selects R_NF y_NF_today y_NF_today ∈ nz_gd := nz_gm (List.mem_of_getElem? (i := 957) (by decide +kernel)) rfl
theorem k_866 : Cond.code y_NF_today b_NF_today 5 (some .int) ∈ nz_gd := nz_gm (List.mem_of_getElem? (i := 958) (by decide +kernel)) rfl
theorem k_867 : Cond.methodLink R_NF 190 y_NF_isPlace ∈ nz_gd := nz_gm (List.mem_of_getElem? (i := 959) (by decide +kernel)) rfl
theorem k_869 : Cond.instanceMethod y_NF_isPlace ∈ nz_gd := nz_gm (List.mem_of_getElem? (i := 961) (by decide +kernel)) rfl
theorem k_870 : Cond.code y_NF_isPlace b_NF_isPlace 2 (some .boolean) ∈ nz_gd := nz_gm (List.mem_of_getElem? (i := 962) (by decide +kernel)) rfl
theorem k_871 : Cond.methodLink R_NF 197 y_Falls_heldAt ∈ nz_gd := nz_gm (List.mem_of_getElem? (i := 963) (by decide +kernel)) rfl
theorem k_872 : Cond.instanceMethod y_Falls_heldAt ∈ nz_gd := nz_gm (List.mem_of_getElem? (i := 964) (by decide +kernel)) rfl
theorem k_873 : Cond.selects R_Falls y_Falls_heldAt y_Falls_heldAt ∈ nz_gd := nz_gm (List.mem_of_getElem? (i := 965) (by decide +kernel)) rfl
theorem k_874 : Cond.code y_Falls_heldAt b_Falls_heldAt 4 (some .int) ∈ nz_gd := nz_gm (List.mem_of_getElem? (i := 966) (by decide +kernel)) rfl
theorem k_875 : Cond.methodLink R_Falls 121 y_Falls_fallsForAll ∈ nz_gd := nz_gm (List.mem_of_getElem? (i := 967) (by decide +kernel)) rfl
theorem k_877 : Cond.instanceMethod y_Falls_fallsForAll ∈ nz_gd := nz_gm (List.mem_of_getElem? (i := 969) (by decide +kernel)) rfl
theorem k_878 : Cond.code y_Falls_fallsForAll b_Falls_fallsForAll 3 (some .boolean) ∈ nz_gd := nz_gm (List.mem_of_getElem? (i := 970) (by decide +kernel)) rfl
theorem k_879 : Cond.methodLink R_NF 200 y_Places_firstOf ∈ nz_gd := nz_gm (List.mem_of_getElem? (i := 971) (by decide +kernel)) rfl
theorem k_880 : Cond.methodLink R_law 84 y_NF_parted ∈ nz_gd := nz_gm (List.mem_of_getElem? (i := 972) (by decide +kernel)) rfl
theorem k_881 : Cond.instanceMethod y_NF_parted ∈ nz_gd := nz_gm (List.mem_of_getElem? (i := 973) (by decide +kernel)) rfl
theorem k_882 : Cond.selects R_NF y_NF_parted y_NF_parted ∈ nz_gd := nz_gm (List.mem_of_getElem? (i := 974) (by decide +kernel)) rfl
theorem k_883 : Cond.code y_NF_parted b_NF_parted 11 (some .int) ∈ nz_gd := nz_gm (List.mem_of_getElem? (i := 975) (by decide +kernel)) rfl
theorem k_884 : Cond.methodLink R_law 88 y_NF_changes ∈ nz_gd := nz_gm (List.mem_of_getElem? (i := 976) (by decide +kernel)) rfl
theorem k_885 : Cond.instanceMethod y_NF_changes ∈ nz_gd := nz_gm (List.mem_of_getElem? (i := 977) (by decide +kernel)) rfl
theorem k_886 : Cond.selects R_NF y_NF_changes y_NF_changes ∈ nz_gd := nz_gm (List.mem_of_getElem? (i := 978) (by decide +kernel)) rfl
theorem k_887 : Cond.code y_NF_changes b_NF_changes 6 (some .int) ∈ nz_gd := nz_gm (List.mem_of_getElem? (i := 979) (by decide +kernel)) rfl
theorem k_888 : Cond.methodLink R_NF 215 y_NF_isSpan ∈ nz_gd := nz_gm (List.mem_of_getElem? (i := 980) (by decide +kernel)) rfl
theorem k_889 : Cond.static y_NF_isSpan ∈ nz_gd := nz_gm (List.mem_of_getElem? (i := 981) (by decide +kernel)) rfl
theorem k_890 : Cond.code y_NF_isSpan b_NF_isSpan 2 (some .boolean) ∈ nz_gd := nz_gm (List.mem_of_getElem? (i := 982) (by decide +kernel)) rfl
theorem k_891 : Cond.methodLink R_NF 218 y_NF_countChanges ∈ nz_gd := nz_gm (List.mem_of_getElem? (i := 983) (by decide +kernel)) rfl
theorem k_893 : Cond.instanceMethod y_NF_countChanges ∈ nz_gd := nz_gm (List.mem_of_getElem? (i := 985) (by decide +kernel)) rfl
theorem k_894 : Cond.code y_NF_countChanges b_NF_countChanges 8 none ∈ nz_gd := nz_gm (List.mem_of_getElem? (i := 986) (by decide +kernel)) rfl
theorem k_895 : Cond.methodLink R_NF 293 y_Falls_turnTo ∈ nz_gd := nz_gm (List.mem_of_getElem? (i := 987) (by decide +kernel)) rfl
theorem k_896 : Cond.methodLink R_law 92 y_NF_renewed ∈ nz_gd := nz_gm (List.mem_of_getElem? (i := 988) (by decide +kernel)) rfl
theorem k_897 : Cond.instanceMethod y_NF_renewed ∈ nz_gd := nz_gm (List.mem_of_getElem? (i := 989) (by decide +kernel)) rfl
theorem k_898 : Cond.selects R_NF y_NF_renewed y_NF_renewed ∈ nz_gd := nz_gm (List.mem_of_getElem? (i := 990) (by decide +kernel)) rfl
theorem k_899 : Cond.code y_NF_renewed b_NF_renewed 8 (some .int) ∈ nz_gd := nz_gm (List.mem_of_getElem? (i := 991) (by decide +kernel)) rfl
theorem k_900 : Cond.methodLink R_law 96 y_NF_tell ∈ nz_gd := nz_gm (List.mem_of_getElem? (i := 992) (by decide +kernel)) rfl
theorem k_901 : Cond.instanceMethod y_NF_tell ∈ nz_gd := nz_gm (List.mem_of_getElem? (i := 993) (by decide +kernel)) rfl
theorem k_902 : Cond.selects R_NF y_NF_tell y_NF_tell ∈ nz_gd := nz_gm (List.mem_of_getElem? (i := 994) (by decide +kernel)) rfl
theorem k_903 : Cond.code y_NF_tell b_NF_tell 6 (some .int) ∈ nz_gd := nz_gm (List.mem_of_getElem? (i := 995) (by decide +kernel)) rfl
theorem k_904 : Cond.methodLink R_NF 222 y_Speech_findWay ∈ nz_gd := nz_gm (List.mem_of_getElem? (i := 996) (by decide +kernel)) rfl
theorem k_905 : Cond.instanceMethod y_Speech_findWay ∈ nz_gd := nz_gm (List.mem_of_getElem? (i := 997) (by decide +kernel)) rfl
theorem k_906 : Cond.selects R_Speech y_Speech_findWay y_Speech_findWay ∈ nz_gd := nz_gm (List.mem_of_getElem? (i := 998) (by decide +kernel)) rfl
theorem k_907 : Cond.code y_Speech_findWay b_Speech_findWay 10 (some .int) ∈ nz_gd := nz_gm (List.mem_of_getElem? (i := 999) (by decide +kernel)) rfl
theorem k_908 : Cond.methodLink R_Speech 106 y_Speech_passes ∈ nz_gd := nz_gm (List.mem_of_getElem? (i := 1000) (by decide +kernel)) rfl
theorem k_910 : Cond.instanceMethod y_Speech_passes ∈ nz_gd := nz_gm (List.mem_of_getElem? (i := 1002) (by decide +kernel)) rfl
theorem k_911 : Cond.code y_Speech_passes b_Speech_passes 5 (some .boolean) ∈ nz_gd := nz_gm (List.mem_of_getElem? (i := 1003) (by decide +kernel)) rfl
theorem k_912 : Cond.methodLink R_Speech 98 y_Falls_isAlive ∈ nz_gd := nz_gm (List.mem_of_getElem? (i := 1004) (by decide +kernel)) rfl
theorem k_913 : Cond.methodLink R_Speech 110 y_Speech_layWay ∈ nz_gd := nz_gm (List.mem_of_getElem? (i := 1005) (by decide +kernel)) rfl
theorem k_915 : Cond.instanceMethod y_Speech_layWay ∈ nz_gd := nz_gm (List.mem_of_getElem? (i := 1007) (by decide +kernel)) rfl
theorem k_916 : Cond.code y_Speech_layWay b_Speech_layWay 6 (some .int) ∈ nz_gd := nz_gm (List.mem_of_getElem? (i := 1008) (by decide +kernel)) rfl
theorem k_917 : Cond.methodLink R_law 100 y_NF_told ∈ nz_gd := nz_gm (List.mem_of_getElem? (i := 1009) (by decide +kernel)) rfl
theorem k_918 : Cond.instanceMethod y_NF_told ∈ nz_gd := nz_gm (List.mem_of_getElem? (i := 1010) (by decide +kernel)) rfl
theorem k_919 : Cond.selects R_NF y_NF_told y_NF_told ∈ nz_gd := nz_gm (List.mem_of_getElem? (i := 1011) (by decide +kernel)) rfl
theorem k_920 : Cond.code y_NF_told b_NF_told 8 (some .int) ∈ nz_gd := nz_gm (List.mem_of_getElem? (i := 1012) (by decide +kernel)) rfl
theorem k_921 : Cond.methodLink R_NF 225 y_Speech_onWay ∈ nz_gd := nz_gm (List.mem_of_getElem? (i := 1013) (by decide +kernel)) rfl
theorem k_922 : Cond.instanceMethod y_Speech_onWay ∈ nz_gd := nz_gm (List.mem_of_getElem? (i := 1014) (by decide +kernel)) rfl
theorem k_923 : Cond.selects R_Speech y_Speech_onWay y_Speech_onWay ∈ nz_gd := nz_gm (List.mem_of_getElem? (i := 1015) (by decide +kernel)) rfl
theorem k_924 : Cond.code y_Speech_onWay b_Speech_onWay 2 (some .int) ∈ nz_gd := nz_gm (List.mem_of_getElem? (i := 1016) (by decide +kernel)) rfl
theorem k_925 : Cond.methodLink R_law 105 y_NF_safe ∈ nz_gd := nz_gm (List.mem_of_getElem? (i := 1017) (by decide +kernel)) rfl
theorem k_926 : Cond.instanceMethod y_NF_safe ∈ nz_gd := nz_gm (List.mem_of_getElem? (i := 1018) (by decide +kernel)) rfl
theorem k_927 : Cond.selects R_NF y_NF_safe y_NF_safe ∈ nz_gd := nz_gm (List.mem_of_getElem? (i := 1019) (by decide +kernel)) rfl
theorem k_928 : Cond.code y_NF_safe b_NF_safe 6 (some .int) ∈ nz_gd := nz_gm (List.mem_of_getElem? (i := 1020) (by decide +kernel)) rfl
theorem k_929 : Cond.methodLink R_NF 235 y_Persons_soundsLike ∈ nz_gd := nz_gm (List.mem_of_getElem? (i := 1021) (by decide +kernel)) rfl
theorem k_930 : Cond.methodLink R_law 109 y_NF_hurt ∈ nz_gd := nz_gm (List.mem_of_getElem? (i := 1022) (by decide +kernel)) rfl
theorem k_931 : Cond.instanceMethod y_NF_hurt ∈ nz_gd := nz_gm (List.mem_of_getElem? (i := 1023) (by decide +kernel)) rfl
theorem k_932 : Cond.selects R_NF y_NF_hurt y_NF_hurt ∈ nz_gd := nz_gm (List.mem_of_getElem? (i := 1024) (by decide +kernel)) rfl
theorem k_933 : Cond.code y_NF_hurt b_NF_hurt 5 (some .int) ∈ nz_gd := nz_gm (List.mem_of_getElem? (i := 1025) (by decide +kernel)) rfl
theorem k_934 : Cond.methodLink R_NF 238 y_NF_hurtOf ∈ nz_gd := nz_gm (List.mem_of_getElem? (i := 1026) (by decide +kernel)) rfl
theorem k_936 : Cond.instanceMethod y_NF_hurtOf ∈ nz_gd := nz_gm (List.mem_of_getElem? (i := 1028) (by decide +kernel)) rfl
theorem k_937 : Cond.code y_NF_hurtOf b_NF_hurtOf 6 (some .int) ∈ nz_gd := nz_gm (List.mem_of_getElem? (i := 1029) (by decide +kernel)) rfl
theorem k_938 : Cond.methodLink R_NF 296 y_Words_soundsLike ∈ nz_gd := nz_gm (List.mem_of_getElem? (i := 1030) (by decide +kernel)) rfl
theorem k_939 : Cond.instanceMethod y_Words_soundsLike ∈ nz_gd := nz_gm (List.mem_of_getElem? (i := 1031) (by decide +kernel)) rfl
theorem k_940 : Cond.selects R_Words y_Words_soundsLike y_Words_soundsLike ∈ nz_gd := nz_gm (List.mem_of_getElem? (i := 1032) (by decide +kernel)) rfl
theorem k_941 : Cond.code y_Words_soundsLike b_Words_soundsLike 3 (some .int) ∈ nz_gd := nz_gm (List.mem_of_getElem? (i := 1033) (by decide +kernel)) rfl
theorem k_942 : Cond.methodLink R_NF 297 y_Places_allWords ∈ nz_gd := nz_gm (List.mem_of_getElem? (i := 1034) (by decide +kernel)) rfl
theorem k_943 : Cond.instanceMethod y_Places_allWords ∈ nz_gd := nz_gm (List.mem_of_getElem? (i := 1035) (by decide +kernel)) rfl
theorem k_944 : Cond.selects R_Places y_Places_allWords y_Places_allWords ∈ nz_gd := nz_gm (List.mem_of_getElem? (i := 1036) (by decide +kernel)) rfl
theorem k_945 : Cond.code y_Places_allWords b_Places_allWords 4 (some .int) ∈ nz_gd := nz_gm (List.mem_of_getElem? (i := 1037) (by decide +kernel)) rfl
theorem k_946 : Cond.methodLink R_NF 300 y_Falls_comingBack ∈ nz_gd := nz_gm (List.mem_of_getElem? (i := 1038) (by decide +kernel)) rfl
theorem k_947 : Cond.instanceMethod y_Falls_comingBack ∈ nz_gd := nz_gm (List.mem_of_getElem? (i := 1039) (by decide +kernel)) rfl
theorem k_948 : Cond.selects R_Falls y_Falls_comingBack y_Falls_comingBack ∈ nz_gd := nz_gm (List.mem_of_getElem? (i := 1040) (by decide +kernel)) rfl
theorem k_949 : Cond.code y_Falls_comingBack b_Falls_comingBack 7 (some .int) ∈ nz_gd := nz_gm (List.mem_of_getElem? (i := 1041) (by decide +kernel)) rfl
theorem k_950 : Cond.methodLink R_law 113 y_NF_child ∈ nz_gd := nz_gm (List.mem_of_getElem? (i := 1042) (by decide +kernel)) rfl
theorem k_951 : Cond.instanceMethod y_NF_child ∈ nz_gd := nz_gm (List.mem_of_getElem? (i := 1043) (by decide +kernel)) rfl
theorem k_952 : Cond.selects R_NF y_NF_child y_NF_child ∈ nz_gd := nz_gm (List.mem_of_getElem? (i := 1044) (by decide +kernel)) rfl
theorem k_953 : Cond.code y_NF_child b_NF_child 9 (some .int) ∈ nz_gd := nz_gm (List.mem_of_getElem? (i := 1045) (by decide +kernel)) rfl
theorem k_954 : Cond.methodLink R_law 117 y_NF_mean ∈ nz_gd := nz_gm (List.mem_of_getElem? (i := 1046) (by decide +kernel)) rfl
theorem k_955 : Cond.instanceMethod y_NF_mean ∈ nz_gd := nz_gm (List.mem_of_getElem? (i := 1047) (by decide +kernel)) rfl
theorem k_956 : Cond.selects R_NF y_NF_mean y_NF_mean ∈ nz_gd := nz_gm (List.mem_of_getElem? (i := 1048) (by decide +kernel)) rfl
theorem k_957 : Cond.code y_NF_mean b_NF_mean 7 (some .long) ∈ nz_gd := nz_gm (List.mem_of_getElem? (i := 1049) (by decide +kernel)) rfl
theorem k_958 : Cond.constantLong R_NF 242 (-1) ∈ nz_gd := nz_gm (List.mem_of_getElem? (i := 1050) (by decide +kernel)) rfl
theorem k_959 : Cond.methodLink R_NF 244 y_Chances_gather ∈ nz_gd := nz_gm (List.mem_of_getElem? (i := 1051) (by decide +kernel)) rfl
theorem k_960 : Cond.instanceMethod y_Chances_gather ∈ nz_gd := nz_gm (List.mem_of_getElem? (i := 1052) (by decide +kernel)) rfl
theorem k_961 : Cond.selects R_Chances y_Chances_gather y_Chances_gather ∈ nz_gd := nz_gm (List.mem_of_getElem? (i := 1053) (by decide +kernel)) rfl
theorem k_962 : Cond.code y_Chances_gather b_Chances_gather 5 (some .boolean) ∈ nz_gd := nz_gm (List.mem_of_getElem? (i := 1054) (by decide +kernel)) rfl
theorem k_963 : Cond.methodLink R_Chances 37 y_Falls_isAlive ∈ nz_gd := nz_gm (List.mem_of_getElem? (i := 1055) (by decide +kernel)) rfl
theorem k_964 : Cond.methodLink R_Chances 43 y_Falls_heldIfDead ∈ nz_gd := nz_gm (List.mem_of_getElem? (i := 1056) (by decide +kernel)) rfl
theorem k_965 : Cond.instanceMethod y_Falls_heldIfDead ∈ nz_gd := nz_gm (List.mem_of_getElem? (i := 1057) (by decide +kernel)) rfl
theorem k_966 : Cond.selects R_Falls y_Falls_heldIfDead y_Falls_heldIfDead ∈ nz_gd := nz_gm (List.mem_of_getElem? (i := 1058) (by decide +kernel)) rfl
theorem k_967 : Cond.code y_Falls_heldIfDead b_Falls_heldIfDead 4 (some .int) ∈ nz_gd := nz_gm (List.mem_of_getElem? (i := 1059) (by decide +kernel)) rfl
theorem k_968 : Cond.constantLong R_NF 248 (-2) ∈ nz_gd := nz_gm (List.mem_of_getElem? (i := 1060) (by decide +kernel)) rfl
theorem k_969 : Cond.methodLink R_NF 250 y_Chances_countCases ∈ nz_gd := nz_gm (List.mem_of_getElem? (i := 1061) (by decide +kernel)) rfl
theorem k_970 : Cond.instanceMethod y_Chances_countCases ∈ nz_gd := nz_gm (List.mem_of_getElem? (i := 1062) (by decide +kernel)) rfl
theorem k_971 : Cond.selects R_Chances y_Chances_countCases y_Chances_countCases ∈ nz_gd := nz_gm (List.mem_of_getElem? (i := 1063) (by decide +kernel)) rfl
theorem k_972 : Cond.code y_Chances_countCases b_Chances_countCases 7 none ∈ nz_gd := nz_gm (List.mem_of_getElem? (i := 1064) (by decide +kernel)) rfl
theorem k_974 : Cond.methodLink R_Chances 51 y_Intg_bitCount ∈ nz_gd := nz_gm (List.mem_of_getElem? (i := 1066) (by decide +kernel)) rfl
theorem k_975 : Cond.methodLink R_Chances 57 y_Chances_countTodays ∈ nz_gd := nz_gm (List.mem_of_getElem? (i := 1067) (by decide +kernel)) rfl
theorem k_976 : Cond.static y_Chances_countTodays ∈ nz_gd := nz_gm (List.mem_of_getElem? (i := 1068) (by decide +kernel)) rfl
theorem k_977 : Cond.code y_Chances_countTodays b_Chances_countTodays 5 (some .int) ∈ nz_gd := nz_gm (List.mem_of_getElem? (i := 1069) (by decide +kernel)) rfl
theorem k_978 : Cond.methodLink R_Chances 72 y_Places_rowOf ∈ nz_gd := nz_gm (List.mem_of_getElem? (i := 1070) (by decide +kernel)) rfl
theorem k_979 : Cond.methodLink R_NF 254 y_Chances_weigh ∈ nz_gd := nz_gm (List.mem_of_getElem? (i := 1071) (by decide +kernel)) rfl
theorem k_980 : Cond.instanceMethod y_Chances_weigh ∈ nz_gd := nz_gm (List.mem_of_getElem? (i := 1072) (by decide +kernel)) rfl
theorem k_981 : Cond.selects R_Chances y_Chances_weigh y_Chances_weigh ∈ nz_gd := nz_gm (List.mem_of_getElem? (i := 1073) (by decide +kernel)) rfl
theorem k_982 : Cond.code y_Chances_weigh b_Chances_weigh 8 none ∈ nz_gd := nz_gm (List.mem_of_getElem? (i := 1074) (by decide +kernel)) rfl
theorem k_983 : Cond.methodLink R_Chances 77 y_Chances_power ∈ nz_gd := nz_gm (List.mem_of_getElem? (i := 1075) (by decide +kernel)) rfl
theorem k_984 : Cond.static y_Chances_power ∈ nz_gd := nz_gm (List.mem_of_getElem? (i := 1076) (by decide +kernel)) rfl
theorem k_985 : Cond.code y_Chances_power b_Chances_power 5 (some .long) ∈ nz_gd := nz_gm (List.mem_of_getElem? (i := 1077) (by decide +kernel)) rfl
theorem k_986 : Cond.methodLink R_Chances 81 y_Chances_commonDivisor ∈ nz_gd := nz_gm (List.mem_of_getElem? (i := 1078) (by decide +kernel)) rfl
theorem k_987 : Cond.static y_Chances_commonDivisor ∈ nz_gd := nz_gm (List.mem_of_getElem? (i := 1079) (by decide +kernel)) rfl
theorem k_988 : Cond.code y_Chances_commonDivisor b_Chances_commonDivisor 11 (some .long) ∈ nz_gd := nz_gm (List.mem_of_getElem? (i := 1080) (by decide +kernel)) rfl
theorem k_989 : Cond.methodLink R_law 122 y_NF_wish ∈ nz_gd := nz_gm (List.mem_of_getElem? (i := 1081) (by decide +kernel)) rfl
theorem k_990 : Cond.instanceMethod y_NF_wish ∈ nz_gd := nz_gm (List.mem_of_getElem? (i := 1082) (by decide +kernel)) rfl
theorem k_991 : Cond.selects R_NF y_NF_wish y_NF_wish ∈ nz_gd := nz_gm (List.mem_of_getElem? (i := 1083) (by decide +kernel)) rfl
theorem k_992 : Cond.code y_NF_wish b_NF_wish 9 (some .int) ∈ nz_gd := nz_gm (List.mem_of_getElem? (i := 1084) (by decide +kernel)) rfl
theorem k_993 : Cond.methodLink R_NF 264 y_Falls_suppose ∈ nz_gd := nz_gm (List.mem_of_getElem? (i := 1085) (by decide +kernel)) rfl
theorem k_994 : Cond.methodLink R_NF 267 y_Speech_graspedByAll ∈ nz_gd := nz_gm (List.mem_of_getElem? (i := 1086) (by decide +kernel)) rfl
theorem k_995 : Cond.instanceMethod y_Speech_graspedByAll ∈ nz_gd := nz_gm (List.mem_of_getElem? (i := 1087) (by decide +kernel)) rfl
theorem k_996 : Cond.selects R_Speech y_Speech_graspedByAll y_Speech_graspedByAll ∈ nz_gd := nz_gm (List.mem_of_getElem? (i := 1088) (by decide +kernel)) rfl
theorem k_997 : Cond.code y_Speech_graspedByAll b_Speech_graspedByAll 6 (some .int) ∈ nz_gd := nz_gm (List.mem_of_getElem? (i := 1089) (by decide +kernel)) rfl
theorem k_998 : Cond.methodLink R_Speech 102 y_Speech_grasped ∈ nz_gd := nz_gm (List.mem_of_getElem? (i := 1090) (by decide +kernel)) rfl
theorem k_999 : Cond.methodLink R_law 126 y_NF_old ∈ nz_gd := nz_gm (List.mem_of_getElem? (i := 1091) (by decide +kernel)) rfl
theorem k_1000 : Cond.instanceMethod y_NF_old ∈ nz_gd := nz_gm (List.mem_of_getElem? (i := 1092) (by decide +kernel)) rfl
theorem k_1001 : Cond.selects R_NF y_NF_old y_NF_old ∈ nz_gd := nz_gm (List.mem_of_getElem? (i := 1093) (by decide +kernel)) rfl
theorem k_1002 : Cond.code y_NF_old b_NF_old 4 (some .int) ∈ nz_gd := nz_gm (List.mem_of_getElem? (i := 1094) (by decide +kernel)) rfl
theorem k_1003 : Cond.methodLink R_NF 271 y_Places_inAllRows ∈ nz_gd := nz_gm (List.mem_of_getElem? (i := 1095) (by decide +kernel)) rfl
theorem k_1004 : Cond.instanceMethod y_Places_inAllRows ∈ nz_gd := nz_gm (List.mem_of_getElem? (i := 1096) (by decide +kernel)) rfl
theorem k_1005 : Cond.selects R_Places y_Places_inAllRows y_Places_inAllRows ∈ nz_gd := nz_gm (List.mem_of_getElem? (i := 1097) (by decide +kernel)) rfl
theorem k_1006 : Cond.code y_Places_inAllRows b_Places_inAllRows 4 (some .int) ∈ nz_gd := nz_gm (List.mem_of_getElem? (i := 1098) (by decide +kernel)) rfl
theorem k_1007 : Cond.methodLink R_NF 279 y_NF_lowest ∈ nz_gd := nz_gm (List.mem_of_getElem? (i := 1099) (by decide +kernel)) rfl
theorem k_1008 : Cond.methodLink R_law 130 y_NF_about ∈ nz_gd := nz_gm (List.mem_of_getElem? (i := 1100) (by decide +kernel)) rfl
theorem k_1009 : Cond.instanceMethod y_NF_about ∈ nz_gd := nz_gm (List.mem_of_getElem? (i := 1101) (by decide +kernel)) rfl
theorem k_1010 : Cond.selects R_NF y_NF_about y_NF_about ∈ nz_gd := nz_gm (List.mem_of_getElem? (i := 1102) (by decide +kernel)) rfl
theorem k_1011 : Cond.code y_NF_about b_NF_about 2 (some .int) ∈ nz_gd := nz_gm (List.mem_of_getElem? (i := 1103) (by decide +kernel)) rfl
theorem k_1012 : Cond.classLink R_law 10 R_Mo ∈ nz_gd := nz_gm (List.mem_of_getElem? (i := 1104) (by decide +kernel)) rfl
theorem k_1013 : Cond.instantiable R_Mo 55 ∈ nz_gd := nz_gm (List.mem_of_getElem? (i := 1105) (by decide +kernel)) rfl
theorem k_1014 : Cond.methodLink R_law 12 y_Mo_init ∈ nz_gd := nz_gm (List.mem_of_getElem? (i := 1106) (by decide +kernel)) rfl
theorem k_1015 : Cond.instanceMethod y_Mo_init ∈ nz_gd := nz_gm (List.mem_of_getElem? (i := 1107) (by decide +kernel)) rfl
theorem k_1016 : Cond.code y_Mo_init b_Mo_init 1 none ∈ nz_gd := nz_gm (List.mem_of_getElem? (i := 1108) (by decide +kernel)) rfl
theorem k_1017 : Cond.methodLink R_Mo 1 Lib.objectInit ∈ nz_gd := nz_gm (List.mem_of_getElem? (i := 1109) (by decide +kernel)) rfl
theorem k_1018 : Cond.fieldLink R_Mo 7 "NameFallModel" "tape" "[B" ∈ nz_gd := nz_gm (List.mem_of_getElem? (i := 1110) (by decide +kernel)) rfl
theorem k_1019 : Cond.fieldLink R_Mo 13 "NameFallModel" "text" "[B" ∈ nz_gd := nz_gm (List.mem_of_getElem? (i := 1111) (by decide +kernel)) rfl
theorem k_1020 : Cond.fieldLink R_Mo 237 "NameFallModel" "taped" "I" ∈ nz_gd := nz_gm (List.mem_of_getElem? (i := 1112) (by decide +kernel)) rfl
theorem k_1021 : Cond.fieldLink R_Mo 142 "NameFallModel" "size" "I" ∈ nz_gd := nz_gm (List.mem_of_getElem? (i := 1113) (by decide +kernel)) rfl
theorem k_1022 : Cond.fieldLink R_Mo 145 "NameFallModel" "faultKind" "I" ∈ nz_gd := nz_gm (List.mem_of_getElem? (i := 1114) (by decide +kernel)) rfl
theorem k_1023 : Cond.fieldLink R_Mo 16 "NameFallModel" "faultPlace" "I" ∈ nz_gd := nz_gm (List.mem_of_getElem? (i := 1115) (by decide +kernel)) rfl
theorem k_1024 : Cond.fieldLink R_Mo 195 "NameFallModel" "at" "I" ∈ nz_gd := nz_gm (List.mem_of_getElem? (i := 1116) (by decide +kernel)) rfl
theorem k_1025 : Cond.fieldLink R_Mo 192 "NameFallModel" "end" "I" ∈ nz_gd := nz_gm (List.mem_of_getElem? (i := 1117) (by decide +kernel)) rfl
theorem k_1026 : Cond.fieldLink R_Mo 202 "NameFallModel" "token" "I" ∈ nz_gd := nz_gm (List.mem_of_getElem? (i := 1118) (by decide +kernel)) rfl
theorem k_1027 : Cond.fieldLink R_Mo 220 "NameFallModel" "number" "I" ∈ nz_gd := nz_gm (List.mem_of_getElem? (i := 1119) (by decide +kernel)) rfl
theorem k_1028 : Cond.fieldLink R_Mo 209 "NameFallModel" "name" "J" ∈ nz_gd := nz_gm (List.mem_of_getElem? (i := 1120) (by decide +kernel)) rfl
theorem k_1029 : Cond.fieldLink R_Mo 20 "NameFallModel" "places" "[I" ∈ nz_gd := nz_gm (List.mem_of_getElem? (i := 1121) (by decide +kernel)) rfl
theorem k_1030 : Cond.fieldLink R_Mo 24 "NameFallModel" "meanings" "[I" ∈ nz_gd := nz_gm (List.mem_of_getElem? (i := 1122) (by decide +kernel)) rfl
theorem k_1031 : Cond.fieldLink R_Mo 27 "NameFallModel" "words" "[I" ∈ nz_gd := nz_gm (List.mem_of_getElem? (i := 1123) (by decide +kernel)) rfl
theorem k_1032 : Cond.fieldLink R_Mo 30 "NameFallModel" "turns" "[I" ∈ nz_gd := nz_gm (List.mem_of_getElem? (i := 1124) (by decide +kernel)) rfl
theorem k_1033 : Cond.fieldLink R_Mo 33 "NameFallModel" "persons" "[I" ∈ nz_gd := nz_gm (List.mem_of_getElem? (i := 1125) (by decide +kernel)) rfl
theorem k_1034 : Cond.fieldLink R_Mo 36 "NameFallModel" "talks" "[I" ∈ nz_gd := nz_gm (List.mem_of_getElem? (i := 1126) (by decide +kernel)) rfl
theorem k_1035 : Cond.fieldLink R_Mo 39 "NameFallModel" "lines" "[I" ∈ nz_gd := nz_gm (List.mem_of_getElem? (i := 1127) (by decide +kernel)) rfl
theorem k_1036 : Cond.fieldLink R_Mo 42 "NameFallModel" "pName" "[J" ∈ nz_gd := nz_gm (List.mem_of_getElem? (i := 1128) (by decide +kernel)) rfl
theorem k_1037 : Cond.fieldLink R_Mo 46 "NameFallModel" "mName" "[J" ∈ nz_gd := nz_gm (List.mem_of_getElem? (i := 1129) (by decide +kernel)) rfl
theorem k_1038 : Cond.fieldLink R_Mo 49 "NameFallModel" "wName" "[J" ∈ nz_gd := nz_gm (List.mem_of_getElem? (i := 1130) (by decide +kernel)) rfl
theorem k_1039 : Cond.fieldLink R_Mo 52 "NameFallModel" "hName" "[J" ∈ nz_gd := nz_gm (List.mem_of_getElem? (i := 1131) (by decide +kernel)) rfl
theorem k_1040 : Cond.fieldLink R_Mo 55 "NameFallModel" "called" "[J" ∈ nz_gd := nz_gm (List.mem_of_getElem? (i := 1132) (by decide +kernel)) rfl
theorem k_1041 : Cond.fieldLink R_Mo 58 "NameFallModel" "custom" "[I" ∈ nz_gd := nz_gm (List.mem_of_getElem? (i := 1133) (by decide +kernel)) rfl
theorem k_1042 : Cond.fieldLink R_Mo 61 "NameFallModel" "alike" "[I" ∈ nz_gd := nz_gm (List.mem_of_getElem? (i := 1134) (by decide +kernel)) rfl
theorem k_1043 : Cond.fieldLink R_Mo 64 "NameFallModel" "near" "[I" ∈ nz_gd := nz_gm (List.mem_of_getElem? (i := 1135) (by decide +kernel)) rfl
theorem k_1044 : Cond.fieldLink R_Mo 67 "NameFallModel" "lasts" "[I" ∈ nz_gd := nz_gm (List.mem_of_getElem? (i := 1136) (by decide +kernel)) rfl
theorem k_1045 : Cond.fieldLink R_Mo 70 "NameFallModel" "back" "[I" ∈ nz_gd := nz_gm (List.mem_of_getElem? (i := 1137) (by decide +kernel)) rfl
theorem k_1046 : Cond.fieldLink R_Mo 73 "NameFallModel" "wMeaning" "[I" ∈ nz_gd := nz_gm (List.mem_of_getElem? (i := 1138) (by decide +kernel)) rfl
theorem k_1047 : Cond.fieldLink R_Mo 76 "NameFallModel" "wPlaces" "[I" ∈ nz_gd := nz_gm (List.mem_of_getElem? (i := 1139) (by decide +kernel)) rfl
theorem k_1048 : Cond.fieldLink R_Mo 79 "NameFallModel" "turnOf" "[I" ∈ nz_gd := nz_gm (List.mem_of_getElem? (i := 1140) (by decide +kernel)) rfl
theorem k_1049 : Cond.fieldLink R_Mo 82 "NameFallModel" "turnOne" "[I" ∈ nz_gd := nz_gm (List.mem_of_getElem? (i := 1141) (by decide +kernel)) rfl
theorem k_1050 : Cond.fieldLink R_Mo 85 "NameFallModel" "turnTwo" "[I" ∈ nz_gd := nz_gm (List.mem_of_getElem? (i := 1142) (by decide +kernel)) rfl
theorem k_1051 : Cond.fieldLink R_Mo 88 "NameFallModel" "home" "[I" ∈ nz_gd := nz_gm (List.mem_of_getElem? (i := 1143) (by decide +kernel)) rfl
theorem k_1052 : Cond.fieldLink R_Mo 91 "NameFallModel" "born" "[I" ∈ nz_gd := nz_gm (List.mem_of_getElem? (i := 1144) (by decide +kernel)) rfl
theorem k_1053 : Cond.fieldLink R_Mo 94 "NameFallModel" "parentOne" "[I" ∈ nz_gd := nz_gm (List.mem_of_getElem? (i := 1145) (by decide +kernel)) rfl
theorem k_1054 : Cond.fieldLink R_Mo 97 "NameFallModel" "parentTwo" "[I" ∈ nz_gd := nz_gm (List.mem_of_getElem? (i := 1146) (by decide +kernel)) rfl
theorem k_1055 : Cond.fieldLink R_Mo 100 "NameFallModel" "talkOne" "[I" ∈ nz_gd := nz_gm (List.mem_of_getElem? (i := 1147) (by decide +kernel)) rfl
theorem k_1056 : Cond.fieldLink R_Mo 103 "NameFallModel" "talkTwo" "[I" ∈ nz_gd := nz_gm (List.mem_of_getElem? (i := 1148) (by decide +kernel)) rfl
theorem k_1057 : Cond.fieldLink R_Mo 240 "NameFallModel" "bank" "I" ∈ nz_gd := nz_gm (List.mem_of_getElem? (i := 1149) (by decide +kernel)) rfl
theorem k_1058 : Cond.fieldLink R_Mo 243 "NameFallModel" "rb" "I" ∈ nz_gd := nz_gm (List.mem_of_getElem? (i := 1150) (by decide +kernel)) rfl
theorem k_1059 : Cond.fieldLink R_Mo 106 "NameFallModel" "dPerson" "[I" ∈ nz_gd := nz_gm (List.mem_of_getElem? (i := 1151) (by decide +kernel)) rfl
theorem k_1060 : Cond.fieldLink R_Mo 109 "NameFallModel" "dYear" "[I" ∈ nz_gd := nz_gm (List.mem_of_getElem? (i := 1152) (by decide +kernel)) rfl
theorem k_1061 : Cond.fieldLink R_Mo 112 "NameFallModel" "dTold" "[I" ∈ nz_gd := nz_gm (List.mem_of_getElem? (i := 1153) (by decide +kernel)) rfl
theorem k_1062 : Cond.fieldLink R_Mo 115 "NameFallModel" "dUntold" "[I" ∈ nz_gd := nz_gm (List.mem_of_getElem? (i := 1154) (by decide +kernel)) rfl
theorem k_1063 : Cond.fieldLink R_Mo 249 "NameFallModel" "deaths" "I" ∈ nz_gd := nz_gm (List.mem_of_getElem? (i := 1155) (by decide +kernel)) rfl
theorem k_1064 : Cond.fieldLink R_Mo 318 "NameFallModel" "time" "I" ∈ nz_gd := nz_gm (List.mem_of_getElem? (i := 1156) (by decide +kernel)) rfl
theorem k_1065 : Cond.fieldLink R_Mo 118 "NameFallModel" "died" "[I" ∈ nz_gd := nz_gm (List.mem_of_getElem? (i := 1157) (by decide +kernel)) rfl
theorem k_1066 : Cond.fieldLink R_Mo 121 "NameFallModel" "steps" "[I" ∈ nz_gd := nz_gm (List.mem_of_getElem? (i := 1158) (by decide +kernel)) rfl
theorem k_1067 : Cond.fieldLink R_Mo 124 "NameFallModel" "ways" "[I" ∈ nz_gd := nz_gm (List.mem_of_getElem? (i := 1159) (by decide +kernel)) rfl
theorem k_1068 : Cond.fieldLink R_Mo 127 "NameFallModel" "costs" "[I" ∈ nz_gd := nz_gm (List.mem_of_getElem? (i := 1160) (by decide +kernel)) rfl
theorem k_1069 : Cond.fieldLink R_Mo 130 "NameFallModel" "foundFrom" "[I" ∈ nz_gd := nz_gm (List.mem_of_getElem? (i := 1161) (by decide +kernel)) rfl
theorem k_1070 : Cond.fieldLink R_Mo 133 "NameFallModel" "line" "[I" ∈ nz_gd := nz_gm (List.mem_of_getElem? (i := 1162) (by decide +kernel)) rfl
theorem k_1071 : Cond.fieldLink R_Mo 136 "NameFallModel" "way" "[I" ∈ nz_gd := nz_gm (List.mem_of_getElem? (i := 1163) (by decide +kernel)) rfl
theorem k_1072 : Cond.fieldLink R_Mo 139 "NameFallModel" "living" "[I" ∈ nz_gd := nz_gm (List.mem_of_getElem? (i := 1164) (by decide +kernel)) rfl
theorem k_1184 : Cond.methodLink R_law 27 y_Mo_land ∈ nz_gd := nz_gm (List.mem_of_getElem? (i := 1276) (by decide +kernel)) rfl
theorem k_1185 : Cond.instanceMethod y_Mo_land ∈ nz_gd := nz_gm (List.mem_of_getElem? (i := 1277) (by decide +kernel)) rfl
theorem k_1186 : Cond.selects R_Mo y_Mo_land y_Mo_land ∈ nz_gd := nz_gm (List.mem_of_getElem? (i := 1278) (by decide +kernel)) rfl
theorem k_1187 : Cond.code y_Mo_land b_Mo_land 2 (some .int) ∈ nz_gd := nz_gm (List.mem_of_getElem? (i := 1279) (by decide +kernel)) rfl
theorem k_1188 : Cond.methodLink R_Mo 231 y_Mo_goOn ∈ nz_gd := nz_gm (List.mem_of_getElem? (i := 1280) (by decide +kernel)) rfl
theorem k_1190 : Cond.instanceMethod y_Mo_goOn ∈ nz_gd := nz_gm (List.mem_of_getElem? (i := 1282) (by decide +kernel)) rfl
theorem k_1191 : Cond.code y_Mo_goOn b_Mo_goOn 3 none ∈ nz_gd := nz_gm (List.mem_of_getElem? (i := 1283) (by decide +kernel)) rfl
theorem k_1192 : Cond.methodLink R_Mo 198 y_Mo_sign ∈ nz_gd := nz_gm (List.mem_of_getElem? (i := 1284) (by decide +kernel)) rfl
theorem k_1194 : Cond.instanceMethod y_Mo_sign ∈ nz_gd := nz_gm (List.mem_of_getElem? (i := 1286) (by decide +kernel)) rfl
theorem k_1195 : Cond.code y_Mo_sign b_Mo_sign 2 (some .int) ∈ nz_gd := nz_gm (List.mem_of_getElem? (i := 1287) (by decide +kernel)) rfl
theorem k_1196 : Cond.methodLink R_Mo 205 y_Mo_isLetter ∈ nz_gd := nz_gm (List.mem_of_getElem? (i := 1288) (by decide +kernel)) rfl
theorem k_1197 : Cond.static y_Mo_isLetter ∈ nz_gd := nz_gm (List.mem_of_getElem? (i := 1289) (by decide +kernel)) rfl
theorem k_1198 : Cond.code y_Mo_isLetter b_Mo_isLetter 1 (some .boolean) ∈ nz_gd := nz_gm (List.mem_of_getElem? (i := 1290) (by decide +kernel)) rfl
theorem k_1199 : Cond.methodLink R_Mo 213 y_Mo_isKept ∈ nz_gd := nz_gm (List.mem_of_getElem? (i := 1291) (by decide +kernel)) rfl
theorem k_1200 : Cond.static y_Mo_isKept ∈ nz_gd := nz_gm (List.mem_of_getElem? (i := 1292) (by decide +kernel)) rfl
theorem k_1201 : Cond.code y_Mo_isKept b_Mo_isKept 3 (some .boolean) ∈ nz_gd := nz_gm (List.mem_of_getElem? (i := 1293) (by decide +kernel)) rfl
theorem k_1202 : Cond.constantLong R_Mo 148 (482854658917) ∈ nz_gd := nz_gm (List.mem_of_getElem? (i := 1294) (by decide +kernel)) rfl
theorem k_1203 : Cond.constantLong R_Mo 150 (109356099333997) ∈ nz_gd := nz_gm (List.mem_of_getElem? (i := 1295) (by decide +kernel)) rfl
theorem k_1204 : Cond.constantLong R_Mo 152 (6384748) ∈ nz_gd := nz_gm (List.mem_of_getElem? (i := 1296) (by decide +kernel)) rfl
theorem k_1205 : Cond.constantLong R_Mo 154 (7039342) ∈ nz_gd := nz_gm (List.mem_of_getElem? (i := 1297) (by decide +kernel)) rfl
theorem k_1206 : Cond.constantLong R_Mo 156 (108187649798757) ∈ nz_gd := nz_gm (List.mem_of_getElem? (i := 1298) (by decide +kernel)) rfl
theorem k_1207 : Cond.constantLong R_Mo 158 (418430675813) ∈ nz_gd := nz_gm (List.mem_of_getElem? (i := 1299) (by decide +kernel)) rfl
theorem k_1208 : Cond.constantLong R_Mo 160 (1852137842) ∈ nz_gd := nz_gm (List.mem_of_getElem? (i := 1300) (by decide +kernel)) rfl
theorem k_1209 : Cond.constantLong R_Mo 162 (521391927923) ∈ nz_gd := nz_gm (List.mem_of_getElem? (i := 1301) (by decide +kernel)) rfl
theorem k_1210 : Cond.constantLong R_Mo 164 (1650549611) ∈ nz_gd := nz_gm (List.mem_of_getElem? (i := 1302) (by decide +kernel)) rfl
theorem k_1211 : Cond.constantLong R_Mo 166 (474148660594) ∈ nz_gd := nz_gm (List.mem_of_getElem? (i := 1303) (by decide +kernel)) rfl
theorem k_1212 : Cond.constantLong R_Mo 168 (6385273) ∈ nz_gd := nz_gm (List.mem_of_getElem? (i := 1304) (by decide +kernel)) rfl
theorem k_1213 : Cond.constantLong R_Mo 170 (7305070) ∈ nz_gd := nz_gm (List.mem_of_getElem? (i := 1305) (by decide +kernel)) rfl
theorem k_1214 : Cond.constantLong R_Mo 172 (30792241600097895) ∈ nz_gd := nz_gm (List.mem_of_getElem? (i := 1306) (by decide +kernel)) rfl
theorem k_1215 : Cond.constantLong R_Mo 174 (2003792484) ∈ nz_gd := nz_gm (List.mem_of_getElem? (i := 1307) (by decide +kernel)) rfl
theorem k_1216 : Cond.constantLong R_Mo 176 (469852319347) ∈ nz_gd := nz_gm (List.mem_of_getElem? (i := 1308) (by decide +kernel)) rfl
theorem k_1217 : Cond.constantLong R_Mo 178 (24948) ∈ nz_gd := nz_gm (List.mem_of_getElem? (i := 1309) (by decide +kernel)) rfl
theorem k_1218 : Cond.constantLong R_Mo 180 (1953854062) ∈ nz_gd := nz_gm (List.mem_of_getElem? (i := 1310) (by decide +kernel)) rfl
theorem k_1219 : Cond.constantLong R_Mo 182 (123581014175598) ∈ nz_gd := nz_gm (List.mem_of_getElem? (i := 1311) (by decide +kernel)) rfl
theorem k_1220 : Cond.constantLong R_Mo 184 (109270082020708) ∈ nz_gd := nz_gm (List.mem_of_getElem? (i := 1312) (by decide +kernel)) rfl
theorem k_1221 : Cond.constantLong R_Mo 186 (1651470958) ∈ nz_gd := nz_gm (List.mem_of_getElem? (i := 1313) (by decide +kernel)) rfl
theorem k_1222 : Cond.constantLong R_Mo 188 (28518) ∈ nz_gd := nz_gm (List.mem_of_getElem? (i := 1314) (by decide +kernel)) rfl
theorem k_1223 : Cond.constantLong R_Mo 190 (1952541803) ∈ nz_gd := nz_gm (List.mem_of_getElem? (i := 1315) (by decide +kernel)) rfl
theorem k_1224 : Cond.methodLink R_Mo 217 y_Mo_isDigit ∈ nz_gd := nz_gm (List.mem_of_getElem? (i := 1316) (by decide +kernel)) rfl
theorem k_1225 : Cond.static y_Mo_isDigit ∈ nz_gd := nz_gm (List.mem_of_getElem? (i := 1317) (by decide +kernel)) rfl
theorem k_1226 : Cond.code y_Mo_isDigit b_Mo_isDigit 1 (some .boolean) ∈ nz_gd := nz_gm (List.mem_of_getElem? (i := 1318) (by decide +kernel)) rfl
theorem k_1227 : Cond.methodLink R_Mo 227 y_Mo_isGood ∈ nz_gd := nz_gm (List.mem_of_getElem? (i := 1319) (by decide +kernel)) rfl
theorem k_1229 : Cond.instanceMethod y_Mo_isGood ∈ nz_gd := nz_gm (List.mem_of_getElem? (i := 1321) (by decide +kernel)) rfl
theorem k_1230 : Cond.code y_Mo_isGood b_Mo_isGood 1 (some .boolean) ∈ nz_gd := nz_gm (List.mem_of_getElem? (i := 1322) (by decide +kernel)) rfl
theorem k_1231 : Cond.methodLink R_Mo 246 y_Mo_readLine ∈ nz_gd := nz_gm (List.mem_of_getElem? (i := 1323) (by decide +kernel)) rfl
theorem k_1233 : Cond.instanceMethod y_Mo_readLine ∈ nz_gd := nz_gm (List.mem_of_getElem? (i := 1325) (by decide +kernel)) rfl
theorem k_1234 : Cond.code y_Mo_readLine b_Mo_readLine 7 none ∈ nz_gd := nz_gm (List.mem_of_getElem? (i := 1326) (by decide +kernel)) rfl
theorem k_1235 : Cond.methodLink R_Mo 255 y_Mo_isWord ∈ nz_gd := nz_gm (List.mem_of_getElem? (i := 1327) (by decide +kernel)) rfl
theorem k_1237 : Cond.instanceMethod y_Mo_isWord ∈ nz_gd := nz_gm (List.mem_of_getElem? (i := 1329) (by decide +kernel)) rfl
theorem k_1238 : Cond.code y_Mo_isWord b_Mo_isWord 3 (some .boolean) ∈ nz_gd := nz_gm (List.mem_of_getElem? (i := 1330) (by decide +kernel)) rfl
theorem k_1239 : Cond.methodLink R_Mo 234 y_Mo_wrong ∈ nz_gd := nz_gm (List.mem_of_getElem? (i := 1331) (by decide +kernel)) rfl
theorem k_1241 : Cond.instanceMethod y_Mo_wrong ∈ nz_gd := nz_gm (List.mem_of_getElem? (i := 1333) (by decide +kernel)) rfl
theorem k_1242 : Cond.code y_Mo_wrong b_Mo_wrong 1 none ∈ nz_gd := nz_gm (List.mem_of_getElem? (i := 1334) (by decide +kernel)) rfl
theorem k_1243 : Cond.methodLink R_Mo 223 y_Mo_fails ∈ nz_gd := nz_gm (List.mem_of_getElem? (i := 1335) (by decide +kernel)) rfl
theorem k_1245 : Cond.instanceMethod y_Mo_fails ∈ nz_gd := nz_gm (List.mem_of_getElem? (i := 1337) (by decide +kernel)) rfl
theorem k_1246 : Cond.code y_Mo_fails b_Mo_fails 3 none ∈ nz_gd := nz_gm (List.mem_of_getElem? (i := 1338) (by decide +kernel)) rfl
theorem k_1247 : Cond.methodLink R_Mo 258 y_Mo_readPlace ∈ nz_gd := nz_gm (List.mem_of_getElem? (i := 1339) (by decide +kernel)) rfl
theorem k_1249 : Cond.instanceMethod y_Mo_readPlace ∈ nz_gd := nz_gm (List.mem_of_getElem? (i := 1341) (by decide +kernel)) rfl
theorem k_1250 : Cond.code y_Mo_readPlace b_Mo_readPlace 2 none ∈ nz_gd := nz_gm (List.mem_of_getElem? (i := 1342) (by decide +kernel)) rfl
theorem k_1251 : Cond.methodLink R_Mo 284 y_Mo_placeHere ∈ nz_gd := nz_gm (List.mem_of_getElem? (i := 1343) (by decide +kernel)) rfl
theorem k_1253 : Cond.instanceMethod y_Mo_placeHere ∈ nz_gd := nz_gm (List.mem_of_getElem? (i := 1345) (by decide +kernel)) rfl
theorem k_1254 : Cond.code y_Mo_placeHere b_Mo_placeHere 1 (some .int) ∈ nz_gd := nz_gm (List.mem_of_getElem? (i := 1346) (by decide +kernel)) rfl
theorem k_1255 : Cond.methodLink R_Mo 280 y_Mo_here ∈ nz_gd := nz_gm (List.mem_of_getElem? (i := 1347) (by decide +kernel)) rfl
theorem k_1257 : Cond.instanceMethod y_Mo_here ∈ nz_gd := nz_gm (List.mem_of_getElem? (i := 1349) (by decide +kernel)) rfl
theorem k_1258 : Cond.code y_Mo_here b_Mo_here 5 (some .int) ∈ nz_gd := nz_gm (List.mem_of_getElem? (i := 1350) (by decide +kernel)) rfl
theorem k_1259 : Cond.methodLink R_Mo 288 y_Mo_fresh ∈ nz_gd := nz_gm (List.mem_of_getElem? (i := 1351) (by decide +kernel)) rfl
theorem k_1261 : Cond.instanceMethod y_Mo_fresh ∈ nz_gd := nz_gm (List.mem_of_getElem? (i := 1353) (by decide +kernel)) rfl
theorem k_1262 : Cond.code y_Mo_fresh b_Mo_fresh 4 (some .long) ∈ nz_gd := nz_gm (List.mem_of_getElem? (i := 1354) (by decide +kernel)) rfl
theorem k_1263 : Cond.methodLink R_Mo 276 y_Mo_must ∈ nz_gd := nz_gm (List.mem_of_getElem? (i := 1355) (by decide +kernel)) rfl
theorem k_1265 : Cond.instanceMethod y_Mo_must ∈ nz_gd := nz_gm (List.mem_of_getElem? (i := 1357) (by decide +kernel)) rfl
theorem k_1266 : Cond.code y_Mo_must b_Mo_must 2 none ∈ nz_gd := nz_gm (List.mem_of_getElem? (i := 1358) (by decide +kernel)) rfl
theorem k_1267 : Cond.methodLink R_Mo 292 y_Mo_numeral ∈ nz_gd := nz_gm (List.mem_of_getElem? (i := 1359) (by decide +kernel)) rfl
theorem k_1269 : Cond.instanceMethod y_Mo_numeral ∈ nz_gd := nz_gm (List.mem_of_getElem? (i := 1361) (by decide +kernel)) rfl
theorem k_1270 : Cond.code y_Mo_numeral b_Mo_numeral 4 (some .int) ∈ nz_gd := nz_gm (List.mem_of_getElem? (i := 1362) (by decide +kernel)) rfl
theorem k_1271 : Cond.methodLink R_Mo 261 y_Mo_readMeaning ∈ nz_gd := nz_gm (List.mem_of_getElem? (i := 1363) (by decide +kernel)) rfl
theorem k_1273 : Cond.instanceMethod y_Mo_readMeaning ∈ nz_gd := nz_gm (List.mem_of_getElem? (i := 1365) (by decide +kernel)) rfl
theorem k_1274 : Cond.code y_Mo_readMeaning b_Mo_readMeaning 1 none ∈ nz_gd := nz_gm (List.mem_of_getElem? (i := 1366) (by decide +kernel)) rfl
theorem k_1275 : Cond.methodLink R_Mo 296 y_Mo_meaningHere ∈ nz_gd := nz_gm (List.mem_of_getElem? (i := 1367) (by decide +kernel)) rfl
theorem k_1277 : Cond.instanceMethod y_Mo_meaningHere ∈ nz_gd := nz_gm (List.mem_of_getElem? (i := 1369) (by decide +kernel)) rfl
theorem k_1278 : Cond.code y_Mo_meaningHere b_Mo_meaningHere 1 (some .int) ∈ nz_gd := nz_gm (List.mem_of_getElem? (i := 1370) (by decide +kernel)) rfl
theorem k_1279 : Cond.methodLink R_Mo 264 y_Mo_readWord ∈ nz_gd := nz_gm (List.mem_of_getElem? (i := 1371) (by decide +kernel)) rfl
theorem k_1281 : Cond.instanceMethod y_Mo_readWord ∈ nz_gd := nz_gm (List.mem_of_getElem? (i := 1373) (by decide +kernel)) rfl
theorem k_1282 : Cond.code y_Mo_readWord b_Mo_readWord 3 none ∈ nz_gd := nz_gm (List.mem_of_getElem? (i := 1374) (by decide +kernel)) rfl
theorem k_1283 : Cond.methodLink R_Mo 299 y_Mo_given ∈ nz_gd := nz_gm (List.mem_of_getElem? (i := 1375) (by decide +kernel)) rfl
theorem k_1285 : Cond.instanceMethod y_Mo_given ∈ nz_gd := nz_gm (List.mem_of_getElem? (i := 1377) (by decide +kernel)) rfl
theorem k_1286 : Cond.code y_Mo_given b_Mo_given 3 (some .int) ∈ nz_gd := nz_gm (List.mem_of_getElem? (i := 1378) (by decide +kernel)) rfl
theorem k_1287 : Cond.methodLink R_Mo 267 y_Mo_readTurn ∈ nz_gd := nz_gm (List.mem_of_getElem? (i := 1379) (by decide +kernel)) rfl
theorem k_1289 : Cond.instanceMethod y_Mo_readTurn ∈ nz_gd := nz_gm (List.mem_of_getElem? (i := 1381) (by decide +kernel)) rfl
theorem k_1290 : Cond.code y_Mo_readTurn b_Mo_readTurn 2 none ∈ nz_gd := nz_gm (List.mem_of_getElem? (i := 1382) (by decide +kernel)) rfl
theorem k_1291 : Cond.methodLink R_Mo 270 y_Mo_readPerson ∈ nz_gd := nz_gm (List.mem_of_getElem? (i := 1383) (by decide +kernel)) rfl
theorem k_1293 : Cond.instanceMethod y_Mo_readPerson ∈ nz_gd := nz_gm (List.mem_of_getElem? (i := 1385) (by decide +kernel)) rfl
theorem k_1294 : Cond.code y_Mo_readPerson b_Mo_readPerson 2 none ∈ nz_gd := nz_gm (List.mem_of_getElem? (i := 1386) (by decide +kernel)) rfl
theorem k_1295 : Cond.methodLink R_Mo 302 y_Mo_personHere ∈ nz_gd := nz_gm (List.mem_of_getElem? (i := 1387) (by decide +kernel)) rfl
theorem k_1297 : Cond.instanceMethod y_Mo_personHere ∈ nz_gd := nz_gm (List.mem_of_getElem? (i := 1389) (by decide +kernel)) rfl
theorem k_1298 : Cond.code y_Mo_personHere b_Mo_personHere 1 (some .int) ∈ nz_gd := nz_gm (List.mem_of_getElem? (i := 1390) (by decide +kernel)) rfl
theorem k_1299 : Cond.methodLink R_Mo 273 y_Mo_readTalk ∈ nz_gd := nz_gm (List.mem_of_getElem? (i := 1391) (by decide +kernel)) rfl
theorem k_1301 : Cond.instanceMethod y_Mo_readTalk ∈ nz_gd := nz_gm (List.mem_of_getElem? (i := 1393) (by decide +kernel)) rfl
theorem k_1302 : Cond.code y_Mo_readTalk b_Mo_readTalk 5 none ∈ nz_gd := nz_gm (List.mem_of_getElem? (i := 1394) (by decide +kernel)) rfl
theorem k_1303 : Cond.methodLink R_Mo 252 y_Mo_layNear ∈ nz_gd := nz_gm (List.mem_of_getElem? (i := 1395) (by decide +kernel)) rfl
theorem k_1305 : Cond.instanceMethod y_Mo_layNear ∈ nz_gd := nz_gm (List.mem_of_getElem? (i := 1397) (by decide +kernel)) rfl
theorem k_1306 : Cond.code y_Mo_layNear b_Mo_layNear 5 none ∈ nz_gd := nz_gm (List.mem_of_getElem? (i := 1398) (by decide +kernel)) rfl
theorem k_1307 : Cond.methodLink R_Mo 352 y_Mo_isChild ∈ nz_gd := nz_gm (List.mem_of_getElem? (i := 1399) (by decide +kernel)) rfl
theorem k_1309 : Cond.instanceMethod y_Mo_isChild ∈ nz_gd := nz_gm (List.mem_of_getElem? (i := 1401) (by decide +kernel)) rfl
theorem k_1310 : Cond.code y_Mo_isChild b_Mo_isChild 3 (some .boolean) ∈ nz_gd := nz_gm (List.mem_of_getElem? (i := 1402) (by decide +kernel)) rfl
theorem k_1311 : Cond.methodLink R_Mo 336 y_Mo_lesser ∈ nz_gd := nz_gm (List.mem_of_getElem? (i := 1403) (by decide +kernel)) rfl
theorem k_1312 : Cond.static y_Mo_lesser ∈ nz_gd := nz_gm (List.mem_of_getElem? (i := 1404) (by decide +kernel)) rfl
theorem k_1313 : Cond.code y_Mo_lesser b_Mo_lesser 2 (some .int) ∈ nz_gd := nz_gm (List.mem_of_getElem? (i := 1405) (by decide +kernel)) rfl
theorem k_1314 : Cond.methodLink R_law 31 y_Mo_fault ∈ nz_gd := nz_gm (List.mem_of_getElem? (i := 1406) (by decide +kernel)) rfl
theorem k_1315 : Cond.instanceMethod y_Mo_fault ∈ nz_gd := nz_gm (List.mem_of_getElem? (i := 1407) (by decide +kernel)) rfl
theorem k_1316 : Cond.selects R_Mo y_Mo_fault y_Mo_fault ∈ nz_gd := nz_gm (List.mem_of_getElem? (i := 1408) (by decide +kernel)) rfl
theorem k_1317 : Cond.code y_Mo_fault b_Mo_fault 2 (some .int) ∈ nz_gd := nz_gm (List.mem_of_getElem? (i := 1409) (by decide +kernel)) rfl
theorem k_1318 : Cond.methodLink R_law 36 y_Mo_die ∈ nz_gd := nz_gm (List.mem_of_getElem? (i := 1410) (by decide +kernel)) rfl
theorem k_1319 : Cond.instanceMethod y_Mo_die ∈ nz_gd := nz_gm (List.mem_of_getElem? (i := 1411) (by decide +kernel)) rfl
theorem k_1320 : Cond.selects R_Mo y_Mo_die y_Mo_die ∈ nz_gd := nz_gm (List.mem_of_getElem? (i := 1412) (by decide +kernel)) rfl
theorem k_1321 : Cond.code y_Mo_die b_Mo_die 3 (some .int) ∈ nz_gd := nz_gm (List.mem_of_getElem? (i := 1413) (by decide +kernel)) rfl
theorem k_1322 : Cond.methodLink R_Mo 309 y_Mo_isPerson ∈ nz_gd := nz_gm (List.mem_of_getElem? (i := 1414) (by decide +kernel)) rfl
theorem k_1324 : Cond.instanceMethod y_Mo_isPerson ∈ nz_gd := nz_gm (List.mem_of_getElem? (i := 1416) (by decide +kernel)) rfl
theorem k_1325 : Cond.code y_Mo_isPerson b_Mo_isPerson 2 (some .boolean) ∈ nz_gd := nz_gm (List.mem_of_getElem? (i := 1417) (by decide +kernel)) rfl
theorem k_1326 : Cond.methodLink R_Mo 305 y_Mo_isIn ∈ nz_gd := nz_gm (List.mem_of_getElem? (i := 1418) (by decide +kernel)) rfl
theorem k_1327 : Cond.static y_Mo_isIn ∈ nz_gd := nz_gm (List.mem_of_getElem? (i := 1419) (by decide +kernel)) rfl
theorem k_1328 : Cond.code y_Mo_isIn b_Mo_isIn 3 (some .boolean) ∈ nz_gd := nz_gm (List.mem_of_getElem? (i := 1420) (by decide +kernel)) rfl
theorem k_1329 : Cond.methodLink R_Mo 312 y_Mo_isYear ∈ nz_gd := nz_gm (List.mem_of_getElem? (i := 1421) (by decide +kernel)) rfl
theorem k_1330 : Cond.static y_Mo_isYear ∈ nz_gd := nz_gm (List.mem_of_getElem? (i := 1422) (by decide +kernel)) rfl
theorem k_1331 : Cond.code y_Mo_isYear b_Mo_isYear 1 (some .boolean) ∈ nz_gd := nz_gm (List.mem_of_getElem? (i := 1423) (by decide +kernel)) rfl
theorem k_1332 : Cond.methodLink R_Mo 315 y_Mo_bornOf ∈ nz_gd := nz_gm (List.mem_of_getElem? (i := 1424) (by decide +kernel)) rfl
theorem k_1334 : Cond.instanceMethod y_Mo_bornOf ∈ nz_gd := nz_gm (List.mem_of_getElem? (i := 1426) (by decide +kernel)) rfl
theorem k_1335 : Cond.code y_Mo_bornOf b_Mo_bornOf 2 (some .int) ∈ nz_gd := nz_gm (List.mem_of_getElem? (i := 1427) (by decide +kernel)) rfl
theorem k_1336 : Cond.methodLink R_law 41 y_Mo_untell ∈ nz_gd := nz_gm (List.mem_of_getElem? (i := 1428) (by decide +kernel)) rfl
theorem k_1337 : Cond.instanceMethod y_Mo_untell ∈ nz_gd := nz_gm (List.mem_of_getElem? (i := 1429) (by decide +kernel)) rfl
theorem k_1338 : Cond.selects R_Mo y_Mo_untell y_Mo_untell ∈ nz_gd := nz_gm (List.mem_of_getElem? (i := 1430) (by decide +kernel)) rfl
theorem k_1339 : Cond.code y_Mo_untell b_Mo_untell 2 (some .boolean) ∈ nz_gd := nz_gm (List.mem_of_getElem? (i := 1431) (by decide +kernel)) rfl
theorem k_1340 : Cond.methodLink R_law 45 y_Mo_later ∈ nz_gd := nz_gm (List.mem_of_getElem? (i := 1432) (by decide +kernel)) rfl
theorem k_1341 : Cond.instanceMethod y_Mo_later ∈ nz_gd := nz_gm (List.mem_of_getElem? (i := 1433) (by decide +kernel)) rfl
theorem k_1342 : Cond.selects R_Mo y_Mo_later y_Mo_later ∈ nz_gd := nz_gm (List.mem_of_getElem? (i := 1434) (by decide +kernel)) rfl
theorem k_1343 : Cond.code y_Mo_later b_Mo_later 2 (some .int) ∈ nz_gd := nz_gm (List.mem_of_getElem? (i := 1435) (by decide +kernel)) rfl
theorem k_1344 : Cond.constant R_Mo 321 (100000) ∈ nz_gd := nz_gm (List.mem_of_getElem? (i := 1436) (by decide +kernel)) rfl
theorem k_1345 : Cond.methodLink R_law 50 y_Mo_alive ∈ nz_gd := nz_gm (List.mem_of_getElem? (i := 1437) (by decide +kernel)) rfl
theorem k_1346 : Cond.instanceMethod y_Mo_alive ∈ nz_gd := nz_gm (List.mem_of_getElem? (i := 1438) (by decide +kernel)) rfl
theorem k_1347 : Cond.selects R_Mo y_Mo_alive y_Mo_alive ∈ nz_gd := nz_gm (List.mem_of_getElem? (i := 1439) (by decide +kernel)) rfl
theorem k_1348 : Cond.code y_Mo_alive b_Mo_alive 4 (some .int) ∈ nz_gd := nz_gm (List.mem_of_getElem? (i := 1440) (by decide +kernel)) rfl
theorem k_1349 : Cond.methodLink R_Mo 322 y_Mo_know ∈ nz_gd := nz_gm (List.mem_of_getElem? (i := 1441) (by decide +kernel)) rfl
theorem k_1351 : Cond.instanceMethod y_Mo_know ∈ nz_gd := nz_gm (List.mem_of_getElem? (i := 1443) (by decide +kernel)) rfl
theorem k_1352 : Cond.code y_Mo_know b_Mo_know 3 none ∈ nz_gd := nz_gm (List.mem_of_getElem? (i := 1444) (by decide +kernel)) rfl
theorem k_1353 : Cond.methodLink R_Mo 326 y_Mo_isAlive ∈ nz_gd := nz_gm (List.mem_of_getElem? (i := 1445) (by decide +kernel)) rfl
theorem k_1355 : Cond.instanceMethod y_Mo_isAlive ∈ nz_gd := nz_gm (List.mem_of_getElem? (i := 1447) (by decide +kernel)) rfl
theorem k_1356 : Cond.code y_Mo_isAlive b_Mo_isAlive 3 (some .boolean) ∈ nz_gd := nz_gm (List.mem_of_getElem? (i := 1448) (by decide +kernel)) rfl
theorem k_1357 : Cond.methodLink R_law 54 y_Mo_apart ∈ nz_gd := nz_gm (List.mem_of_getElem? (i := 1449) (by decide +kernel)) rfl
theorem k_1358 : Cond.instanceMethod y_Mo_apart ∈ nz_gd := nz_gm (List.mem_of_getElem? (i := 1450) (by decide +kernel)) rfl
theorem k_1359 : Cond.selects R_Mo y_Mo_apart y_Mo_apart ∈ nz_gd := nz_gm (List.mem_of_getElem? (i := 1451) (by decide +kernel)) rfl
theorem k_1360 : Cond.code y_Mo_apart b_Mo_apart 3 (some .int) ∈ nz_gd := nz_gm (List.mem_of_getElem? (i := 1452) (by decide +kernel)) rfl
theorem k_1361 : Cond.methodLink R_Mo 339 y_Mo_isWordNo ∈ nz_gd := nz_gm (List.mem_of_getElem? (i := 1453) (by decide +kernel)) rfl
theorem k_1363 : Cond.instanceMethod y_Mo_isWordNo ∈ nz_gd := nz_gm (List.mem_of_getElem? (i := 1455) (by decide +kernel)) rfl
theorem k_1364 : Cond.code y_Mo_isWordNo b_Mo_isWordNo 2 (some .boolean) ∈ nz_gd := nz_gm (List.mem_of_getElem? (i := 1456) (by decide +kernel)) rfl
theorem k_1365 : Cond.methodLink R_Mo 342 y_Mo_wordOf ∈ nz_gd := nz_gm (List.mem_of_getElem? (i := 1457) (by decide +kernel)) rfl
theorem k_1367 : Cond.instanceMethod y_Mo_wordOf ∈ nz_gd := nz_gm (List.mem_of_getElem? (i := 1459) (by decide +kernel)) rfl
theorem k_1368 : Cond.code y_Mo_wordOf b_Mo_wordOf 2 (some .long) ∈ nz_gd := nz_gm (List.mem_of_getElem? (i := 1460) (by decide +kernel)) rfl
theorem k_1369 : Cond.methodLink R_Mo 345 y_Mo_calledOf ∈ nz_gd := nz_gm (List.mem_of_getElem? (i := 1461) (by decide +kernel)) rfl
theorem k_1371 : Cond.instanceMethod y_Mo_calledOf ∈ nz_gd := nz_gm (List.mem_of_getElem? (i := 1463) (by decide +kernel)) rfl
theorem k_1372 : Cond.code y_Mo_calledOf b_Mo_calledOf 2 (some .long) ∈ nz_gd := nz_gm (List.mem_of_getElem? (i := 1464) (by decide +kernel)) rfl
theorem k_1373 : Cond.methodLink R_Mo 348 y_Mo_apartOf ∈ nz_gd := nz_gm (List.mem_of_getElem? (i := 1465) (by decide +kernel)) rfl
theorem k_1375 : Cond.instanceMethod y_Mo_apartOf ∈ nz_gd := nz_gm (List.mem_of_getElem? (i := 1467) (by decide +kernel)) rfl
theorem k_1376 : Cond.code y_Mo_apartOf b_Mo_apartOf 11 (some .int) ∈ nz_gd := nz_gm (List.mem_of_getElem? (i := 1468) (by decide +kernel)) rfl
theorem k_1377 : Cond.methodLink R_Mo 330 y_Mo_letters ∈ nz_gd := nz_gm (List.mem_of_getElem? (i := 1469) (by decide +kernel)) rfl
theorem k_1378 : Cond.static y_Mo_letters ∈ nz_gd := nz_gm (List.mem_of_getElem? (i := 1470) (by decide +kernel)) rfl
theorem k_1379 : Cond.code y_Mo_letters b_Mo_letters 5 (some .int) ∈ nz_gd := nz_gm (List.mem_of_getElem? (i := 1471) (by decide +kernel)) rfl
theorem k_1380 : Cond.constantLong R_Mo 334 (255) ∈ nz_gd := nz_gm (List.mem_of_getElem? (i := 1472) (by decide +kernel)) rfl
theorem k_1381 : Cond.methodLink R_law 58 y_Mo_near ∈ nz_gd := nz_gm (List.mem_of_getElem? (i := 1473) (by decide +kernel)) rfl
theorem k_1382 : Cond.instanceMethod y_Mo_near ∈ nz_gd := nz_gm (List.mem_of_getElem? (i := 1474) (by decide +kernel)) rfl
theorem k_1383 : Cond.selects R_Mo y_Mo_near y_Mo_near ∈ nz_gd := nz_gm (List.mem_of_getElem? (i := 1475) (by decide +kernel)) rfl
theorem k_1384 : Cond.code y_Mo_near b_Mo_near 3 (some .int) ∈ nz_gd := nz_gm (List.mem_of_getElem? (i := 1476) (by decide +kernel)) rfl
theorem k_1385 : Cond.methodLink R_law 62 y_Mo_may ∈ nz_gd := nz_gm (List.mem_of_getElem? (i := 1477) (by decide +kernel)) rfl
theorem k_1386 : Cond.instanceMethod y_Mo_may ∈ nz_gd := nz_gm (List.mem_of_getElem? (i := 1478) (by decide +kernel)) rfl
theorem k_1387 : Cond.selects R_Mo y_Mo_may y_Mo_may ∈ nz_gd := nz_gm (List.mem_of_getElem? (i := 1479) (by decide +kernel)) rfl
theorem k_1388 : Cond.code y_Mo_may b_Mo_may 6 (some .int) ∈ nz_gd := nz_gm (List.mem_of_getElem? (i := 1480) (by decide +kernel)) rfl
theorem k_1389 : Cond.methodLink R_Mo 370 y_Mo_speak ∈ nz_gd := nz_gm (List.mem_of_getElem? (i := 1481) (by decide +kernel)) rfl
theorem k_1391 : Cond.instanceMethod y_Mo_speak ∈ nz_gd := nz_gm (List.mem_of_getElem? (i := 1483) (by decide +kernel)) rfl
theorem k_1392 : Cond.code y_Mo_speak b_Mo_speak 5 (some .boolean) ∈ nz_gd := nz_gm (List.mem_of_getElem? (i := 1484) (by decide +kernel)) rfl
theorem k_1393 : Cond.methodLink R_Mo 374 y_Mo_isBarred ∈ nz_gd := nz_gm (List.mem_of_getElem? (i := 1485) (by decide +kernel)) rfl
theorem k_1395 : Cond.instanceMethod y_Mo_isBarred ∈ nz_gd := nz_gm (List.mem_of_getElem? (i := 1487) (by decide +kernel)) rfl
theorem k_1396 : Cond.code y_Mo_isBarred b_Mo_isBarred 8 (some .boolean) ∈ nz_gd := nz_gm (List.mem_of_getElem? (i := 1488) (by decide +kernel)) rfl
theorem k_1397 : Cond.methodLink R_Mo 355 y_Mo_homeOf ∈ nz_gd := nz_gm (List.mem_of_getElem? (i := 1489) (by decide +kernel)) rfl
theorem k_1399 : Cond.instanceMethod y_Mo_homeOf ∈ nz_gd := nz_gm (List.mem_of_getElem? (i := 1491) (by decide +kernel)) rfl
theorem k_1400 : Cond.code y_Mo_homeOf b_Mo_homeOf 2 (some .int) ∈ nz_gd := nz_gm (List.mem_of_getElem? (i := 1492) (by decide +kernel)) rfl
theorem k_1401 : Cond.methodLink R_Mo 358 y_Mo_placeNo ∈ nz_gd := nz_gm (List.mem_of_getElem? (i := 1493) (by decide +kernel)) rfl
theorem k_1403 : Cond.instanceMethod y_Mo_placeNo ∈ nz_gd := nz_gm (List.mem_of_getElem? (i := 1495) (by decide +kernel)) rfl
theorem k_1404 : Cond.code y_Mo_placeNo b_Mo_placeNo 2 (some .int) ∈ nz_gd := nz_gm (List.mem_of_getElem? (i := 1496) (by decide +kernel)) rfl
theorem k_1405 : Cond.methodLink R_Mo 367 y_Mo_holds ∈ nz_gd := nz_gm (List.mem_of_getElem? (i := 1497) (by decide +kernel)) rfl
theorem k_1407 : Cond.instanceMethod y_Mo_holds ∈ nz_gd := nz_gm (List.mem_of_getElem? (i := 1499) (by decide +kernel)) rfl
theorem k_1408 : Cond.code y_Mo_holds b_Mo_holds 4 (some .boolean) ∈ nz_gd := nz_gm (List.mem_of_getElem? (i := 1500) (by decide +kernel)) rfl
theorem k_1409 : Cond.methodLink R_Mo 364 y_Mo_isFall ∈ nz_gd := nz_gm (List.mem_of_getElem? (i := 1501) (by decide +kernel)) rfl
theorem k_1411 : Cond.instanceMethod y_Mo_isFall ∈ nz_gd := nz_gm (List.mem_of_getElem? (i := 1503) (by decide +kernel)) rfl
theorem k_1412 : Cond.code y_Mo_isFall b_Mo_isFall 6 (some .boolean) ∈ nz_gd := nz_gm (List.mem_of_getElem? (i := 1504) (by decide +kernel)) rfl
theorem k_1413 : Cond.methodLink R_Mo 361 y_Mo_comesFrom ∈ nz_gd := nz_gm (List.mem_of_getElem? (i := 1505) (by decide +kernel)) rfl
theorem k_1415 : Cond.instanceMethod y_Mo_comesFrom ∈ nz_gd := nz_gm (List.mem_of_getElem? (i := 1507) (by decide +kernel)) rfl
theorem k_1416 : Cond.code y_Mo_comesFrom b_Mo_comesFrom 7 (some .boolean) ∈ nz_gd := nz_gm (List.mem_of_getElem? (i := 1508) (by decide +kernel)) rfl
theorem k_1417 : Cond.methodLink R_law 66 y_Mo_judge ∈ nz_gd := nz_gm (List.mem_of_getElem? (i := 1509) (by decide +kernel)) rfl
theorem k_1418 : Cond.instanceMethod y_Mo_judge ∈ nz_gd := nz_gm (List.mem_of_getElem? (i := 1510) (by decide +kernel)) rfl
theorem k_1419 : Cond.selects R_Mo y_Mo_judge y_Mo_judge ∈ nz_gd := nz_gm (List.mem_of_getElem? (i := 1511) (by decide +kernel)) rfl
theorem k_1420 : Cond.code y_Mo_judge b_Mo_judge 8 (some .int) ∈ nz_gd := nz_gm (List.mem_of_getElem? (i := 1512) (by decide +kernel)) rfl
theorem k_1421 : Cond.constant R_Mo 377 (33554432) ∈ nz_gd := nz_gm (List.mem_of_getElem? (i := 1513) (by decide +kernel)) rfl
theorem k_1422 : Cond.methodLink R_law 70 y_Mo_instead ∈ nz_gd := nz_gm (List.mem_of_getElem? (i := 1514) (by decide +kernel)) rfl
theorem k_1423 : Cond.instanceMethod y_Mo_instead ∈ nz_gd := nz_gm (List.mem_of_getElem? (i := 1515) (by decide +kernel)) rfl
theorem k_1424 : Cond.selects R_Mo y_Mo_instead y_Mo_instead ∈ nz_gd := nz_gm (List.mem_of_getElem? (i := 1516) (by decide +kernel)) rfl
theorem k_1425 : Cond.code y_Mo_instead b_Mo_instead 6 (some .int) ∈ nz_gd := nz_gm (List.mem_of_getElem? (i := 1517) (by decide +kernel)) rfl
theorem k_1426 : Cond.methodLink R_Mo 388 y_Mo_isMeaning ∈ nz_gd := nz_gm (List.mem_of_getElem? (i := 1518) (by decide +kernel)) rfl
theorem k_1428 : Cond.instanceMethod y_Mo_isMeaning ∈ nz_gd := nz_gm (List.mem_of_getElem? (i := 1520) (by decide +kernel)) rfl
theorem k_1429 : Cond.code y_Mo_isMeaning b_Mo_isMeaning 2 (some .boolean) ∈ nz_gd := nz_gm (List.mem_of_getElem? (i := 1521) (by decide +kernel)) rfl
theorem k_1430 : Cond.methodLink R_Mo 391 y_Mo_insteadOf ∈ nz_gd := nz_gm (List.mem_of_getElem? (i := 1522) (by decide +kernel)) rfl
theorem k_1432 : Cond.instanceMethod y_Mo_insteadOf ∈ nz_gd := nz_gm (List.mem_of_getElem? (i := 1524) (by decide +kernel)) rfl
theorem k_1433 : Cond.code y_Mo_insteadOf b_Mo_insteadOf 7 (some .int) ∈ nz_gd := nz_gm (List.mem_of_getElem? (i := 1525) (by decide +kernel)) rfl
theorem k_1434 : Cond.methodLink R_Mo 384 y_Mo_firstOf ∈ nz_gd := nz_gm (List.mem_of_getElem? (i := 1526) (by decide +kernel)) rfl
theorem k_1436 : Cond.instanceMethod y_Mo_firstOf ∈ nz_gd := nz_gm (List.mem_of_getElem? (i := 1528) (by decide +kernel)) rfl
theorem k_1437 : Cond.code y_Mo_firstOf b_Mo_firstOf 7 (some .int) ∈ nz_gd := nz_gm (List.mem_of_getElem? (i := 1529) (by decide +kernel)) rfl
theorem k_1438 : Cond.methodLink R_Mo 378 y_Mo_means ∈ nz_gd := nz_gm (List.mem_of_getElem? (i := 1530) (by decide +kernel)) rfl
theorem k_1440 : Cond.instanceMethod y_Mo_means ∈ nz_gd := nz_gm (List.mem_of_getElem? (i := 1532) (by decide +kernel)) rfl
theorem k_1441 : Cond.code y_Mo_means b_Mo_means 3 (some .boolean) ∈ nz_gd := nz_gm (List.mem_of_getElem? (i := 1533) (by decide +kernel)) rfl
theorem k_1442 : Cond.methodLink R_Mo 381 y_Mo_isAt ∈ nz_gd := nz_gm (List.mem_of_getElem? (i := 1534) (by decide +kernel)) rfl
theorem k_1444 : Cond.instanceMethod y_Mo_isAt ∈ nz_gd := nz_gm (List.mem_of_getElem? (i := 1536) (by decide +kernel)) rfl
theorem k_1445 : Cond.code y_Mo_isAt b_Mo_isAt 3 (some .boolean) ∈ nz_gd := nz_gm (List.mem_of_getElem? (i := 1537) (by decide +kernel)) rfl
theorem k_1446 : Cond.methodLink R_law 74 y_Mo_cost ∈ nz_gd := nz_gm (List.mem_of_getElem? (i := 1538) (by decide +kernel)) rfl
theorem k_1447 : Cond.instanceMethod y_Mo_cost ∈ nz_gd := nz_gm (List.mem_of_getElem? (i := 1539) (by decide +kernel)) rfl
theorem k_1448 : Cond.selects R_Mo y_Mo_cost y_Mo_cost ∈ nz_gd := nz_gm (List.mem_of_getElem? (i := 1540) (by decide +kernel)) rfl
theorem k_1449 : Cond.code y_Mo_cost b_Mo_cost 11 (some .int) ∈ nz_gd := nz_gm (List.mem_of_getElem? (i := 1541) (by decide +kernel)) rfl
theorem k_1450 : Cond.methodLink R_law 79 y_Mo_grasp ∈ nz_gd := nz_gm (List.mem_of_getElem? (i := 1542) (by decide +kernel)) rfl
theorem k_1451 : Cond.instanceMethod y_Mo_grasp ∈ nz_gd := nz_gm (List.mem_of_getElem? (i := 1543) (by decide +kernel)) rfl
theorem k_1452 : Cond.selects R_Mo y_Mo_grasp y_Mo_grasp ∈ nz_gd := nz_gm (List.mem_of_getElem? (i := 1544) (by decide +kernel)) rfl
theorem k_1453 : Cond.code y_Mo_grasp b_Mo_grasp 5 (some .int) ∈ nz_gd := nz_gm (List.mem_of_getElem? (i := 1545) (by decide +kernel)) rfl
theorem k_1454 : Cond.methodLink R_Mo 395 y_Mo_graspOf ∈ nz_gd := nz_gm (List.mem_of_getElem? (i := 1546) (by decide +kernel)) rfl
theorem k_1456 : Cond.instanceMethod y_Mo_graspOf ∈ nz_gd := nz_gm (List.mem_of_getElem? (i := 1548) (by decide +kernel)) rfl
theorem k_1457 : Cond.code y_Mo_graspOf b_Mo_graspOf 7 (some .int) ∈ nz_gd := nz_gm (List.mem_of_getElem? (i := 1549) (by decide +kernel)) rfl
theorem k_1458 : Cond.methodLink R_law 83 y_Mo_today ∈ nz_gd := nz_gm (List.mem_of_getElem? (i := 1550) (by decide +kernel)) rfl
theorem k_1459 : Cond.instanceMethod y_Mo_today ∈ nz_gd := nz_gm (List.mem_of_getElem? (i := 1551) (by decide +kernel)) rfl
theorem k_1460 : Cond.selects R_Mo y_Mo_today y_Mo_today ∈ nz_gd := nz_gm (List.mem_of_getElem? (i := 1552) (by decide +kernel)) rfl
theorem k_1461 : Cond.code y_Mo_today b_Mo_today 5 (some .int) ∈ nz_gd := nz_gm (List.mem_of_getElem? (i := 1553) (by decide +kernel)) rfl
theorem k_1462 : Cond.methodLink R_Mo 402 y_Mo_isPlace ∈ nz_gd := nz_gm (List.mem_of_getElem? (i := 1554) (by decide +kernel)) rfl
theorem k_1464 : Cond.instanceMethod y_Mo_isPlace ∈ nz_gd := nz_gm (List.mem_of_getElem? (i := 1556) (by decide +kernel)) rfl
theorem k_1465 : Cond.code y_Mo_isPlace b_Mo_isPlace 2 (some .boolean) ∈ nz_gd := nz_gm (List.mem_of_getElem? (i := 1557) (by decide +kernel)) rfl
theorem k_1466 : Cond.methodLink R_Mo 405 y_Mo_todayOf ∈ nz_gd := nz_gm (List.mem_of_getElem? (i := 1558) (by decide +kernel)) rfl
theorem k_1468 : Cond.instanceMethod y_Mo_todayOf ∈ nz_gd := nz_gm (List.mem_of_getElem? (i := 1560) (by decide +kernel)) rfl
theorem k_1469 : Cond.code y_Mo_todayOf b_Mo_todayOf 5 (some .int) ∈ nz_gd := nz_gm (List.mem_of_getElem? (i := 1561) (by decide +kernel)) rfl
theorem k_1470 : Cond.methodLink R_Mo 399 y_Mo_isGone ∈ nz_gd := nz_gm (List.mem_of_getElem? (i := 1562) (by decide +kernel)) rfl
theorem k_1472 : Cond.instanceMethod y_Mo_isGone ∈ nz_gd := nz_gm (List.mem_of_getElem? (i := 1564) (by decide +kernel)) rfl
theorem k_1473 : Cond.code y_Mo_isGone b_Mo_isGone 5 (some .boolean) ∈ nz_gd := nz_gm (List.mem_of_getElem? (i := 1565) (by decide +kernel)) rfl
theorem k_1474 : Cond.methodLink R_law 87 y_Mo_parted ∈ nz_gd := nz_gm (List.mem_of_getElem? (i := 1566) (by decide +kernel)) rfl
theorem k_1475 : Cond.instanceMethod y_Mo_parted ∈ nz_gd := nz_gm (List.mem_of_getElem? (i := 1567) (by decide +kernel)) rfl
theorem k_1476 : Cond.selects R_Mo y_Mo_parted y_Mo_parted ∈ nz_gd := nz_gm (List.mem_of_getElem? (i := 1568) (by decide +kernel)) rfl
theorem k_1477 : Cond.code y_Mo_parted b_Mo_parted 7 (some .int) ∈ nz_gd := nz_gm (List.mem_of_getElem? (i := 1569) (by decide +kernel)) rfl
theorem k_1478 : Cond.methodLink R_law 91 y_Mo_changes ∈ nz_gd := nz_gm (List.mem_of_getElem? (i := 1570) (by decide +kernel)) rfl
theorem k_1479 : Cond.instanceMethod y_Mo_changes ∈ nz_gd := nz_gm (List.mem_of_getElem? (i := 1571) (by decide +kernel)) rfl
theorem k_1480 : Cond.selects R_Mo y_Mo_changes y_Mo_changes ∈ nz_gd := nz_gm (List.mem_of_getElem? (i := 1572) (by decide +kernel)) rfl
theorem k_1481 : Cond.code y_Mo_changes b_Mo_changes 6 (some .int) ∈ nz_gd := nz_gm (List.mem_of_getElem? (i := 1573) (by decide +kernel)) rfl
theorem k_1482 : Cond.methodLink R_Mo 408 y_Mo_areYears ∈ nz_gd := nz_gm (List.mem_of_getElem? (i := 1574) (by decide +kernel)) rfl
theorem k_1483 : Cond.static y_Mo_areYears ∈ nz_gd := nz_gm (List.mem_of_getElem? (i := 1575) (by decide +kernel)) rfl
theorem k_1484 : Cond.code y_Mo_areYears b_Mo_areYears 2 (some .boolean) ∈ nz_gd := nz_gm (List.mem_of_getElem? (i := 1576) (by decide +kernel)) rfl
theorem k_1485 : Cond.methodLink R_Mo 411 y_Mo_changesOf ∈ nz_gd := nz_gm (List.mem_of_getElem? (i := 1577) (by decide +kernel)) rfl
theorem k_1487 : Cond.instanceMethod y_Mo_changesOf ∈ nz_gd := nz_gm (List.mem_of_getElem? (i := 1579) (by decide +kernel)) rfl
theorem k_1488 : Cond.code y_Mo_changesOf b_Mo_changesOf 9 (some .int) ∈ nz_gd := nz_gm (List.mem_of_getElem? (i := 1580) (by decide +kernel)) rfl
theorem k_1489 : Cond.methodLink R_law 95 y_Mo_renewed ∈ nz_gd := nz_gm (List.mem_of_getElem? (i := 1581) (by decide +kernel)) rfl
theorem k_1490 : Cond.instanceMethod y_Mo_renewed ∈ nz_gd := nz_gm (List.mem_of_getElem? (i := 1582) (by decide +kernel)) rfl
theorem k_1491 : Cond.selects R_Mo y_Mo_renewed y_Mo_renewed ∈ nz_gd := nz_gm (List.mem_of_getElem? (i := 1583) (by decide +kernel)) rfl
theorem k_1492 : Cond.code y_Mo_renewed b_Mo_renewed 9 (some .int) ∈ nz_gd := nz_gm (List.mem_of_getElem? (i := 1584) (by decide +kernel)) rfl
theorem k_1493 : Cond.methodLink R_law 99 y_Mo_tell ∈ nz_gd := nz_gm (List.mem_of_getElem? (i := 1585) (by decide +kernel)) rfl
theorem k_1494 : Cond.instanceMethod y_Mo_tell ∈ nz_gd := nz_gm (List.mem_of_getElem? (i := 1586) (by decide +kernel)) rfl
theorem k_1495 : Cond.selects R_Mo y_Mo_tell y_Mo_tell ∈ nz_gd := nz_gm (List.mem_of_getElem? (i := 1587) (by decide +kernel)) rfl
theorem k_1496 : Cond.code y_Mo_tell b_Mo_tell 6 (some .int) ∈ nz_gd := nz_gm (List.mem_of_getElem? (i := 1588) (by decide +kernel)) rfl
theorem k_1497 : Cond.methodLink R_Mo 420 y_Mo_find ∈ nz_gd := nz_gm (List.mem_of_getElem? (i := 1589) (by decide +kernel)) rfl
theorem k_1499 : Cond.instanceMethod y_Mo_find ∈ nz_gd := nz_gm (List.mem_of_getElem? (i := 1591) (by decide +kernel)) rfl
theorem k_1500 : Cond.code y_Mo_find b_Mo_find 9 (some .int) ∈ nz_gd := nz_gm (List.mem_of_getElem? (i := 1592) (by decide +kernel)) rfl
theorem k_1501 : Cond.methodLink R_Mo 417 y_Mo_passes ∈ nz_gd := nz_gm (List.mem_of_getElem? (i := 1593) (by decide +kernel)) rfl
theorem k_1503 : Cond.instanceMethod y_Mo_passes ∈ nz_gd := nz_gm (List.mem_of_getElem? (i := 1595) (by decide +kernel)) rfl
theorem k_1504 : Cond.code y_Mo_passes b_Mo_passes 6 (some .boolean) ∈ nz_gd := nz_gm (List.mem_of_getElem? (i := 1596) (by decide +kernel)) rfl
theorem k_1505 : Cond.methodLink R_Mo 414 y_Mo_talk ∈ nz_gd := nz_gm (List.mem_of_getElem? (i := 1597) (by decide +kernel)) rfl
theorem k_1507 : Cond.instanceMethod y_Mo_talk ∈ nz_gd := nz_gm (List.mem_of_getElem? (i := 1599) (by decide +kernel)) rfl
theorem k_1508 : Cond.code y_Mo_talk b_Mo_talk 4 (some .boolean) ∈ nz_gd := nz_gm (List.mem_of_getElem? (i := 1600) (by decide +kernel)) rfl
theorem k_1509 : Cond.methodLink R_law 104 y_Mo_told ∈ nz_gd := nz_gm (List.mem_of_getElem? (i := 1601) (by decide +kernel)) rfl
theorem k_1510 : Cond.instanceMethod y_Mo_told ∈ nz_gd := nz_gm (List.mem_of_getElem? (i := 1602) (by decide +kernel)) rfl
theorem k_1511 : Cond.selects R_Mo y_Mo_told y_Mo_told ∈ nz_gd := nz_gm (List.mem_of_getElem? (i := 1603) (by decide +kernel)) rfl
theorem k_1512 : Cond.code y_Mo_told b_Mo_told 8 (some .int) ∈ nz_gd := nz_gm (List.mem_of_getElem? (i := 1604) (by decide +kernel)) rfl
theorem k_1513 : Cond.methodLink R_Mo 423 y_Mo_tell ∈ nz_gd := nz_gm (List.mem_of_getElem? (i := 1605) (by decide +kernel)) rfl
theorem k_1514 : Cond.methodLink R_law 108 y_Mo_safe ∈ nz_gd := nz_gm (List.mem_of_getElem? (i := 1606) (by decide +kernel)) rfl
theorem k_1515 : Cond.instanceMethod y_Mo_safe ∈ nz_gd := nz_gm (List.mem_of_getElem? (i := 1607) (by decide +kernel)) rfl
theorem k_1516 : Cond.selects R_Mo y_Mo_safe y_Mo_safe ∈ nz_gd := nz_gm (List.mem_of_getElem? (i := 1608) (by decide +kernel)) rfl
theorem k_1517 : Cond.code y_Mo_safe b_Mo_safe 4 (some .int) ∈ nz_gd := nz_gm (List.mem_of_getElem? (i := 1609) (by decide +kernel)) rfl
theorem k_1518 : Cond.methodLink R_law 112 y_Mo_hurt ∈ nz_gd := nz_gm (List.mem_of_getElem? (i := 1610) (by decide +kernel)) rfl
theorem k_1519 : Cond.instanceMethod y_Mo_hurt ∈ nz_gd := nz_gm (List.mem_of_getElem? (i := 1611) (by decide +kernel)) rfl
theorem k_1520 : Cond.selects R_Mo y_Mo_hurt y_Mo_hurt ∈ nz_gd := nz_gm (List.mem_of_getElem? (i := 1612) (by decide +kernel)) rfl
theorem k_1521 : Cond.code y_Mo_hurt b_Mo_hurt 5 (some .int) ∈ nz_gd := nz_gm (List.mem_of_getElem? (i := 1613) (by decide +kernel)) rfl
theorem k_1522 : Cond.methodLink R_Mo 426 y_Mo_hurtOf ∈ nz_gd := nz_gm (List.mem_of_getElem? (i := 1614) (by decide +kernel)) rfl
theorem k_1524 : Cond.instanceMethod y_Mo_hurtOf ∈ nz_gd := nz_gm (List.mem_of_getElem? (i := 1616) (by decide +kernel)) rfl
theorem k_1525 : Cond.code y_Mo_hurtOf b_Mo_hurtOf 6 (some .int) ∈ nz_gd := nz_gm (List.mem_of_getElem? (i := 1617) (by decide +kernel)) rfl
theorem k_1526 : Cond.methodLink R_law 116 y_Mo_child ∈ nz_gd := nz_gm (List.mem_of_getElem? (i := 1618) (by decide +kernel)) rfl
theorem k_1527 : Cond.instanceMethod y_Mo_child ∈ nz_gd := nz_gm (List.mem_of_getElem? (i := 1619) (by decide +kernel)) rfl
theorem k_1528 : Cond.selects R_Mo y_Mo_child y_Mo_child ∈ nz_gd := nz_gm (List.mem_of_getElem? (i := 1620) (by decide +kernel)) rfl
theorem k_1529 : Cond.code y_Mo_child b_Mo_child 8 (some .int) ∈ nz_gd := nz_gm (List.mem_of_getElem? (i := 1621) (by decide +kernel)) rfl
theorem k_1530 : Cond.methodLink R_law 121 y_Mo_mean ∈ nz_gd := nz_gm (List.mem_of_getElem? (i := 1622) (by decide +kernel)) rfl
theorem k_1531 : Cond.instanceMethod y_Mo_mean ∈ nz_gd := nz_gm (List.mem_of_getElem? (i := 1623) (by decide +kernel)) rfl
theorem k_1532 : Cond.selects R_Mo y_Mo_mean y_Mo_mean ∈ nz_gd := nz_gm (List.mem_of_getElem? (i := 1624) (by decide +kernel)) rfl
theorem k_1533 : Cond.code y_Mo_mean b_Mo_mean 16 (some .long) ∈ nz_gd := nz_gm (List.mem_of_getElem? (i := 1625) (by decide +kernel)) rfl
theorem k_1534 : Cond.constantLong R_Mo 429 (-1) ∈ nz_gd := nz_gm (List.mem_of_getElem? (i := 1626) (by decide +kernel)) rfl
theorem k_1535 : Cond.constantLong R_Mo 431 (-2) ∈ nz_gd := nz_gm (List.mem_of_getElem? (i := 1627) (by decide +kernel)) rfl
theorem k_1536 : Cond.constantLong R_Mo 433 (10) ∈ nz_gd := nz_gm (List.mem_of_getElem? (i := 1628) (by decide +kernel)) rfl
theorem k_1537 : Cond.methodLink R_Mo 435 y_Mo_todays ∈ nz_gd := nz_gm (List.mem_of_getElem? (i := 1629) (by decide +kernel)) rfl
theorem k_1539 : Cond.instanceMethod y_Mo_todays ∈ nz_gd := nz_gm (List.mem_of_getElem? (i := 1631) (by decide +kernel)) rfl
theorem k_1540 : Cond.code y_Mo_todays b_Mo_todays 5 (some .int) ∈ nz_gd := nz_gm (List.mem_of_getElem? (i := 1632) (by decide +kernel)) rfl
theorem k_1541 : Cond.methodLink R_Mo 438 y_Mo_common ∈ nz_gd := nz_gm (List.mem_of_getElem? (i := 1633) (by decide +kernel)) rfl
theorem k_1542 : Cond.static y_Mo_common ∈ nz_gd := nz_gm (List.mem_of_getElem? (i := 1634) (by decide +kernel)) rfl
theorem k_1543 : Cond.code y_Mo_common b_Mo_common 10 (some .long) ∈ nz_gd := nz_gm (List.mem_of_getElem? (i := 1635) (by decide +kernel)) rfl
theorem k_1544 : Cond.methodLink R_law 125 y_Mo_wish ∈ nz_gd := nz_gm (List.mem_of_getElem? (i := 1636) (by decide +kernel)) rfl
theorem k_1545 : Cond.instanceMethod y_Mo_wish ∈ nz_gd := nz_gm (List.mem_of_getElem? (i := 1637) (by decide +kernel)) rfl
theorem k_1546 : Cond.selects R_Mo y_Mo_wish y_Mo_wish ∈ nz_gd := nz_gm (List.mem_of_getElem? (i := 1638) (by decide +kernel)) rfl
theorem k_1547 : Cond.code y_Mo_wish b_Mo_wish 12 (some .int) ∈ nz_gd := nz_gm (List.mem_of_getElem? (i := 1639) (by decide +kernel)) rfl
theorem k_1548 : Cond.methodLink R_Mo 442 y_Mo_graspAll ∈ nz_gd := nz_gm (List.mem_of_getElem? (i := 1640) (by decide +kernel)) rfl
theorem k_1550 : Cond.instanceMethod y_Mo_graspAll ∈ nz_gd := nz_gm (List.mem_of_getElem? (i := 1642) (by decide +kernel)) rfl
theorem k_1551 : Cond.code y_Mo_graspAll b_Mo_graspAll 5 (some .int) ∈ nz_gd := nz_gm (List.mem_of_getElem? (i := 1643) (by decide +kernel)) rfl
theorem k_1552 : Cond.methodLink R_law 129 y_Mo_old ∈ nz_gd := nz_gm (List.mem_of_getElem? (i := 1644) (by decide +kernel)) rfl
theorem k_1553 : Cond.instanceMethod y_Mo_old ∈ nz_gd := nz_gm (List.mem_of_getElem? (i := 1645) (by decide +kernel)) rfl
theorem k_1554 : Cond.selects R_Mo y_Mo_old y_Mo_old ∈ nz_gd := nz_gm (List.mem_of_getElem? (i := 1646) (by decide +kernel)) rfl
theorem k_1555 : Cond.code y_Mo_old b_Mo_old 6 (some .int) ∈ nz_gd := nz_gm (List.mem_of_getElem? (i := 1647) (by decide +kernel)) rfl
theorem k_1556 : Cond.methodLink R_law 133 y_Mo_about ∈ nz_gd := nz_gm (List.mem_of_getElem? (i := 1648) (by decide +kernel)) rfl
theorem k_1557 : Cond.instanceMethod y_Mo_about ∈ nz_gd := nz_gm (List.mem_of_getElem? (i := 1649) (by decide +kernel)) rfl
theorem k_1558 : Cond.selects R_Mo y_Mo_about y_Mo_about ∈ nz_gd := nz_gm (List.mem_of_getElem? (i := 1650) (by decide +kernel)) rfl
theorem k_1559 : Cond.code y_Mo_about b_Mo_about 2 (some .int) ∈ nz_gd := nz_gm (List.mem_of_getElem? (i := 1651) (by decide +kernel)) rfl
theorem k_1560 : Cond.methodLink R_law 17 y_Mo_feed ∈ nz_gd := nz_gm (List.mem_of_getElem? (i := 1652) (by decide +kernel)) rfl
theorem k_1561 : Cond.instanceMethod y_Mo_feed ∈ nz_gd := nz_gm (List.mem_of_getElem? (i := 1653) (by decide +kernel)) rfl
theorem k_1562 : Cond.selects R_Mo y_Mo_feed y_Mo_feed ∈ nz_gd := nz_gm (List.mem_of_getElem? (i := 1654) (by decide +kernel)) rfl
theorem k_1563 : Cond.code y_Mo_feed b_Mo_feed 8 (some .int) ∈ nz_gd := nz_gm (List.mem_of_getElem? (i := 1655) (by decide +kernel)) rfl
theorem k_1564 : Cond.methodLink R_law 22 y_Mo_end ∈ nz_gd := nz_gm (List.mem_of_getElem? (i := 1656) (by decide +kernel)) rfl
theorem k_1565 : Cond.instanceMethod y_Mo_end ∈ nz_gd := nz_gm (List.mem_of_getElem? (i := 1657) (by decide +kernel)) rfl
theorem k_1566 : Cond.selects R_Mo y_Mo_end y_Mo_end ∈ nz_gd := nz_gm (List.mem_of_getElem? (i := 1658) (by decide +kernel)) rfl
theorem k_1567 : Cond.code y_Mo_end b_Mo_end 2 (some .int) ∈ nz_gd := nz_gm (List.mem_of_getElem? (i := 1659) (by decide +kernel)) rfl
theorem k_1568 : Cond.fieldLink R_Str 9 "java/lang/String" "value" "[B" ∈ nz_gd := nz_gm (List.mem_of_getElem? (i := 1660) (by decide +kernel)) rfl
theorem k_1569 : Cond.fieldLink R_Str 15 "java/lang/String" "coder" "B" ∈ nz_gd := nz_gm (List.mem_of_getElem? (i := 1661) (by decide +kernel)) rfl
theorem s_0 : Cond.selects R_NF y_NF_putBytes y_NF_putBytes ∈ nz_gd := nz_gm (List.mem_of_getElem? (i := 0) (by decide +kernel)) rfl
theorem s_1 : Cond.selects R_Scanner y_Scanner_skipBlanks y_Scanner_skipBlanks ∈ nz_gd := nz_gm (List.mem_of_getElem? (i := 1) (by decide +kernel)) rfl
theorem s_2 : Cond.selects R_Scanner y_Scanner_takeWord y_Scanner_takeWord ∈ nz_gd := nz_gm (List.mem_of_getElem? (i := 2) (by decide +kernel)) rfl
theorem s_3 : Cond.selects R_Scanner y_Scanner_takeNumber y_Scanner_takeNumber ∈ nz_gd := nz_gm (List.mem_of_getElem? (i := 3) (by decide +kernel)) rfl
theorem s_4 : Cond.selects R_Reader y_Reader_refuse y_Reader_refuse ∈ nz_gd := nz_gm (List.mem_of_getElem? (i := 4) (by decide +kernel)) rfl
theorem s_5 : Cond.selects R_Reader y_Reader_hasRoom y_Reader_hasRoom ∈ nz_gd := nz_gm (List.mem_of_getElem? (i := 5) (by decide +kernel)) rfl
theorem s_6 : Cond.selects R_Reader y_Reader_readPlace y_Reader_readPlace ∈ nz_gd := nz_gm (List.mem_of_getElem? (i := 6) (by decide +kernel)) rfl
theorem s_7 : Cond.selects R_Reader y_Reader_takeNewName y_Reader_takeNewName ∈ nz_gd := nz_gm (List.mem_of_getElem? (i := 7) (by decide +kernel)) rfl
theorem s_8 : Cond.selects R_Reader y_Reader_takeName y_Reader_takeName ∈ nz_gd := nz_gm (List.mem_of_getElem? (i := 8) (by decide +kernel)) rfl
theorem s_9 : Cond.selects R_Reader y_Reader_takeKeyword y_Reader_takeKeyword ∈ nz_gd := nz_gm (List.mem_of_getElem? (i := 9) (by decide +kernel)) rfl
theorem s_10 : Cond.selects R_Reader y_Reader_takeChoice y_Reader_takeChoice ∈ nz_gd := nz_gm (List.mem_of_getElem? (i := 10) (by decide +kernel)) rfl
theorem s_11 : Cond.selects R_Reader y_Reader_takeNumber y_Reader_takeNumber ∈ nz_gd := nz_gm (List.mem_of_getElem? (i := 11) (by decide +kernel)) rfl
theorem s_12 : Cond.selects R_Reader y_Reader_takeSign y_Reader_takeSign ∈ nz_gd := nz_gm (List.mem_of_getElem? (i := 12) (by decide +kernel)) rfl
theorem s_13 : Cond.selects R_Reader y_Reader_readMeaning y_Reader_readMeaning ∈ nz_gd := nz_gm (List.mem_of_getElem? (i := 13) (by decide +kernel)) rfl
theorem s_14 : Cond.selects R_Reader y_Reader_readWord y_Reader_readWord ∈ nz_gd := nz_gm (List.mem_of_getElem? (i := 14) (by decide +kernel)) rfl
theorem s_15 : Cond.selects R_Reader y_Reader_takeKnownName y_Reader_takeKnownName ∈ nz_gd := nz_gm (List.mem_of_getElem? (i := 15) (by decide +kernel)) rfl
theorem s_16 : Cond.selects R_Reader y_Reader_takeRows y_Reader_takeRows ∈ nz_gd := nz_gm (List.mem_of_getElem? (i := 16) (by decide +kernel)) rfl
theorem s_17 : Cond.selects R_Reader y_Reader_readTurn y_Reader_readTurn ∈ nz_gd := nz_gm (List.mem_of_getElem? (i := 17) (by decide +kernel)) rfl
theorem s_18 : Cond.selects R_Reader y_Reader_readPerson y_Reader_readPerson ∈ nz_gd := nz_gm (List.mem_of_getElem? (i := 18) (by decide +kernel)) rfl
theorem s_19 : Cond.selects R_Reader y_Reader_takeParents y_Reader_takeParents ∈ nz_gd := nz_gm (List.mem_of_getElem? (i := 19) (by decide +kernel)) rfl
theorem s_20 : Cond.selects R_Reader y_Reader_readTalk y_Reader_readTalk ∈ nz_gd := nz_gm (List.mem_of_getElem? (i := 20) (by decide +kernel)) rfl
theorem s_21 : Cond.selects R_Land y_Land_noteSounds y_Land_noteSounds ∈ nz_gd := nz_gm (List.mem_of_getElem? (i := 21) (by decide +kernel)) rfl
theorem s_22 : Cond.selects R_NF y_NF_isPerson y_NF_isPerson ∈ nz_gd := nz_gm (List.mem_of_getElem? (i := 22) (by decide +kernel)) rfl
theorem s_23 : Cond.selects R_Falls y_Falls_endOfFall y_Falls_endOfFall ∈ nz_gd := nz_gm (List.mem_of_getElem? (i := 23) (by decide +kernel)) rfl
theorem s_24 : Cond.selects R_Falls y_Falls_liftingYear y_Falls_liftingYear ∈ nz_gd := nz_gm (List.mem_of_getElem? (i := 24) (by decide +kernel)) rfl
theorem s_25 : Cond.selects R_NF y_NF_isWord y_NF_isWord ∈ nz_gd := nz_gm (List.mem_of_getElem? (i := 25) (by decide +kernel)) rfl
theorem s_26 : Cond.selects R_NF y_NF_canSpeak y_NF_canSpeak ∈ nz_gd := nz_gm (List.mem_of_getElem? (i := 26) (by decide +kernel)) rfl
theorem s_27 : Cond.selects R_Falls y_Falls_binds y_Falls_binds ∈ nz_gd := nz_gm (List.mem_of_getElem? (i := 27) (by decide +kernel)) rfl
theorem s_28 : Cond.selects R_Falls y_Falls_wordsOf y_Falls_wordsOf ∈ nz_gd := nz_gm (List.mem_of_getElem? (i := 28) (by decide +kernel)) rfl
theorem s_29 : Cond.selects R_NF y_NF_firstBarred y_NF_firstBarred ∈ nz_gd := nz_gm (List.mem_of_getElem? (i := 29) (by decide +kernel)) rfl
theorem s_30 : Cond.selects R_NF y_NF_isMeaning y_NF_isMeaning ∈ nz_gd := nz_gm (List.mem_of_getElem? (i := 30) (by decide +kernel)) rfl
theorem s_31 : Cond.selects R_Speech y_Speech_lowerByTurns y_Speech_lowerByTurns ∈ nz_gd := nz_gm (List.mem_of_getElem? (i := 31) (by decide +kernel)) rfl
theorem s_32 : Cond.selects R_NF y_NF_isPlace y_NF_isPlace ∈ nz_gd := nz_gm (List.mem_of_getElem? (i := 32) (by decide +kernel)) rfl
theorem s_33 : Cond.selects R_Falls y_Falls_fallsForAll y_Falls_fallsForAll ∈ nz_gd := nz_gm (List.mem_of_getElem? (i := 33) (by decide +kernel)) rfl
theorem s_34 : Cond.selects R_NF y_NF_countChanges y_NF_countChanges ∈ nz_gd := nz_gm (List.mem_of_getElem? (i := 34) (by decide +kernel)) rfl
theorem s_35 : Cond.selects R_Speech y_Speech_passes y_Speech_passes ∈ nz_gd := nz_gm (List.mem_of_getElem? (i := 35) (by decide +kernel)) rfl
theorem s_36 : Cond.selects R_Speech y_Speech_layWay y_Speech_layWay ∈ nz_gd := nz_gm (List.mem_of_getElem? (i := 36) (by decide +kernel)) rfl
theorem s_37 : Cond.selects R_NF y_NF_hurtOf y_NF_hurtOf ∈ nz_gd := nz_gm (List.mem_of_getElem? (i := 37) (by decide +kernel)) rfl
theorem s_38 : Cond.selects R_Mo y_Mo_goOn y_Mo_goOn ∈ nz_gd := nz_gm (List.mem_of_getElem? (i := 38) (by decide +kernel)) rfl
theorem s_39 : Cond.selects R_Mo y_Mo_sign y_Mo_sign ∈ nz_gd := nz_gm (List.mem_of_getElem? (i := 39) (by decide +kernel)) rfl
theorem s_40 : Cond.selects R_Mo y_Mo_isGood y_Mo_isGood ∈ nz_gd := nz_gm (List.mem_of_getElem? (i := 40) (by decide +kernel)) rfl
theorem s_41 : Cond.selects R_Mo y_Mo_readLine y_Mo_readLine ∈ nz_gd := nz_gm (List.mem_of_getElem? (i := 41) (by decide +kernel)) rfl
theorem s_42 : Cond.selects R_Mo y_Mo_isWord y_Mo_isWord ∈ nz_gd := nz_gm (List.mem_of_getElem? (i := 42) (by decide +kernel)) rfl
theorem s_43 : Cond.selects R_Mo y_Mo_wrong y_Mo_wrong ∈ nz_gd := nz_gm (List.mem_of_getElem? (i := 43) (by decide +kernel)) rfl
theorem s_44 : Cond.selects R_Mo y_Mo_fails y_Mo_fails ∈ nz_gd := nz_gm (List.mem_of_getElem? (i := 44) (by decide +kernel)) rfl
theorem s_45 : Cond.selects R_Mo y_Mo_readPlace y_Mo_readPlace ∈ nz_gd := nz_gm (List.mem_of_getElem? (i := 45) (by decide +kernel)) rfl
theorem s_46 : Cond.selects R_Mo y_Mo_placeHere y_Mo_placeHere ∈ nz_gd := nz_gm (List.mem_of_getElem? (i := 46) (by decide +kernel)) rfl
theorem s_47 : Cond.selects R_Mo y_Mo_here y_Mo_here ∈ nz_gd := nz_gm (List.mem_of_getElem? (i := 47) (by decide +kernel)) rfl
theorem s_48 : Cond.selects R_Mo y_Mo_fresh y_Mo_fresh ∈ nz_gd := nz_gm (List.mem_of_getElem? (i := 48) (by decide +kernel)) rfl
theorem s_49 : Cond.selects R_Mo y_Mo_must y_Mo_must ∈ nz_gd := nz_gm (List.mem_of_getElem? (i := 49) (by decide +kernel)) rfl
theorem s_50 : Cond.selects R_Mo y_Mo_numeral y_Mo_numeral ∈ nz_gd := nz_gm (List.mem_of_getElem? (i := 50) (by decide +kernel)) rfl
theorem s_51 : Cond.selects R_Mo y_Mo_readMeaning y_Mo_readMeaning ∈ nz_gd := nz_gm (List.mem_of_getElem? (i := 51) (by decide +kernel)) rfl
theorem s_52 : Cond.selects R_Mo y_Mo_meaningHere y_Mo_meaningHere ∈ nz_gd := nz_gm (List.mem_of_getElem? (i := 52) (by decide +kernel)) rfl
theorem s_53 : Cond.selects R_Mo y_Mo_readWord y_Mo_readWord ∈ nz_gd := nz_gm (List.mem_of_getElem? (i := 53) (by decide +kernel)) rfl
theorem s_54 : Cond.selects R_Mo y_Mo_given y_Mo_given ∈ nz_gd := nz_gm (List.mem_of_getElem? (i := 54) (by decide +kernel)) rfl
theorem s_55 : Cond.selects R_Mo y_Mo_readTurn y_Mo_readTurn ∈ nz_gd := nz_gm (List.mem_of_getElem? (i := 55) (by decide +kernel)) rfl
theorem s_56 : Cond.selects R_Mo y_Mo_readPerson y_Mo_readPerson ∈ nz_gd := nz_gm (List.mem_of_getElem? (i := 56) (by decide +kernel)) rfl
theorem s_57 : Cond.selects R_Mo y_Mo_personHere y_Mo_personHere ∈ nz_gd := nz_gm (List.mem_of_getElem? (i := 57) (by decide +kernel)) rfl
theorem s_58 : Cond.selects R_Mo y_Mo_readTalk y_Mo_readTalk ∈ nz_gd := nz_gm (List.mem_of_getElem? (i := 58) (by decide +kernel)) rfl
theorem s_59 : Cond.selects R_Mo y_Mo_layNear y_Mo_layNear ∈ nz_gd := nz_gm (List.mem_of_getElem? (i := 59) (by decide +kernel)) rfl
theorem s_60 : Cond.selects R_Mo y_Mo_isChild y_Mo_isChild ∈ nz_gd := nz_gm (List.mem_of_getElem? (i := 60) (by decide +kernel)) rfl
theorem s_61 : Cond.selects R_Mo y_Mo_isPerson y_Mo_isPerson ∈ nz_gd := nz_gm (List.mem_of_getElem? (i := 61) (by decide +kernel)) rfl
theorem s_62 : Cond.selects R_Mo y_Mo_bornOf y_Mo_bornOf ∈ nz_gd := nz_gm (List.mem_of_getElem? (i := 62) (by decide +kernel)) rfl
theorem s_63 : Cond.selects R_Mo y_Mo_know y_Mo_know ∈ nz_gd := nz_gm (List.mem_of_getElem? (i := 63) (by decide +kernel)) rfl
theorem s_64 : Cond.selects R_Mo y_Mo_isAlive y_Mo_isAlive ∈ nz_gd := nz_gm (List.mem_of_getElem? (i := 64) (by decide +kernel)) rfl
theorem s_65 : Cond.selects R_Mo y_Mo_isWordNo y_Mo_isWordNo ∈ nz_gd := nz_gm (List.mem_of_getElem? (i := 65) (by decide +kernel)) rfl
theorem s_66 : Cond.selects R_Mo y_Mo_wordOf y_Mo_wordOf ∈ nz_gd := nz_gm (List.mem_of_getElem? (i := 66) (by decide +kernel)) rfl
theorem s_67 : Cond.selects R_Mo y_Mo_calledOf y_Mo_calledOf ∈ nz_gd := nz_gm (List.mem_of_getElem? (i := 67) (by decide +kernel)) rfl
theorem s_68 : Cond.selects R_Mo y_Mo_apartOf y_Mo_apartOf ∈ nz_gd := nz_gm (List.mem_of_getElem? (i := 68) (by decide +kernel)) rfl
theorem s_69 : Cond.selects R_Mo y_Mo_speak y_Mo_speak ∈ nz_gd := nz_gm (List.mem_of_getElem? (i := 69) (by decide +kernel)) rfl
theorem s_70 : Cond.selects R_Mo y_Mo_isBarred y_Mo_isBarred ∈ nz_gd := nz_gm (List.mem_of_getElem? (i := 70) (by decide +kernel)) rfl
theorem s_71 : Cond.selects R_Mo y_Mo_homeOf y_Mo_homeOf ∈ nz_gd := nz_gm (List.mem_of_getElem? (i := 71) (by decide +kernel)) rfl
theorem s_72 : Cond.selects R_Mo y_Mo_placeNo y_Mo_placeNo ∈ nz_gd := nz_gm (List.mem_of_getElem? (i := 72) (by decide +kernel)) rfl
theorem s_73 : Cond.selects R_Mo y_Mo_holds y_Mo_holds ∈ nz_gd := nz_gm (List.mem_of_getElem? (i := 73) (by decide +kernel)) rfl
theorem s_74 : Cond.selects R_Mo y_Mo_isFall y_Mo_isFall ∈ nz_gd := nz_gm (List.mem_of_getElem? (i := 74) (by decide +kernel)) rfl
theorem s_75 : Cond.selects R_Mo y_Mo_comesFrom y_Mo_comesFrom ∈ nz_gd := nz_gm (List.mem_of_getElem? (i := 75) (by decide +kernel)) rfl
theorem s_76 : Cond.selects R_Mo y_Mo_isMeaning y_Mo_isMeaning ∈ nz_gd := nz_gm (List.mem_of_getElem? (i := 76) (by decide +kernel)) rfl
theorem s_77 : Cond.selects R_Mo y_Mo_insteadOf y_Mo_insteadOf ∈ nz_gd := nz_gm (List.mem_of_getElem? (i := 77) (by decide +kernel)) rfl
theorem s_78 : Cond.selects R_Mo y_Mo_firstOf y_Mo_firstOf ∈ nz_gd := nz_gm (List.mem_of_getElem? (i := 78) (by decide +kernel)) rfl
theorem s_79 : Cond.selects R_Mo y_Mo_means y_Mo_means ∈ nz_gd := nz_gm (List.mem_of_getElem? (i := 79) (by decide +kernel)) rfl
theorem s_80 : Cond.selects R_Mo y_Mo_isAt y_Mo_isAt ∈ nz_gd := nz_gm (List.mem_of_getElem? (i := 80) (by decide +kernel)) rfl
theorem s_81 : Cond.selects R_Mo y_Mo_graspOf y_Mo_graspOf ∈ nz_gd := nz_gm (List.mem_of_getElem? (i := 81) (by decide +kernel)) rfl
theorem s_82 : Cond.selects R_Mo y_Mo_isPlace y_Mo_isPlace ∈ nz_gd := nz_gm (List.mem_of_getElem? (i := 82) (by decide +kernel)) rfl
theorem s_83 : Cond.selects R_Mo y_Mo_todayOf y_Mo_todayOf ∈ nz_gd := nz_gm (List.mem_of_getElem? (i := 83) (by decide +kernel)) rfl
theorem s_84 : Cond.selects R_Mo y_Mo_isGone y_Mo_isGone ∈ nz_gd := nz_gm (List.mem_of_getElem? (i := 84) (by decide +kernel)) rfl
theorem s_85 : Cond.selects R_Mo y_Mo_changesOf y_Mo_changesOf ∈ nz_gd := nz_gm (List.mem_of_getElem? (i := 85) (by decide +kernel)) rfl
theorem s_86 : Cond.selects R_Mo y_Mo_find y_Mo_find ∈ nz_gd := nz_gm (List.mem_of_getElem? (i := 86) (by decide +kernel)) rfl
theorem s_87 : Cond.selects R_Mo y_Mo_passes y_Mo_passes ∈ nz_gd := nz_gm (List.mem_of_getElem? (i := 87) (by decide +kernel)) rfl
theorem s_88 : Cond.selects R_Mo y_Mo_talk y_Mo_talk ∈ nz_gd := nz_gm (List.mem_of_getElem? (i := 88) (by decide +kernel)) rfl
theorem s_89 : Cond.selects R_Mo y_Mo_hurtOf y_Mo_hurtOf ∈ nz_gd := nz_gm (List.mem_of_getElem? (i := 89) (by decide +kernel)) rfl
theorem s_90 : Cond.selects R_Mo y_Mo_todays y_Mo_todays ∈ nz_gd := nz_gm (List.mem_of_getElem? (i := 90) (by decide +kernel)) rfl
theorem s_91 : Cond.selects R_Mo y_Mo_graspAll y_Mo_graspAll ∈ nz_gd := nz_gm (List.mem_of_getElem? (i := 91) (by decide +kernel)) rfl
theorem i_Chances : ∀ w ∈ u_ws R_Chances F_Chances 5, w ∈ nz_gd := by decide +kernel
theorem i_Deaths : ∀ w ∈ u_ws R_Deaths F_Deaths 6, w ∈ nz_gd := by decide +kernel
theorem i_Falls : ∀ w ∈ u_ws R_Falls F_Falls 7, w ∈ nz_gd := by decide +kernel
theorem i_Land : ∀ w ∈ u_ws R_Land F_Land 5, w ∈ nz_gd := by decide +kernel
theorem i_Meanings : ∀ w ∈ u_ws R_Meanings F_Meanings 6, w ∈ nz_gd := by decide +kernel
theorem i_Persons : ∀ w ∈ u_ws R_Persons F_Persons 11, w ∈ nz_gd := by decide +kernel
theorem i_Places : ∀ w ∈ u_ws R_Places F_Places 8, w ∈ nz_gd := by decide +kernel
theorem i_Reader : ∀ w ∈ u_ws R_Reader F_Reader 5, w ∈ nz_gd := by decide +kernel
theorem i_Scanner : ∀ w ∈ u_ws R_Scanner F_Scanner 9, w ∈ nz_gd := by decide +kernel
theorem i_Speech : ∀ w ∈ u_ws R_Speech F_Speech 5, w ∈ nz_gd := by decide +kernel
theorem i_Words : ∀ w ∈ u_ws R_Words F_Words 3, w ∈ nz_gd := by decide +kernel
theorem i_NF : ∀ w ∈ u_ws R_NF F_NF 11, w ∈ nz_gd := by decide +kernel
theorem i_Mo : ∀ w ∈ u_ws R_Mo F_Mo 55, w ∈ nz_gd := by decide +kernel
theorem g_NF_80 : nz_wV R_NF 80 y_NF_putBytes b_NF_putBytes 3 none 1 := ⟨k_498, k_500, s_0, k_1, k_501, by decide +kernel, by decide +kernel, by decide +kernel⟩
theorem g_NF_84 : nz_wV R_NF 84 y_Reader_begin b_Reader_begin 3 none 2 := ⟨k_510, k_511, k_512, k_8, k_513, by decide +kernel, by decide +kernel, by decide +kernel⟩
theorem g_NF_88 : nz_wV R_NF 88 y_Reader_readLine b_Reader_readLine 2 (some .boolean) 1 := ⟨k_569, k_570, k_571, k_8, k_572, by decide +kernel, by decide +kernel, by decide +kernel⟩
theorem g_NF_95 : nz_wV R_NF 95 y_Land_settle b_Land_settle 2 none 0 := ⟨k_650, k_651, k_652, k_2, k_653, by decide +kernel, by decide +kernel, by decide +kernel⟩
theorem g_NF_98 : nz_wV R_NF 98 y_Deaths_forget b_Deaths_forget 1 none 0 := ⟨k_682, k_683, k_684, k_14, k_685, by decide +kernel, by decide +kernel, by decide +kernel⟩
theorem g_NF_104 : nz_wV R_NF 104 y_NF_isPerson b_NF_isPerson 2 (some .boolean) 1 := ⟨k_694, k_696, s_22, k_1, k_697, by decide +kernel, by decide +kernel, by decide +kernel⟩
theorem g_NF_108 : nz_wS R_NF 108 y_NF_isYear b_NF_isYear 1 (some .boolean) 1 := ⟨k_698, k_699, k_1, k_700, by decide +kernel, by decide +kernel, by decide +kernel⟩
theorem g_NF_120 : nz_wV R_NF 120 y_Deaths_add b_Deaths_add 3 (some .int) 2 := ⟨k_701, k_702, k_703, k_14, k_704, by decide +kernel, by decide +kernel, by decide +kernel⟩
theorem g_NF_124 : nz_wV R_NF 124 y_Deaths_takeBack b_Deaths_takeBack 2 (some .boolean) 1 := ⟨k_709, k_710, k_711, k_14, k_712, by decide +kernel, by decide +kernel, by decide +kernel⟩
theorem g_NF_127 : nz_wV R_NF 127 y_Deaths_goOn b_Deaths_goOn 2 (some .int) 1 := ⟨k_717, k_718, k_719, k_14, k_720, by decide +kernel, by decide +kernel, by decide +kernel⟩
theorem g_NF_131 : nz_wV R_NF 131 y_Falls_know b_Falls_know 6 none 4 := ⟨k_726, k_727, k_728, k_7, k_729, by decide +kernel, by decide +kernel, by decide +kernel⟩
theorem g_NF_135 : nz_wV R_NF 135 y_Falls_isAlive b_Falls_isAlive 3 (some .boolean) 1 := ⟨k_752, k_753, k_754, k_7, k_755, by decide +kernel, by decide +kernel, by decide +kernel⟩
theorem g_NF_138 : nz_wV R_NF 138 y_NF_isWord b_NF_isWord 2 (some .boolean) 1 := ⟨k_760, k_762, s_25, k_1, k_763, by decide +kernel, by decide +kernel, by decide +kernel⟩
theorem g_NF_154 : nz_wV R_NF 154 y_Land_lettersApart b_Land_lettersApart 12 (some .int) 2 := ⟨k_764, k_672, k_673, k_2, k_674, by decide +kernel, by decide +kernel, by decide +kernel⟩
theorem g_NF_158 : nz_wV R_NF 158 y_Persons_stepsBetween b_Persons_stepsBetween 3 (some .int) 2 := ⟨k_769, k_664, k_665, k_6, k_666, by decide +kernel, by decide +kernel, by decide +kernel⟩
theorem g_NF_161 : nz_wV R_NF 161 y_NF_canSpeak b_NF_canSpeak 5 (some .boolean) 4 := ⟨k_774, k_776, s_26, k_1, k_777, by decide +kernel, by decide +kernel, by decide +kernel⟩
theorem g_NF_165 : nz_wV R_NF 165 y_Falls_barred b_Falls_barred 5 (some .int) 2 := ⟨k_778, k_779, k_780, k_7, k_781, by decide +kernel, by decide +kernel, by decide +kernel⟩
theorem g_NF_168 : nz_wS R_NF 168 y_NF_has b_NF_has 2 (some .boolean) 2 := ⟨k_795, k_624, k_1, k_625, by decide +kernel, by decide +kernel, by decide +kernel⟩
theorem g_NF_173 : nz_wV R_NF 173 y_NF_firstBarred b_NF_firstBarred 7 (some .int) 2 := ⟨k_801, k_803, s_29, k_1, k_804, by decide +kernel, by decide +kernel, by decide +kernel⟩
theorem g_NF_176 : nz_wV R_NF 176 y_NF_isMeaning b_NF_isMeaning 2 (some .boolean) 1 := ⟨k_809, k_811, s_30, k_1, k_812, by decide +kernel, by decide +kernel, by decide +kernel⟩
theorem g_NF_179 : nz_wV R_NF 179 y_Speech_wordFor b_Speech_wordFor 5 (some .int) 4 := ⟨k_813, k_814, k_815, k_15, k_816, by decide +kernel, by decide +kernel, by decide +kernel⟩
theorem g_NF_183 : nz_wV R_NF 183 y_Speech_leastCost b_Speech_leastCost 9 (some .int) 4 := ⟨k_842, k_843, k_844, k_15, k_845, by decide +kernel, by decide +kernel, by decide +kernel⟩
theorem g_NF_186 : nz_wV R_NF 186 y_Speech_grasped b_Speech_grasped 7 (some .int) 3 := ⟨k_854, k_855, k_856, k_15, k_857, by decide +kernel, by decide +kernel, by decide +kernel⟩
theorem g_NF_190 : nz_wV R_NF 190 y_NF_isPlace b_NF_isPlace 2 (some .boolean) 1 := ⟨k_867, k_869, s_32, k_1, k_870, by decide +kernel, by decide +kernel, by decide +kernel⟩
theorem g_NF_197 : nz_wV R_NF 197 y_Falls_heldAt b_Falls_heldAt 4 (some .int) 1 := ⟨k_871, k_872, k_873, k_7, k_874, by decide +kernel, by decide +kernel, by decide +kernel⟩
theorem g_NF_200 : nz_wV R_NF 200 y_Places_firstOf b_Places_firstOf 4 (some .int) 3 := ⟨k_879, k_822, k_823, k_3, k_824, by decide +kernel, by decide +kernel, by decide +kernel⟩
theorem g_NF_215 : nz_wS R_NF 215 y_NF_isSpan b_NF_isSpan 2 (some .boolean) 2 := ⟨k_888, k_889, k_1, k_890, by decide +kernel, by decide +kernel, by decide +kernel⟩
theorem g_NF_218 : nz_wV R_NF 218 y_NF_countChanges b_NF_countChanges 8 none 3 := ⟨k_891, k_893, s_34, k_1, k_894, by decide +kernel, by decide +kernel, by decide +kernel⟩
theorem g_NF_222 : nz_wV R_NF 222 y_Speech_findWay b_Speech_findWay 10 (some .int) 4 := ⟨k_904, k_905, k_906, k_15, k_907, by decide +kernel, by decide +kernel, by decide +kernel⟩
theorem g_NF_225 : nz_wV R_NF 225 y_Speech_onWay b_Speech_onWay 2 (some .int) 1 := ⟨k_921, k_922, k_923, k_15, k_924, by decide +kernel, by decide +kernel, by decide +kernel⟩
theorem g_NF_235 : nz_wV R_NF 235 y_Persons_soundsLike b_Persons_soundsLike 3 (some .int) 2 := ⟨k_929, k_792, k_793, k_6, k_794, by decide +kernel, by decide +kernel, by decide +kernel⟩
theorem g_NF_238 : nz_wV R_NF 238 y_NF_hurtOf b_NF_hurtOf 6 (some .int) 2 := ⟨k_934, k_936, s_37, k_1, k_937, by decide +kernel, by decide +kernel, by decide +kernel⟩
theorem g_NF_244 : nz_wV R_NF 244 y_Chances_gather b_Chances_gather 5 (some .boolean) 3 := ⟨k_959, k_960, k_961, k_16, k_962, by decide +kernel, by decide +kernel, by decide +kernel⟩
theorem g_NF_250 : nz_wV R_NF 250 y_Chances_countCases b_Chances_countCases 7 none 3 := ⟨k_969, k_970, k_971, k_16, k_972, by decide +kernel, by decide +kernel, by decide +kernel⟩
theorem g_NF_254 : nz_wV R_NF 254 y_Chances_weigh b_Chances_weigh 8 none 1 := ⟨k_979, k_980, k_981, k_16, k_982, by decide +kernel, by decide +kernel, by decide +kernel⟩
theorem g_NF_264 : nz_wV R_NF 264 y_Falls_suppose b_Falls_suppose 4 none 3 := ⟨k_993, k_735, k_736, k_7, k_737, by decide +kernel, by decide +kernel, by decide +kernel⟩
theorem g_NF_267 : nz_wV R_NF 267 y_Speech_graspedByAll b_Speech_graspedByAll 6 (some .int) 1 := ⟨k_994, k_995, k_996, k_15, k_997, by decide +kernel, by decide +kernel, by decide +kernel⟩
theorem g_NF_271 : nz_wV R_NF 271 y_Places_inAllRows b_Places_inAllRows 4 (some .int) 1 := ⟨k_1003, k_1004, k_1005, k_3, k_1006, by decide +kernel, by decide +kernel, by decide +kernel⟩
theorem g_NF_274 : nz_wS R_NF 274 y_Intg_bitCount b_Intg_bitCount 1 (some .int) 1 := ⟨k_832, k_833, k_19, k_834, by decide +kernel, by decide +kernel, by decide +kernel⟩
theorem g_NF_279 : nz_wS R_NF 279 y_NF_lowest b_NF_lowest 1 (some .int) 1 := ⟨k_1007, k_830, k_1, k_831, by decide +kernel, by decide +kernel, by decide +kernel⟩
theorem g_NF_293 : nz_wV R_NF 293 y_Falls_turnTo b_Falls_turnTo 3 none 1 := ⟨k_895, k_749, k_750, k_7, k_751, by decide +kernel, by decide +kernel, by decide +kernel⟩
theorem g_NF_296 : nz_wV R_NF 296 y_Words_soundsLike b_Words_soundsLike 3 (some .int) 2 := ⟨k_938, k_939, k_940, k_5, k_941, by decide +kernel, by decide +kernel, by decide +kernel⟩
theorem g_NF_297 : nz_wV R_NF 297 y_Places_allWords b_Places_allWords 4 (some .int) 1 := ⟨k_942, k_943, k_944, k_3, k_945, by decide +kernel, by decide +kernel, by decide +kernel⟩
theorem g_NF_300 : nz_wV R_NF 300 y_Falls_comingBack b_Falls_comingBack 7 (some .int) 2 := ⟨k_946, k_947, k_948, k_7, k_949, by decide +kernel, by decide +kernel, by decide +kernel⟩
theorem g_Chances_37 : nz_wV R_Chances 37 y_Falls_isAlive b_Falls_isAlive 3 (some .boolean) 1 := ⟨k_963, k_753, k_754, k_7, k_755, by decide +kernel, by decide +kernel, by decide +kernel⟩
theorem g_Chances_43 : nz_wV R_Chances 43 y_Falls_heldIfDead b_Falls_heldIfDead 4 (some .int) 2 := ⟨k_964, k_965, k_966, k_7, k_967, by decide +kernel, by decide +kernel, by decide +kernel⟩
theorem g_Chances_47 : nz_wSN R_Chances 47 y_NF_has R_NF b_NF_has 2 (some .boolean) 2 := ⟨by decide +kernel, k_624, k_1, k_625, by decide +kernel, by decide +kernel, by decide +kernel⟩
theorem g_Chances_51 : nz_wS R_Chances 51 y_Intg_bitCount b_Intg_bitCount 1 (some .int) 1 := ⟨k_974, k_833, k_19, k_834, by decide +kernel, by decide +kernel, by decide +kernel⟩
theorem g_Chances_57 : nz_wS R_Chances 57 y_Chances_countTodays b_Chances_countTodays 5 (some .int) 3 := ⟨k_975, k_976, k_16, k_977, by decide +kernel, by decide +kernel, by decide +kernel⟩
theorem g_Chances_72 : nz_wV R_Chances 72 y_Places_rowOf b_Places_rowOf 3 (some .int) 2 := ⟨k_978, k_826, k_827, k_3, k_828, by decide +kernel, by decide +kernel, by decide +kernel⟩
theorem g_Chances_77 : nz_wS R_Chances 77 y_Chances_power b_Chances_power 5 (some .long) 2 := ⟨k_983, k_984, k_16, k_985, by decide +kernel, by decide +kernel, by decide +kernel⟩
theorem g_Chances_81 : nz_wS R_Chances 81 y_Chances_commonDivisor b_Chances_commonDivisor 11 (some .long) 2 := ⟨k_986, k_987, k_16, k_988, by decide +kernel, by decide +kernel, by decide +kernel⟩
theorem g_Falls_28 : nz_wV R_Falls 28 y_Deaths_writeYears b_Deaths_writeYears 5 none 2 := ⟨k_730, k_731, k_732, k_14, k_733, by decide +kernel, by decide +kernel, by decide +kernel⟩
theorem g_Falls_48 : nz_wV R_Falls 48 y_Falls_suppose b_Falls_suppose 4 none 3 := ⟨k_734, k_735, k_736, k_7, k_737, by decide +kernel, by decide +kernel, by decide +kernel⟩
theorem g_Falls_59 : nz_wV R_Falls 59 y_Falls_endOfFall b_Falls_endOfFall 5 (some .int) 2 := ⟨k_738, k_740, s_23, k_7, k_741, by decide +kernel, by decide +kernel, by decide +kernel⟩
theorem g_Falls_63 : nz_wV R_Falls 63 y_Falls_turnTo b_Falls_turnTo 3 none 1 := ⟨k_748, k_749, k_750, k_7, k_751, by decide +kernel, by decide +kernel, by decide +kernel⟩
theorem g_Falls_82 : nz_wV R_Falls 82 y_Falls_liftingYear b_Falls_liftingYear 9 (some .int) 2 := ⟨k_742, k_744, s_24, k_7, k_745, by decide +kernel, by decide +kernel, by decide +kernel⟩
theorem g_Falls_100 : nz_wSN R_Falls 100 y_NF_has R_NF b_NF_has 2 (some .boolean) 2 := ⟨by decide +kernel, k_624, k_1, k_625, by decide +kernel, by decide +kernel, by decide +kernel⟩
theorem g_Falls_104 : nz_wV R_Falls 104 y_Falls_binds b_Falls_binds 7 (some .boolean) 3 := ⟨k_782, k_784, s_27, k_7, k_785, by decide +kernel, by decide +kernel, by decide +kernel⟩
theorem g_Falls_108 : nz_wV R_Falls 108 y_Falls_wordsOf b_Falls_wordsOf 2 (some .int) 1 := ⟨k_787, k_789, s_28, k_7, k_790, by decide +kernel, by decide +kernel, by decide +kernel⟩
theorem g_Falls_112 : nz_wV R_Falls 112 y_Persons_stepsBetween b_Persons_stepsBetween 3 (some .int) 2 := ⟨k_786, k_664, k_665, k_6, k_666, by decide +kernel, by decide +kernel, by decide +kernel⟩
theorem g_Falls_118 : nz_wV R_Falls 118 y_Persons_soundsLike b_Persons_soundsLike 3 (some .int) 2 := ⟨k_791, k_792, k_793, k_6, k_794, by decide +kernel, by decide +kernel, by decide +kernel⟩
theorem g_Falls_121 : nz_wV R_Falls 121 y_Falls_fallsForAll b_Falls_fallsForAll 3 (some .boolean) 2 := ⟨k_875, k_877, s_33, k_7, k_878, by decide +kernel, by decide +kernel, by decide +kernel⟩
theorem g_Land_43 : nz_wV R_Land 43 y_Places_clear b_Places_clear 2 none 0 := ⟨k_518, k_519, k_520, k_3, k_521, by decide +kernel, by decide +kernel, by decide +kernel⟩
theorem g_Land_46 : nz_wV R_Land 46 y_Meanings_clear b_Meanings_clear 1 none 0 := ⟨k_522, k_523, k_524, k_4, k_525, by decide +kernel, by decide +kernel, by decide +kernel⟩
theorem g_Land_47 : nz_wV R_Land 47 y_Words_clear b_Words_clear 1 none 0 := ⟨k_526, k_527, k_528, k_5, k_529, by decide +kernel, by decide +kernel, by decide +kernel⟩
theorem g_Land_48 : nz_wV R_Land 48 y_Persons_clear b_Persons_clear 2 none 0 := ⟨k_530, k_531, k_532, k_6, k_533, by decide +kernel, by decide +kernel, by decide +kernel⟩
theorem g_Land_49 : nz_wV R_Land 49 y_Persons_findForebears b_Persons_findForebears 4 none 0 := ⟨k_654, k_655, k_656, k_6, k_657, by decide +kernel, by decide +kernel, by decide +kernel⟩
theorem g_Land_52 : nz_wV R_Land 52 y_Persons_findSteps b_Persons_findSteps 5 none 0 := ⟨k_659, k_660, k_661, k_6, k_662, by decide +kernel, by decide +kernel, by decide +kernel⟩
theorem g_Land_66 : nz_wV R_Land 66 y_Land_noteSounds b_Land_noteSounds 8 none 3 := ⟨k_667, k_669, s_21, k_2, k_670, by decide +kernel, by decide +kernel, by decide +kernel⟩
theorem g_Land_75 : nz_wV R_Land 75 y_Land_lettersApart b_Land_lettersApart 12 (some .int) 2 := ⟨k_671, k_672, k_673, k_2, k_674, by decide +kernel, by decide +kernel, by decide +kernel⟩
theorem g_Land_79 : nz_wS R_Land 79 y_Land_lengthOf b_Land_lengthOf 3 (some .int) 1 := ⟨k_675, k_676, k_2, k_677, by decide +kernel, by decide +kernel, by decide +kernel⟩
theorem g_Land_83 : nz_wS R_Land 83 y_Land_letterAt b_Land_letterAt 3 (some .int) 2 := ⟨k_678, k_679, k_2, k_680, by decide +kernel, by decide +kernel, by decide +kernel⟩
theorem g_Persons_47 : nz_wSN R_Persons 47 y_NF_has R_NF b_NF_has 2 (some .boolean) 2 := ⟨by decide +kernel, k_624, k_1, k_625, by decide +kernel, by decide +kernel, by decide +kernel⟩
theorem g_Persons_51 : nz_wV R_Persons 51 y_Persons_stepsBetween b_Persons_stepsBetween 3 (some .int) 2 := ⟨k_663, k_664, k_665, k_6, k_666, by decide +kernel, by decide +kernel, by decide +kernel⟩
theorem g_Places_38 : nz_wV R_Places 38 y_Places_rowOf b_Places_rowOf 3 (some .int) 2 := ⟨k_825, k_826, k_827, k_3, k_828, by decide +kernel, by decide +kernel, by decide +kernel⟩
theorem g_Places_42 : nz_wSN R_Places 42 y_NF_lowest R_NF b_NF_lowest 1 (some .int) 1 := ⟨by decide +kernel, k_830, k_1, k_831, by decide +kernel, by decide +kernel, by decide +kernel⟩
theorem g_Reader_22 : nz_wV R_Reader 22 y_Land_clear b_Land_clear 1 none 0 := ⟨k_514, k_515, k_516, k_2, k_517, by decide +kernel, by decide +kernel, by decide +kernel⟩
theorem g_Reader_27 : nz_wV R_Reader 27 y_Scanner_begin b_Scanner_begin 2 none 1 := ⟨k_534, k_535, k_536, k_9, k_537, by decide +kernel, by decide +kernel, by decide +kernel⟩
theorem g_Reader_36 : nz_wV R_Reader 36 y_Reader_refuse b_Reader_refuse 2 (some .boolean) 1 := ⟨k_573, k_575, s_4, k_8, k_576, by decide +kernel, by decide +kernel, by decide +kernel⟩
theorem g_Reader_52 : nz_wV R_Reader 52 y_Reader_hasRoom b_Reader_hasRoom 3 (some .boolean) 2 := ⟨k_577, k_579, s_5, k_8, k_580, by decide +kernel, by decide +kernel, by decide +kernel⟩
theorem g_Reader_56 : nz_wV R_Reader 56 y_Reader_readPlace b_Reader_readPlace 3 (some .boolean) 1 := ⟨k_582, k_584, s_6, k_8, k_585, by decide +kernel, by decide +kernel, by decide +kernel⟩
theorem g_Reader_67 : nz_wV R_Reader 67 y_Reader_readMeaning b_Reader_readMeaning 2 (some .boolean) 1 := ⟨k_611, k_613, s_13, k_8, k_614, by decide +kernel, by decide +kernel, by decide +kernel⟩
theorem g_Reader_78 : nz_wV R_Reader 78 y_Reader_readWord b_Reader_readWord 5 (some .boolean) 1 := ⟨k_615, k_617, s_14, k_8, k_618, by decide +kernel, by decide +kernel, by decide +kernel⟩
theorem g_Reader_85 : nz_wV R_Reader 85 y_Reader_readTurn b_Reader_readTurn 4 (some .boolean) 1 := ⟨k_634, k_636, s_17, k_8, k_637, by decide +kernel, by decide +kernel, by decide +kernel⟩
theorem g_Reader_95 : nz_wV R_Reader 95 y_Reader_readPerson b_Reader_readPerson 4 (some .boolean) 1 := ⟨k_638, k_640, s_18, k_8, k_641, by decide +kernel, by decide +kernel, by decide +kernel⟩
theorem g_Reader_101 : nz_wV R_Reader 101 y_Reader_readTalk b_Reader_readTalk 4 (some .boolean) 1 := ⟨k_646, k_648, s_20, k_8, k_649, by decide +kernel, by decide +kernel, by decide +kernel⟩
theorem g_Reader_109 : nz_wV R_Reader 109 y_Reader_takeNewName b_Reader_takeNewName 3 (some .boolean) 2 := ⟨k_586, k_588, s_7, k_8, k_589, by decide +kernel, by decide +kernel, by decide +kernel⟩
theorem g_Reader_117 : nz_wV R_Reader 117 y_Reader_takeKeyword b_Reader_takeKeyword 2 (some .boolean) 1 := ⟨k_595, k_597, s_9, k_8, k_598, by decide +kernel, by decide +kernel, by decide +kernel⟩
theorem g_Reader_120 : nz_wV R_Reader 120 y_Reader_takeChoice b_Reader_takeChoice 4 (some .boolean) 2 := ⟨k_599, k_601, s_10, k_8, k_602, by decide +kernel, by decide +kernel, by decide +kernel⟩
theorem g_Reader_130 : nz_wV R_Reader 130 y_Reader_takeNumber b_Reader_takeNumber 3 (some .boolean) 2 := ⟨k_603, k_605, s_11, k_8, k_606, by decide +kernel, by decide +kernel, by decide +kernel⟩
theorem g_Reader_145 : nz_wV R_Reader 145 y_Reader_takeSign b_Reader_takeSign 1 (some .boolean) 0 := ⟨k_607, k_609, s_12, k_8, k_610, by decide +kernel, by decide +kernel, by decide +kernel⟩
theorem g_Reader_151 : nz_wV R_Reader 151 y_Reader_takeKnownName b_Reader_takeKnownName 5 (some .boolean) 3 := ⟨k_619, k_621, s_15, k_8, k_622, by decide +kernel, by decide +kernel, by decide +kernel⟩
theorem g_Reader_155 : nz_wV R_Reader 155 y_Reader_takeRows b_Reader_takeRows 6 (some .boolean) 3 := ⟨k_626, k_628, s_16, k_8, k_629, by decide +kernel, by decide +kernel, by decide +kernel⟩
theorem g_Reader_159 : nz_wV R_Reader 159 y_Places_addToRow b_Places_addToRow 4 none 3 := ⟨k_630, k_631, k_632, k_3, k_633, by decide +kernel, by decide +kernel, by decide +kernel⟩
theorem g_Reader_173 : nz_wV R_Reader 173 y_Reader_takeName b_Reader_takeName 1 (some .boolean) 0 := ⟨k_591, k_593, s_8, k_8, k_594, by decide +kernel, by decide +kernel, by decide +kernel⟩
theorem g_Reader_185 : nz_wV R_Reader 185 y_Reader_takeParents b_Reader_takeParents 3 (some .boolean) 1 := ⟨k_642, k_644, s_19, k_8, k_645, by decide +kernel, by decide +kernel, by decide +kernel⟩
theorem g_Reader_191 : nz_wV R_Reader 191 y_Scanner_advance b_Scanner_advance 1 none 0 := ⟨k_581, k_545, k_546, k_9, k_547, by decide +kernel, by decide +kernel, by decide +kernel⟩
theorem g_Reader_201 : nz_wSN R_Reader 201 y_NF_find R_NF b_NF_find 5 (some .int) 3 := ⟨by decide +kernel, k_560, k_1, k_561, by decide +kernel, by decide +kernel, by decide +kernel⟩
theorem g_Reader_205 : nz_wSN R_Reader 205 y_NF_has R_NF b_NF_has 2 (some .boolean) 2 := ⟨by decide +kernel, k_624, k_1, k_625, by decide +kernel, by decide +kernel, by decide +kernel⟩
theorem g_Scanner_31 : nz_wS R_Scanner 31 y_Scanner_letterCode b_Scanner_letterCode 2 (some .long) 2 := ⟨k_329, k_330, k_9, k_331, by decide +kernel, by decide +kernel, by decide +kernel⟩
theorem g_Scanner_50 : nz_wV R_Scanner 50 y_Scanner_advance b_Scanner_advance 1 none 0 := ⟨k_544, k_545, k_546, k_9, k_547, by decide +kernel, by decide +kernel, by decide +kernel⟩
theorem g_Scanner_53 : nz_wV R_Scanner 53 y_Scanner_skipBlanks b_Scanner_skipBlanks 3 (some .int) 1 := ⟨k_548, k_550, s_1, k_9, k_551, by decide +kernel, by decide +kernel, by decide +kernel⟩
theorem g_Scanner_63 : nz_wS R_Scanner 63 y_Scanner_isLetter b_Scanner_isLetter 1 (some .boolean) 1 := ⟨k_552, k_553, k_9, k_554, by decide +kernel, by decide +kernel, by decide +kernel⟩
theorem g_Scanner_67 : nz_wV R_Scanner 67 y_Scanner_takeWord b_Scanner_takeWord 2 none 0 := ⟨k_555, k_557, s_2, k_9, k_558, by decide +kernel, by decide +kernel, by decide +kernel⟩
theorem g_Scanner_70 : nz_wS R_Scanner 70 y_Scanner_isDigit b_Scanner_isDigit 1 (some .boolean) 1 := ⟨k_562, k_563, k_9, k_564, by decide +kernel, by decide +kernel, by decide +kernel⟩
theorem g_Scanner_73 : nz_wV R_Scanner 73 y_Scanner_takeNumber b_Scanner_takeNumber 3 none 0 := ⟨k_565, k_567, s_3, k_9, k_568, by decide +kernel, by decide +kernel, by decide +kernel⟩
theorem g_Scanner_80 : nz_wSN R_Scanner 80 y_NF_find R_NF b_NF_find 5 (some .int) 3 := ⟨by decide +kernel, k_560, k_1, k_561, by decide +kernel, by decide +kernel, by decide +kernel⟩
theorem g_Speech_43 : nz_wV R_Speech 43 y_Falls_barred b_Falls_barred 5 (some .int) 2 := ⟨k_817, k_779, k_780, k_7, k_781, by decide +kernel, by decide +kernel, by decide +kernel⟩
theorem g_Speech_49 : nz_wS R_Speech 49 y_Speech_choose b_Speech_choose 6 (some .int) 4 := ⟨k_818, k_819, k_15, k_820, by decide +kernel, by decide +kernel, by decide +kernel⟩
theorem g_Speech_53 : nz_wV R_Speech 53 y_Places_firstOf b_Places_firstOf 4 (some .int) 3 := ⟨k_821, k_822, k_823, k_3, k_824, by decide +kernel, by decide +kernel, by decide +kernel⟩
theorem g_Speech_70 : nz_wV R_Speech 70 y_Speech_lowerByTurns b_Speech_lowerByTurns 7 none 1 := ⟨k_846, k_848, s_31, k_15, k_849, by decide +kernel, by decide +kernel, by decide +kernel⟩
theorem g_Speech_86 : nz_wS R_Speech 86 y_Speech_isGrasped b_Speech_isGrasped 7 (some .boolean) 5 := ⟨k_858, k_859, k_15, k_860, by decide +kernel, by decide +kernel, by decide +kernel⟩
theorem g_Speech_90 : nz_wV R_Speech 90 y_Places_rowOf b_Places_rowOf 3 (some .int) 2 := ⟨k_861, k_826, k_827, k_3, k_828, by decide +kernel, by decide +kernel, by decide +kernel⟩
theorem g_Speech_93 : nz_wSN R_Speech 93 y_NF_has R_NF b_NF_has 2 (some .boolean) 2 := ⟨by decide +kernel, k_624, k_1, k_625, by decide +kernel, by decide +kernel, by decide +kernel⟩
theorem g_Speech_98 : nz_wV R_Speech 98 y_Falls_isAlive b_Falls_isAlive 3 (some .boolean) 1 := ⟨k_912, k_753, k_754, k_7, k_755, by decide +kernel, by decide +kernel, by decide +kernel⟩
theorem g_Speech_102 : nz_wV R_Speech 102 y_Speech_grasped b_Speech_grasped 7 (some .int) 3 := ⟨k_998, k_855, k_856, k_15, k_857, by decide +kernel, by decide +kernel, by decide +kernel⟩
theorem g_Speech_106 : nz_wV R_Speech 106 y_Speech_passes b_Speech_passes 5 (some .boolean) 4 := ⟨k_908, k_910, s_35, k_15, k_911, by decide +kernel, by decide +kernel, by decide +kernel⟩
theorem g_Speech_110 : nz_wV R_Speech 110 y_Speech_layWay b_Speech_layWay 6 (some .int) 2 := ⟨k_913, k_915, s_36, k_15, k_916, by decide +kernel, by decide +kernel, by decide +kernel⟩
theorem g_Mo_198 : nz_wV R_Mo 198 y_Mo_sign b_Mo_sign 2 (some .int) 1 := ⟨k_1192, k_1194, s_39, k_17, k_1195, by decide +kernel, by decide +kernel, by decide +kernel⟩
theorem g_Mo_205 : nz_wS R_Mo 205 y_Mo_isLetter b_Mo_isLetter 1 (some .boolean) 1 := ⟨k_1196, k_1197, k_17, k_1198, by decide +kernel, by decide +kernel, by decide +kernel⟩
theorem g_Mo_213 : nz_wS R_Mo 213 y_Mo_isKept b_Mo_isKept 3 (some .boolean) 1 := ⟨k_1199, k_1200, k_17, k_1201, by decide +kernel, by decide +kernel, by decide +kernel⟩
theorem g_Mo_217 : nz_wS R_Mo 217 y_Mo_isDigit b_Mo_isDigit 1 (some .boolean) 1 := ⟨k_1224, k_1225, k_17, k_1226, by decide +kernel, by decide +kernel, by decide +kernel⟩
theorem g_Mo_223 : nz_wV R_Mo 223 y_Mo_fails b_Mo_fails 3 none 2 := ⟨k_1243, k_1245, s_44, k_17, k_1246, by decide +kernel, by decide +kernel, by decide +kernel⟩
theorem g_Mo_227 : nz_wV R_Mo 227 y_Mo_isGood b_Mo_isGood 1 (some .boolean) 0 := ⟨k_1227, k_1229, s_40, k_17, k_1230, by decide +kernel, by decide +kernel, by decide +kernel⟩
theorem g_Mo_231 : nz_wV R_Mo 231 y_Mo_goOn b_Mo_goOn 3 none 0 := ⟨k_1188, k_1190, s_38, k_17, k_1191, by decide +kernel, by decide +kernel, by decide +kernel⟩
theorem g_Mo_234 : nz_wV R_Mo 234 y_Mo_wrong b_Mo_wrong 1 none 0 := ⟨k_1239, k_1241, s_43, k_17, k_1242, by decide +kernel, by decide +kernel, by decide +kernel⟩
theorem g_Mo_246 : nz_wV R_Mo 246 y_Mo_readLine b_Mo_readLine 7 none 0 := ⟨k_1231, k_1233, s_41, k_17, k_1234, by decide +kernel, by decide +kernel, by decide +kernel⟩
theorem g_Mo_252 : nz_wV R_Mo 252 y_Mo_layNear b_Mo_layNear 5 none 0 := ⟨k_1303, k_1305, s_59, k_17, k_1306, by decide +kernel, by decide +kernel, by decide +kernel⟩
theorem g_Mo_255 : nz_wV R_Mo 255 y_Mo_isWord b_Mo_isWord 3 (some .boolean) 1 := ⟨k_1235, k_1237, s_42, k_17, k_1238, by decide +kernel, by decide +kernel, by decide +kernel⟩
theorem g_Mo_258 : nz_wV R_Mo 258 y_Mo_readPlace b_Mo_readPlace 2 none 0 := ⟨k_1247, k_1249, s_45, k_17, k_1250, by decide +kernel, by decide +kernel, by decide +kernel⟩
theorem g_Mo_261 : nz_wV R_Mo 261 y_Mo_readMeaning b_Mo_readMeaning 1 none 0 := ⟨k_1271, k_1273, s_51, k_17, k_1274, by decide +kernel, by decide +kernel, by decide +kernel⟩
theorem g_Mo_264 : nz_wV R_Mo 264 y_Mo_readWord b_Mo_readWord 3 none 0 := ⟨k_1279, k_1281, s_53, k_17, k_1282, by decide +kernel, by decide +kernel, by decide +kernel⟩
theorem g_Mo_267 : nz_wV R_Mo 267 y_Mo_readTurn b_Mo_readTurn 2 none 0 := ⟨k_1287, k_1289, s_55, k_17, k_1290, by decide +kernel, by decide +kernel, by decide +kernel⟩
theorem g_Mo_270 : nz_wV R_Mo 270 y_Mo_readPerson b_Mo_readPerson 2 none 0 := ⟨k_1291, k_1293, s_56, k_17, k_1294, by decide +kernel, by decide +kernel, by decide +kernel⟩
theorem g_Mo_273 : nz_wV R_Mo 273 y_Mo_readTalk b_Mo_readTalk 5 none 0 := ⟨k_1299, k_1301, s_58, k_17, k_1302, by decide +kernel, by decide +kernel, by decide +kernel⟩
theorem g_Mo_276 : nz_wV R_Mo 276 y_Mo_must b_Mo_must 2 none 1 := ⟨k_1263, k_1265, s_49, k_17, k_1266, by decide +kernel, by decide +kernel, by decide +kernel⟩
theorem g_Mo_280 : nz_wV R_Mo 280 y_Mo_here b_Mo_here 5 (some .int) 3 := ⟨k_1255, k_1257, s_47, k_17, k_1258, by decide +kernel, by decide +kernel, by decide +kernel⟩
theorem g_Mo_284 : nz_wV R_Mo 284 y_Mo_placeHere b_Mo_placeHere 1 (some .int) 0 := ⟨k_1251, k_1253, s_46, k_17, k_1254, by decide +kernel, by decide +kernel, by decide +kernel⟩
theorem g_Mo_288 : nz_wV R_Mo 288 y_Mo_fresh b_Mo_fresh 4 (some .long) 1 := ⟨k_1259, k_1261, s_48, k_17, k_1262, by decide +kernel, by decide +kernel, by decide +kernel⟩
theorem g_Mo_292 : nz_wV R_Mo 292 y_Mo_numeral b_Mo_numeral 4 (some .int) 2 := ⟨k_1267, k_1269, s_50, k_17, k_1270, by decide +kernel, by decide +kernel, by decide +kernel⟩
theorem g_Mo_296 : nz_wV R_Mo 296 y_Mo_meaningHere b_Mo_meaningHere 1 (some .int) 0 := ⟨k_1275, k_1277, s_52, k_17, k_1278, by decide +kernel, by decide +kernel, by decide +kernel⟩
theorem g_Mo_299 : nz_wV R_Mo 299 y_Mo_given b_Mo_given 3 (some .int) 2 := ⟨k_1283, k_1285, s_54, k_17, k_1286, by decide +kernel, by decide +kernel, by decide +kernel⟩
theorem g_Mo_302 : nz_wV R_Mo 302 y_Mo_personHere b_Mo_personHere 1 (some .int) 0 := ⟨k_1295, k_1297, s_57, k_17, k_1298, by decide +kernel, by decide +kernel, by decide +kernel⟩
theorem g_Mo_305 : nz_wS R_Mo 305 y_Mo_isIn b_Mo_isIn 3 (some .boolean) 3 := ⟨k_1326, k_1327, k_17, k_1328, by decide +kernel, by decide +kernel, by decide +kernel⟩
theorem g_Mo_309 : nz_wV R_Mo 309 y_Mo_isPerson b_Mo_isPerson 2 (some .boolean) 1 := ⟨k_1322, k_1324, s_61, k_17, k_1325, by decide +kernel, by decide +kernel, by decide +kernel⟩
theorem g_Mo_312 : nz_wS R_Mo 312 y_Mo_isYear b_Mo_isYear 1 (some .boolean) 1 := ⟨k_1329, k_1330, k_17, k_1331, by decide +kernel, by decide +kernel, by decide +kernel⟩
theorem g_Mo_315 : nz_wV R_Mo 315 y_Mo_bornOf b_Mo_bornOf 2 (some .int) 1 := ⟨k_1332, k_1334, s_62, k_17, k_1335, by decide +kernel, by decide +kernel, by decide +kernel⟩
theorem g_Mo_322 : nz_wV R_Mo 322 y_Mo_know b_Mo_know 3 none 1 := ⟨k_1349, k_1351, s_63, k_17, k_1352, by decide +kernel, by decide +kernel, by decide +kernel⟩
theorem g_Mo_326 : nz_wV R_Mo 326 y_Mo_isAlive b_Mo_isAlive 3 (some .boolean) 2 := ⟨k_1353, k_1355, s_64, k_17, k_1356, by decide +kernel, by decide +kernel, by decide +kernel⟩
theorem g_Mo_330 : nz_wS R_Mo 330 y_Mo_letters b_Mo_letters 5 (some .int) 1 := ⟨k_1377, k_1378, k_17, k_1379, by decide +kernel, by decide +kernel, by decide +kernel⟩
theorem g_Mo_336 : nz_wS R_Mo 336 y_Mo_lesser b_Mo_lesser 2 (some .int) 2 := ⟨k_1311, k_1312, k_17, k_1313, by decide +kernel, by decide +kernel, by decide +kernel⟩
theorem g_Mo_339 : nz_wV R_Mo 339 y_Mo_isWordNo b_Mo_isWordNo 2 (some .boolean) 1 := ⟨k_1361, k_1363, s_65, k_17, k_1364, by decide +kernel, by decide +kernel, by decide +kernel⟩
theorem g_Mo_342 : nz_wV R_Mo 342 y_Mo_wordOf b_Mo_wordOf 2 (some .long) 1 := ⟨k_1365, k_1367, s_66, k_17, k_1368, by decide +kernel, by decide +kernel, by decide +kernel⟩
theorem g_Mo_345 : nz_wV R_Mo 345 y_Mo_calledOf b_Mo_calledOf 2 (some .long) 1 := ⟨k_1369, k_1371, s_67, k_17, k_1372, by decide +kernel, by decide +kernel, by decide +kernel⟩
theorem g_Mo_348 : nz_wV R_Mo 348 y_Mo_apartOf b_Mo_apartOf 11 (some .int) 2 := ⟨k_1373, k_1375, s_68, k_17, k_1376, by decide +kernel, by decide +kernel, by decide +kernel⟩
theorem g_Mo_352 : nz_wV R_Mo 352 y_Mo_isChild b_Mo_isChild 3 (some .boolean) 2 := ⟨k_1307, k_1309, s_60, k_17, k_1310, by decide +kernel, by decide +kernel, by decide +kernel⟩
theorem g_Mo_355 : nz_wV R_Mo 355 y_Mo_homeOf b_Mo_homeOf 2 (some .int) 1 := ⟨k_1397, k_1399, s_71, k_17, k_1400, by decide +kernel, by decide +kernel, by decide +kernel⟩
theorem g_Mo_358 : nz_wV R_Mo 358 y_Mo_placeNo b_Mo_placeNo 2 (some .int) 1 := ⟨k_1401, k_1403, s_72, k_17, k_1404, by decide +kernel, by decide +kernel, by decide +kernel⟩
theorem g_Mo_361 : nz_wV R_Mo 361 y_Mo_comesFrom b_Mo_comesFrom 7 (some .boolean) 2 := ⟨k_1413, k_1415, s_75, k_17, k_1416, by decide +kernel, by decide +kernel, by decide +kernel⟩
theorem g_Mo_364 : nz_wV R_Mo 364 y_Mo_isFall b_Mo_isFall 6 (some .boolean) 2 := ⟨k_1409, k_1411, s_74, k_17, k_1412, by decide +kernel, by decide +kernel, by decide +kernel⟩
theorem g_Mo_367 : nz_wV R_Mo 367 y_Mo_holds b_Mo_holds 4 (some .boolean) 3 := ⟨k_1405, k_1407, s_73, k_17, k_1408, by decide +kernel, by decide +kernel, by decide +kernel⟩
theorem g_Mo_370 : nz_wV R_Mo 370 y_Mo_speak b_Mo_speak 5 (some .boolean) 4 := ⟨k_1389, k_1391, s_69, k_17, k_1392, by decide +kernel, by decide +kernel, by decide +kernel⟩
theorem g_Mo_374 : nz_wV R_Mo 374 y_Mo_isBarred b_Mo_isBarred 8 (some .boolean) 4 := ⟨k_1393, k_1395, s_70, k_17, k_1396, by decide +kernel, by decide +kernel, by decide +kernel⟩
theorem g_Mo_378 : nz_wV R_Mo 378 y_Mo_means b_Mo_means 3 (some .boolean) 2 := ⟨k_1438, k_1440, s_79, k_17, k_1441, by decide +kernel, by decide +kernel, by decide +kernel⟩
theorem g_Mo_381 : nz_wV R_Mo 381 y_Mo_isAt b_Mo_isAt 3 (some .boolean) 2 := ⟨k_1442, k_1444, s_80, k_17, k_1445, by decide +kernel, by decide +kernel, by decide +kernel⟩
theorem g_Mo_384 : nz_wV R_Mo 384 y_Mo_firstOf b_Mo_firstOf 7 (some .int) 5 := ⟨k_1434, k_1436, s_78, k_17, k_1437, by decide +kernel, by decide +kernel, by decide +kernel⟩
theorem g_Mo_388 : nz_wV R_Mo 388 y_Mo_isMeaning b_Mo_isMeaning 2 (some .boolean) 1 := ⟨k_1426, k_1428, s_76, k_17, k_1429, by decide +kernel, by decide +kernel, by decide +kernel⟩
theorem g_Mo_391 : nz_wV R_Mo 391 y_Mo_insteadOf b_Mo_insteadOf 7 (some .int) 4 := ⟨k_1430, k_1432, s_77, k_17, k_1433, by decide +kernel, by decide +kernel, by decide +kernel⟩
theorem g_Mo_395 : nz_wV R_Mo 395 y_Mo_graspOf b_Mo_graspOf 7 (some .int) 3 := ⟨k_1454, k_1456, s_81, k_17, k_1457, by decide +kernel, by decide +kernel, by decide +kernel⟩
theorem g_Mo_399 : nz_wV R_Mo 399 y_Mo_isGone b_Mo_isGone 5 (some .boolean) 3 := ⟨k_1470, k_1472, s_84, k_17, k_1473, by decide +kernel, by decide +kernel, by decide +kernel⟩
theorem g_Mo_402 : nz_wV R_Mo 402 y_Mo_isPlace b_Mo_isPlace 2 (some .boolean) 1 := ⟨k_1462, k_1464, s_82, k_17, k_1465, by decide +kernel, by decide +kernel, by decide +kernel⟩
theorem g_Mo_405 : nz_wV R_Mo 405 y_Mo_todayOf b_Mo_todayOf 5 (some .int) 3 := ⟨k_1466, k_1468, s_83, k_17, k_1469, by decide +kernel, by decide +kernel, by decide +kernel⟩
theorem g_Mo_408 : nz_wS R_Mo 408 y_Mo_areYears b_Mo_areYears 2 (some .boolean) 2 := ⟨k_1482, k_1483, k_17, k_1484, by decide +kernel, by decide +kernel, by decide +kernel⟩
theorem g_Mo_411 : nz_wV R_Mo 411 y_Mo_changesOf b_Mo_changesOf 9 (some .int) 4 := ⟨k_1485, k_1487, s_85, k_17, k_1488, by decide +kernel, by decide +kernel, by decide +kernel⟩
theorem g_Mo_414 : nz_wV R_Mo 414 y_Mo_talk b_Mo_talk 4 (some .boolean) 2 := ⟨k_1505, k_1507, s_88, k_17, k_1508, by decide +kernel, by decide +kernel, by decide +kernel⟩
theorem g_Mo_417 : nz_wV R_Mo 417 y_Mo_passes b_Mo_passes 6 (some .boolean) 4 := ⟨k_1501, k_1503, s_87, k_17, k_1504, by decide +kernel, by decide +kernel, by decide +kernel⟩
theorem g_Mo_420 : nz_wV R_Mo 420 y_Mo_find b_Mo_find 9 (some .int) 4 := ⟨k_1497, k_1499, s_86, k_17, k_1500, by decide +kernel, by decide +kernel, by decide +kernel⟩
theorem g_Mo_423 : nz_wV R_Mo 423 y_Mo_tell b_Mo_tell 6 (some .int) 5 := ⟨k_1513, k_1494, k_1495, k_17, k_1496, by decide +kernel, by decide +kernel, by decide +kernel⟩
theorem g_Mo_426 : nz_wV R_Mo 426 y_Mo_hurtOf b_Mo_hurtOf 6 (some .int) 3 := ⟨k_1522, k_1524, s_89, k_17, k_1525, by decide +kernel, by decide +kernel, by decide +kernel⟩
theorem g_Mo_435 : nz_wV R_Mo 435 y_Mo_todays b_Mo_todays 5 (some .int) 2 := ⟨k_1537, k_1539, s_90, k_17, k_1540, by decide +kernel, by decide +kernel, by decide +kernel⟩
theorem g_Mo_438 : nz_wS R_Mo 438 y_Mo_common b_Mo_common 10 (some .long) 2 := ⟨k_1541, k_1542, k_17, k_1543, by decide +kernel, by decide +kernel, by decide +kernel⟩
theorem g_Mo_442 : nz_wV R_Mo 442 y_Mo_graspAll b_Mo_graspAll 5 (some .int) 1 := ⟨k_1548, k_1550, s_91, k_17, k_1551, by decide +kernel, by decide +kernel, by decide +kernel⟩
