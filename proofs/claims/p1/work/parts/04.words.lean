theorem k_1 : Cond.initialized R_NF ∈ nz_gd := nz_gm (List.mem_of_getElem? (i := 93) (by decide +kernel)) rfl
theorem k_2 : Cond.initialized R_Land ∈ nz_gd := nz_gm (List.mem_of_getElem? (i := 94) (by decide +kernel)) rfl
theorem k_3 : Cond.initialized R_Places ∈ nz_gd := nz_gm (List.mem_of_getElem? (i := 95) (by decide +kernel)) rfl
theorem k_4 : Cond.initialized R_Meanings ∈ nz_gd := nz_gm (List.mem_of_getElem? (i := 96) (by decide +kernel)) rfl
theorem k_5 : Cond.initialized R_Words ∈ nz_gd := nz_gm (List.mem_of_getElem? (i := 97) (by decide +kernel)) rfl
theorem k_6 : Cond.initialized R_Persons ∈ nz_gd := nz_gm (List.mem_of_getElem? (i := 98) (by decide +kernel)) rfl
theorem k_7 : Cond.initialized R_Falls ∈ nz_gd := nz_gm (List.mem_of_getElem? (i := 99) (by decide +kernel)) rfl
theorem k_8 : Cond.initialized R_Reader ∈ nz_gd := nz_gm (List.mem_of_getElem? (i := 100) (by decide +kernel)) rfl
theorem k_9 : Cond.initialized R_Scanner ∈ nz_gd := nz_gm (List.mem_of_getElem? (i := 101) (by decide +kernel)) rfl
theorem k_10 : Cond.initialized R_Str ∈ nz_gd := nz_gm (List.mem_of_getElem? (i := 102) (by decide +kernel)) rfl
theorem k_11 : Cond.initialized R_Lat ∈ nz_gd := nz_gm (List.mem_of_getElem? (i := 103) (by decide +kernel)) rfl
theorem k_12 : Cond.initialized R_Pre ∈ nz_gd := nz_gm (List.mem_of_getElem? (i := 104) (by decide +kernel)) rfl
theorem k_14 : Cond.initialized R_Deaths ∈ nz_gd := nz_gm (List.mem_of_getElem? (i := 106) (by decide +kernel)) rfl
theorem k_15 : Cond.initialized R_Speech ∈ nz_gd := nz_gm (List.mem_of_getElem? (i := 107) (by decide +kernel)) rfl
theorem k_16 : Cond.initialized R_Chances ∈ nz_gd := nz_gm (List.mem_of_getElem? (i := 108) (by decide +kernel)) rfl
theorem k_17 : Cond.initialized R_Mo ∈ nz_gd := nz_gm (List.mem_of_getElem? (i := 109) (by decide +kernel)) rfl
theorem k_18 : Cond.initialized R_Math ∈ nz_gd := nz_gm (List.mem_of_getElem? (i := 110) (by decide +kernel)) rfl
theorem k_20 : Cond.classLink R_law 7 R_NF ∈ nz_gd := nz_gm (List.mem_of_getElem? (i := 112) (by decide +kernel)) rfl
theorem k_21 : Cond.instantiable R_NF 11 ∈ nz_gd := nz_gm (List.mem_of_getElem? (i := 113) (by decide +kernel)) rfl
theorem k_22 : Cond.methodLink R_law 9 y_NF_init ∈ nz_gd := nz_gm (List.mem_of_getElem? (i := 114) (by decide +kernel)) rfl
theorem k_23 : Cond.instanceMethod y_NF_init ∈ nz_gd := nz_gm (List.mem_of_getElem? (i := 115) (by decide +kernel)) rfl
theorem k_24 : Cond.code y_NF_init b_NF_init 4 none ∈ nz_gd := nz_gm (List.mem_of_getElem? (i := 116) (by decide +kernel)) rfl
theorem k_25 : Cond.methodLink R_NF 1 Lib.objectInit ∈ nz_gd := nz_gm (List.mem_of_getElem? (i := 117) (by decide +kernel)) rfl
theorem k_26 : Cond.instanceMethod Lib.objectInit ∈ nz_gd := nz_gm (List.mem_of_getElem? (i := 118) (by decide +kernel)) rfl
theorem k_27 : Cond.code Lib.objectInit ⟨#[0xb1]⟩ 1 none ∈ nz_gd := nz_gm (List.mem_of_getElem? (i := 119) (by decide +kernel)) rfl
theorem k_28 : Cond.classLink R_NF 9 R_Land ∈ nz_gd := nz_gm (List.mem_of_getElem? (i := 120) (by decide +kernel)) rfl
theorem k_29 : Cond.instantiable R_Land 5 ∈ nz_gd := nz_gm (List.mem_of_getElem? (i := 121) (by decide +kernel)) rfl
theorem k_31 : Cond.instanceMethod y_Land_init ∈ nz_gd := nz_gm (List.mem_of_getElem? (i := 123) (by decide +kernel)) rfl
theorem k_32 : Cond.code y_Land_init b_Land_init 1 none ∈ nz_gd := nz_gm (List.mem_of_getElem? (i := 124) (by decide +kernel)) rfl
theorem k_33 : Cond.methodLink R_Land 3 Lib.objectInit ∈ nz_gd := nz_gm (List.mem_of_getElem? (i := 125) (by decide +kernel)) rfl
theorem k_34 : Cond.classLink R_Land 9 R_Places ∈ nz_gd := nz_gm (List.mem_of_getElem? (i := 126) (by decide +kernel)) rfl
theorem k_35 : Cond.instantiable R_Places 8 ∈ nz_gd := nz_gm (List.mem_of_getElem? (i := 127) (by decide +kernel)) rfl
theorem k_37 : Cond.instanceMethod y_Places_init ∈ nz_gd := nz_gm (List.mem_of_getElem? (i := 129) (by decide +kernel)) rfl
theorem k_38 : Cond.code y_Places_init b_Places_init 1 none ∈ nz_gd := nz_gm (List.mem_of_getElem? (i := 130) (by decide +kernel)) rfl
theorem k_39 : Cond.methodLink R_Places 3 Lib.objectInit ∈ nz_gd := nz_gm (List.mem_of_getElem? (i := 131) (by decide +kernel)) rfl
theorem k_40 : Cond.fieldLink R_Places 34 "NameFall$Places" "count" "I" ∈ nz_gd := nz_gm (List.mem_of_getElem? (i := 132) (by decide +kernel)) rfl
theorem k_44 : Cond.fieldLink R_NF 282 "NameFall$Places" "count" "I" ∈ nz_gd := nz_gm (List.mem_of_getElem? (i := 136) (by decide +kernel)) rfl
theorem k_45 : Cond.fieldLink R_Places 9 "NameFall$Places" "names" "[J" ∈ nz_gd := nz_gm (List.mem_of_getElem? (i := 137) (by decide +kernel)) rfl
theorem k_47 : Cond.fieldLink R_Places 15 "NameFall$Places" "kinds" "[I" ∈ nz_gd := nz_gm (List.mem_of_getElem? (i := 139) (by decide +kernel)) rfl
theorem k_50 : Cond.fieldLink R_Places 19 "NameFall$Places" "alikes" "[I" ∈ nz_gd := nz_gm (List.mem_of_getElem? (i := 142) (by decide +kernel)) rfl
theorem k_54 : Cond.fieldLink R_Places 22 "NameFall$Places" "nears" "[I" ∈ nz_gd := nz_gm (List.mem_of_getElem? (i := 146) (by decide +kernel)) rfl
theorem k_57 : Cond.fieldLink R_Places 25 "NameFall$Places" "years" "[I" ∈ nz_gd := nz_gm (List.mem_of_getElem? (i := 149) (by decide +kernel)) rfl
theorem k_60 : Cond.fieldLink R_Places 28 "NameFall$Places" "backs" "[I" ∈ nz_gd := nz_gm (List.mem_of_getElem? (i := 152) (by decide +kernel)) rfl
theorem k_63 : Cond.fieldLink R_Places 31 "NameFall$Places" "rows" "[I" ∈ nz_gd := nz_gm (List.mem_of_getElem? (i := 155) (by decide +kernel)) rfl
theorem k_81 : Cond.arrayClass .byte ∈ nz_gd := nz_gm (List.mem_of_getElem? (i := 173) (by decide +kernel)) rfl
theorem k_82 : Cond.arrayClass .long ∈ nz_gd := nz_gm (List.mem_of_getElem? (i := 174) (by decide +kernel)) rfl
theorem k_83 : Cond.arrayClass .int ∈ nz_gd := nz_gm (List.mem_of_getElem? (i := 175) (by decide +kernel)) rfl
theorem k_84 : Cond.classLink R_Land 18 R_Meanings ∈ nz_gd := nz_gm (List.mem_of_getElem? (i := 176) (by decide +kernel)) rfl
theorem k_85 : Cond.instantiable R_Meanings 6 ∈ nz_gd := nz_gm (List.mem_of_getElem? (i := 177) (by decide +kernel)) rfl
theorem k_87 : Cond.instanceMethod y_Meanings_init ∈ nz_gd := nz_gm (List.mem_of_getElem? (i := 179) (by decide +kernel)) rfl
theorem k_88 : Cond.code y_Meanings_init b_Meanings_init 1 none ∈ nz_gd := nz_gm (List.mem_of_getElem? (i := 180) (by decide +kernel)) rfl
theorem k_89 : Cond.methodLink R_Meanings 3 Lib.objectInit ∈ nz_gd := nz_gm (List.mem_of_getElem? (i := 181) (by decide +kernel)) rfl
theorem k_90 : Cond.fieldLink R_Meanings 25 "NameFall$Meanings" "count" "I" ∈ nz_gd := nz_gm (List.mem_of_getElem? (i := 182) (by decide +kernel)) rfl
theorem k_94 : Cond.fieldLink R_NF 210 "NameFall$Meanings" "count" "I" ∈ nz_gd := nz_gm (List.mem_of_getElem? (i := 186) (by decide +kernel)) rfl
theorem k_95 : Cond.fieldLink R_Meanings 9 "NameFall$Meanings" "names" "[J" ∈ nz_gd := nz_gm (List.mem_of_getElem? (i := 187) (by decide +kernel)) rfl
theorem k_97 : Cond.fieldLink R_Meanings 29 "NameFall$Meanings" "turns" "I" ∈ nz_gd := nz_gm (List.mem_of_getElem? (i := 189) (by decide +kernel)) rfl
theorem k_100 : Cond.fieldLink R_NF 283 "NameFall$Meanings" "turns" "I" ∈ nz_gd := nz_gm (List.mem_of_getElem? (i := 192) (by decide +kernel)) rfl
theorem k_101 : Cond.fieldLink R_Meanings 15 "NameFall$Meanings" "turnOf" "[I" ∈ nz_gd := nz_gm (List.mem_of_getElem? (i := 193) (by decide +kernel)) rfl
theorem k_104 : Cond.fieldLink R_Meanings 19 "NameFall$Meanings" "turnBy" "[I" ∈ nz_gd := nz_gm (List.mem_of_getElem? (i := 196) (by decide +kernel)) rfl
theorem k_107 : Cond.fieldLink R_Meanings 22 "NameFall$Meanings" "turnWith" "[I" ∈ nz_gd := nz_gm (List.mem_of_getElem? (i := 199) (by decide +kernel)) rfl
theorem k_123 : Cond.classLink R_Land 25 R_Words ∈ nz_gd := nz_gm (List.mem_of_getElem? (i := 215) (by decide +kernel)) rfl
theorem k_124 : Cond.instantiable R_Words 3 ∈ nz_gd := nz_gm (List.mem_of_getElem? (i := 216) (by decide +kernel)) rfl
theorem k_126 : Cond.instanceMethod y_Words_init ∈ nz_gd := nz_gm (List.mem_of_getElem? (i := 218) (by decide +kernel)) rfl
theorem k_127 : Cond.code y_Words_init b_Words_init 1 none ∈ nz_gd := nz_gm (List.mem_of_getElem? (i := 219) (by decide +kernel)) rfl
theorem k_128 : Cond.methodLink R_Words 3 Lib.objectInit ∈ nz_gd := nz_gm (List.mem_of_getElem? (i := 220) (by decide +kernel)) rfl
theorem k_129 : Cond.fieldLink R_Words 19 "NameFall$Words" "count" "I" ∈ nz_gd := nz_gm (List.mem_of_getElem? (i := 221) (by decide +kernel)) rfl
theorem k_130 : Cond.fieldLink R_Land 70 "NameFall$Words" "count" "I" ∈ nz_gd := nz_gm (List.mem_of_getElem? (i := 222) (by decide +kernel)) rfl
theorem k_132 : Cond.fieldLink R_NF 241 "NameFall$Words" "count" "I" ∈ nz_gd := nz_gm (List.mem_of_getElem? (i := 224) (by decide +kernel)) rfl
theorem k_133 : Cond.fieldLink R_Words 9 "NameFall$Words" "names" "[J" ∈ nz_gd := nz_gm (List.mem_of_getElem? (i := 225) (by decide +kernel)) rfl
theorem k_137 : Cond.fieldLink R_Words 15 "NameFall$Words" "sounding" "[I" ∈ nz_gd := nz_gm (List.mem_of_getElem? (i := 229) (by decide +kernel)) rfl
theorem k_146 : Cond.classLink R_Land 32 R_Persons ∈ nz_gd := nz_gm (List.mem_of_getElem? (i := 238) (by decide +kernel)) rfl
theorem k_147 : Cond.instantiable R_Persons 11 ∈ nz_gd := nz_gm (List.mem_of_getElem? (i := 239) (by decide +kernel)) rfl
theorem k_149 : Cond.instanceMethod y_Persons_init ∈ nz_gd := nz_gm (List.mem_of_getElem? (i := 241) (by decide +kernel)) rfl
theorem k_150 : Cond.code y_Persons_init b_Persons_init 1 none ∈ nz_gd := nz_gm (List.mem_of_getElem? (i := 242) (by decide +kernel)) rfl
theorem k_151 : Cond.methodLink R_Persons 3 Lib.objectInit ∈ nz_gd := nz_gm (List.mem_of_getElem? (i := 243) (by decide +kernel)) rfl
theorem k_152 : Cond.fieldLink R_Persons 40 "NameFall$Persons" "count" "I" ∈ nz_gd := nz_gm (List.mem_of_getElem? (i := 244) (by decide +kernel)) rfl
theorem k_155 : Cond.fieldLink R_Land 55 "NameFall$Persons" "count" "I" ∈ nz_gd := nz_gm (List.mem_of_getElem? (i := 247) (by decide +kernel)) rfl
theorem k_158 : Cond.fieldLink R_NF 231 "NameFall$Persons" "count" "I" ∈ nz_gd := nz_gm (List.mem_of_getElem? (i := 250) (by decide +kernel)) rfl
theorem k_159 : Cond.fieldLink R_Persons 44 "NameFall$Persons" "talks" "I" ∈ nz_gd := nz_gm (List.mem_of_getElem? (i := 251) (by decide +kernel)) rfl
theorem k_161 : Cond.fieldLink R_NF 286 "NameFall$Persons" "talks" "I" ∈ nz_gd := nz_gm (List.mem_of_getElem? (i := 253) (by decide +kernel)) rfl
theorem k_162 : Cond.fieldLink R_Persons 9 "NameFall$Persons" "names" "[J" ∈ nz_gd := nz_gm (List.mem_of_getElem? (i := 254) (by decide +kernel)) rfl
theorem k_164 : Cond.fieldLink R_Persons 15 "NameFall$Persons" "called" "[J" ∈ nz_gd := nz_gm (List.mem_of_getElem? (i := 256) (by decide +kernel)) rfl
theorem k_169 : Cond.fieldLink R_Persons 18 "NameFall$Persons" "homes" "[I" ∈ nz_gd := nz_gm (List.mem_of_getElem? (i := 261) (by decide +kernel)) rfl
theorem k_175 : Cond.fieldLink R_Persons 22 "NameFall$Persons" "born" "[I" ∈ nz_gd := nz_gm (List.mem_of_getElem? (i := 267) (by decide +kernel)) rfl
theorem k_179 : Cond.fieldLink R_Persons 25 "NameFall$Persons" "parents" "[I" ∈ nz_gd := nz_gm (List.mem_of_getElem? (i := 271) (by decide +kernel)) rfl
theorem k_181 : Cond.fieldLink R_Persons 28 "NameFall$Persons" "forebears" "[I" ∈ nz_gd := nz_gm (List.mem_of_getElem? (i := 273) (by decide +kernel)) rfl
theorem k_183 : Cond.fieldLink R_Persons 31 "NameFall$Persons" "partners" "[I" ∈ nz_gd := nz_gm (List.mem_of_getElem? (i := 275) (by decide +kernel)) rfl
theorem k_186 : Cond.fieldLink R_Persons 34 "NameFall$Persons" "sounding" "[I" ∈ nz_gd := nz_gm (List.mem_of_getElem? (i := 278) (by decide +kernel)) rfl
theorem k_188 : Cond.fieldLink R_Persons 37 "NameFall$Persons" "steps" "[I" ∈ nz_gd := nz_gm (List.mem_of_getElem? (i := 280) (by decide +kernel)) rfl
theorem k_212 : Cond.fieldLink R_Land 12 "NameFall$Land" "places" "LNameFall$Places;" ∈ nz_gd := nz_gm (List.mem_of_getElem? (i := 304) (by decide +kernel)) rfl
theorem k_217 : Cond.fieldLink R_NF 193 "NameFall$Land" "places" "LNameFall$Places;" ∈ nz_gd := nz_gm (List.mem_of_getElem? (i := 309) (by decide +kernel)) rfl
theorem k_218 : Cond.fieldLink R_Land 21 "NameFall$Land" "meanings" "LNameFall$Meanings;" ∈ nz_gd := nz_gm (List.mem_of_getElem? (i := 310) (by decide +kernel)) rfl
theorem k_222 : Cond.fieldLink R_NF 206 "NameFall$Land" "meanings" "LNameFall$Meanings;" ∈ nz_gd := nz_gm (List.mem_of_getElem? (i := 314) (by decide +kernel)) rfl
theorem k_223 : Cond.fieldLink R_Land 28 "NameFall$Land" "words" "LNameFall$Words;" ∈ nz_gd := nz_gm (List.mem_of_getElem? (i := 315) (by decide +kernel)) rfl
theorem k_225 : Cond.fieldLink R_NF 141 "NameFall$Land" "words" "LNameFall$Words;" ∈ nz_gd := nz_gm (List.mem_of_getElem? (i := 317) (by decide +kernel)) rfl
theorem k_226 : Cond.fieldLink R_Land 35 "NameFall$Land" "persons" "LNameFall$Persons;" ∈ nz_gd := nz_gm (List.mem_of_getElem? (i := 318) (by decide +kernel)) rfl
theorem k_231 : Cond.fieldLink R_NF 111 "NameFall$Land" "persons" "LNameFall$Persons;" ∈ nz_gd := nz_gm (List.mem_of_getElem? (i := 323) (by decide +kernel)) rfl
theorem k_232 : Cond.fieldLink R_Land 39 "NameFall$Land" "changed" "[I" ∈ nz_gd := nz_gm (List.mem_of_getElem? (i := 324) (by decide +kernel)) rfl
theorem k_244 : Cond.classLink R_NF 12 R_Falls ∈ nz_gd := nz_gm (List.mem_of_getElem? (i := 336) (by decide +kernel)) rfl
theorem k_245 : Cond.instantiable R_Falls 7 ∈ nz_gd := nz_gm (List.mem_of_getElem? (i := 337) (by decide +kernel)) rfl
theorem k_246 : Cond.methodLink R_NF 14 y_Falls_init ∈ nz_gd := nz_gm (List.mem_of_getElem? (i := 338) (by decide +kernel)) rfl
theorem k_247 : Cond.instanceMethod y_Falls_init ∈ nz_gd := nz_gm (List.mem_of_getElem? (i := 339) (by decide +kernel)) rfl
theorem k_248 : Cond.code y_Falls_init b_Falls_init 2 none ∈ nz_gd := nz_gm (List.mem_of_getElem? (i := 340) (by decide +kernel)) rfl
theorem k_249 : Cond.methodLink R_Falls 3 Lib.objectInit ∈ nz_gd := nz_gm (List.mem_of_getElem? (i := 341) (by decide +kernel)) rfl
theorem k_250 : Cond.fieldLink R_Falls 24 "NameFall$Falls" "land" "LNameFall$Land;" ∈ nz_gd := nz_gm (List.mem_of_getElem? (i := 342) (by decide +kernel)) rfl
theorem k_253 : Cond.fieldLink R_Falls 9 "NameFall$Falls" "died" "[I" ∈ nz_gd := nz_gm (List.mem_of_getElem? (i := 345) (by decide +kernel)) rfl
theorem k_254 : Cond.fieldLink R_Falls 15 "NameFall$Falls" "over" "[I" ∈ nz_gd := nz_gm (List.mem_of_getElem? (i := 346) (by decide +kernel)) rfl
theorem k_255 : Cond.fieldLink R_Falls 18 "NameFall$Falls" "kinds" "[I" ∈ nz_gd := nz_gm (List.mem_of_getElem? (i := 347) (by decide +kernel)) rfl
theorem k_256 : Cond.fieldLink R_Falls 21 "NameFall$Falls" "alikes" "[I" ∈ nz_gd := nz_gm (List.mem_of_getElem? (i := 348) (by decide +kernel)) rfl
theorem k_272 : Cond.classLink R_NF 28 R_Reader ∈ nz_gd := nz_gm (List.mem_of_getElem? (i := 364) (by decide +kernel)) rfl
theorem k_273 : Cond.instantiable R_Reader 5 ∈ nz_gd := nz_gm (List.mem_of_getElem? (i := 365) (by decide +kernel)) rfl
theorem k_274 : Cond.classLink R_NF 30 R_Scanner ∈ nz_gd := nz_gm (List.mem_of_getElem? (i := 366) (by decide +kernel)) rfl
theorem k_275 : Cond.instantiable R_Scanner 9 ∈ nz_gd := nz_gm (List.mem_of_getElem? (i := 367) (by decide +kernel)) rfl
theorem k_276 : Cond.methodLink R_NF 32 y_Scanner_init ∈ nz_gd := nz_gm (List.mem_of_getElem? (i := 368) (by decide +kernel)) rfl
theorem k_277 : Cond.instanceMethod y_Scanner_init ∈ nz_gd := nz_gm (List.mem_of_getElem? (i := 369) (by decide +kernel)) rfl
theorem k_278 : Cond.code y_Scanner_init b_Scanner_init 5 none ∈ nz_gd := nz_gm (List.mem_of_getElem? (i := 370) (by decide +kernel)) rfl
theorem k_279 : Cond.methodLink R_Scanner 3 Lib.objectInit ∈ nz_gd := nz_gm (List.mem_of_getElem? (i := 371) (by decide +kernel)) rfl
theorem k_281 : Cond.methodLink R_Scanner 21 y_Str_length ∈ nz_gd := nz_gm (List.mem_of_getElem? (i := 373) (by decide +kernel)) rfl
theorem k_282 : Cond.instanceMethod y_Str_length ∈ nz_gd := nz_gm (List.mem_of_getElem? (i := 374) (by decide +kernel)) rfl
theorem k_283 : Cond.selects R_Str y_Str_length y_Str_length ∈ nz_gd := nz_gm (List.mem_of_getElem? (i := 375) (by decide +kernel)) rfl
theorem k_284 : Cond.code y_Str_length b_Str_length 1 (some .int) ∈ nz_gd := nz_gm (List.mem_of_getElem? (i := 376) (by decide +kernel)) rfl
theorem k_285 : Cond.methodLink R_Str 335 y_Str_coder ∈ nz_gd := nz_gm (List.mem_of_getElem? (i := 377) (by decide +kernel)) rfl
theorem k_286 : Cond.instanceMethod y_Str_coder ∈ nz_gd := nz_gm (List.mem_of_getElem? (i := 378) (by decide +kernel)) rfl
theorem k_287 : Cond.selects R_Str y_Str_coder y_Str_coder ∈ nz_gd := nz_gm (List.mem_of_getElem? (i := 379) (by decide +kernel)) rfl
theorem k_288 : Cond.code y_Str_coder b_Str_coder 1 (some .byte) ∈ nz_gd := nz_gm (List.mem_of_getElem? (i := 380) (by decide +kernel)) rfl
theorem k_289 : Cond.fieldLink R_Str 38 "java/lang/String" "COMPACT_STRINGS" "Z" ∈ nz_gd := nz_gm (List.mem_of_getElem? (i := 381) (by decide +kernel)) rfl
theorem k_291 : Cond.methodLink R_Scanner 27 y_Str_charAt ∈ nz_gd := nz_gm (List.mem_of_getElem? (i := 383) (by decide +kernel)) rfl
theorem k_292 : Cond.instanceMethod y_Str_charAt ∈ nz_gd := nz_gm (List.mem_of_getElem? (i := 384) (by decide +kernel)) rfl
theorem k_293 : Cond.selects R_Str y_Str_charAt y_Str_charAt ∈ nz_gd := nz_gm (List.mem_of_getElem? (i := 385) (by decide +kernel)) rfl
theorem k_294 : Cond.code y_Str_charAt b_Str_charAt 2 (some .char) ∈ nz_gd := nz_gm (List.mem_of_getElem? (i := 386) (by decide +kernel)) rfl
theorem k_295 : Cond.methodLink R_Str 492 y_Str_isLatin1 ∈ nz_gd := nz_gm (List.mem_of_getElem? (i := 387) (by decide +kernel)) rfl
theorem k_296 : Cond.instanceMethod y_Str_isLatin1 ∈ nz_gd := nz_gm (List.mem_of_getElem? (i := 388) (by decide +kernel)) rfl
theorem k_297 : Cond.selects R_Str y_Str_isLatin1 y_Str_isLatin1 ∈ nz_gd := nz_gm (List.mem_of_getElem? (i := 389) (by decide +kernel)) rfl
theorem k_298 : Cond.code y_Str_isLatin1 b_Str_isLatin1 1 (some .boolean) ∈ nz_gd := nz_gm (List.mem_of_getElem? (i := 390) (by decide +kernel)) rfl
theorem k_299 : Cond.methodLink R_Str 495 y_Lat_charAt ∈ nz_gd := nz_gm (List.mem_of_getElem? (i := 391) (by decide +kernel)) rfl
theorem k_300 : Cond.static y_Lat_charAt ∈ nz_gd := nz_gm (List.mem_of_getElem? (i := 392) (by decide +kernel)) rfl
theorem k_301 : Cond.code y_Lat_charAt b_Lat_charAt 2 (some .char) ∈ nz_gd := nz_gm (List.mem_of_getElem? (i := 393) (by decide +kernel)) rfl
theorem k_302 : Cond.methodLink R_Lat 9 y_Str_checkIndex ∈ nz_gd := nz_gm (List.mem_of_getElem? (i := 394) (by decide +kernel)) rfl
theorem k_303 : Cond.static y_Str_checkIndex ∈ nz_gd := nz_gm (List.mem_of_getElem? (i := 395) (by decide +kernel)) rfl
theorem k_304 : Cond.code y_Str_checkIndex b_Str_checkIndex 2 none ∈ nz_gd := nz_gm (List.mem_of_getElem? (i := 396) (by decide +kernel)) rfl
theorem k_305 : Cond.fieldLink R_Str 1053 "jdk/internal/util/Preconditions" "SIOOBE_FORMATTER" "Ljava/util/function/BiFunction;" ∈ nz_gd := nz_gm (List.mem_of_getElem? (i := 397) (by decide +kernel)) rfl
theorem k_307 : Cond.methodLink R_Str 1059 y_Pre_checkIndex ∈ nz_gd := nz_gm (List.mem_of_getElem? (i := 399) (by decide +kernel)) rfl
theorem k_308 : Cond.static y_Pre_checkIndex ∈ nz_gd := nz_gm (List.mem_of_getElem? (i := 400) (by decide +kernel)) rfl
theorem k_309 : Cond.code y_Pre_checkIndex b_Pre_checkIndex 3 (some .int) ∈ nz_gd := nz_gm (List.mem_of_getElem? (i := 401) (by decide +kernel)) rfl
theorem k_329 : Cond.methodLink R_Scanner 31 y_Scanner_letterCode ∈ nz_gd := nz_gm (List.mem_of_getElem? (i := 421) (by decide +kernel)) rfl
theorem k_330 : Cond.static y_Scanner_letterCode ∈ nz_gd := nz_gm (List.mem_of_getElem? (i := 422) (by decide +kernel)) rfl
theorem k_331 : Cond.code y_Scanner_letterCode b_Scanner_letterCode 2 (some .long) ∈ nz_gd := nz_gm (List.mem_of_getElem? (i := 423) (by decide +kernel)) rfl
theorem k_332 : Cond.fieldLink R_Reader 33 "NameFall$Scanner" "kind" "I" ∈ nz_gd := nz_gm (List.mem_of_getElem? (i := 424) (by decide +kernel)) rfl
theorem k_333 : Cond.fieldLink R_Scanner 60 "NameFall$Scanner" "kind" "I" ∈ nz_gd := nz_gm (List.mem_of_getElem? (i := 425) (by decide +kernel)) rfl
theorem k_334 : Cond.fieldLink R_Scanner 57 "NameFall$Scanner" "place" "I" ∈ nz_gd := nz_gm (List.mem_of_getElem? (i := 426) (by decide +kernel)) rfl
theorem k_342 : Cond.fieldLink R_Scanner 9 "NameFall$Scanner" "text" "[B" ∈ nz_gd := nz_gm (List.mem_of_getElem? (i := 434) (by decide +kernel)) rfl
theorem k_343 : Cond.fieldLink R_Scanner 15 "NameFall$Scanner" "keywords" "[J" ∈ nz_gd := nz_gm (List.mem_of_getElem? (i := 435) (by decide +kernel)) rfl
theorem k_344 : Cond.fieldLink R_Scanner 44 "NameFall$Scanner" "length" "I" ∈ nz_gd := nz_gm (List.mem_of_getElem? (i := 436) (by decide +kernel)) rfl
theorem k_345 : Cond.fieldLink R_Scanner 47 "NameFall$Scanner" "at" "I" ∈ nz_gd := nz_gm (List.mem_of_getElem? (i := 437) (by decide +kernel)) rfl
theorem k_365 : Cond.methodLink R_NF 35 y_Reader_init ∈ nz_gd := nz_gm (List.mem_of_getElem? (i := 457) (by decide +kernel)) rfl
theorem k_366 : Cond.instanceMethod y_Reader_init ∈ nz_gd := nz_gm (List.mem_of_getElem? (i := 458) (by decide +kernel)) rfl
theorem k_367 : Cond.code y_Reader_init b_Reader_init 2 none ∈ nz_gd := nz_gm (List.mem_of_getElem? (i := 459) (by decide +kernel)) rfl
theorem k_368 : Cond.methodLink R_Reader 3 Lib.objectInit ∈ nz_gd := nz_gm (List.mem_of_getElem? (i := 460) (by decide +kernel)) rfl
theorem k_369 : Cond.fieldLink R_Reader 19 "NameFall$Reader" "fault" "I" ∈ nz_gd := nz_gm (List.mem_of_getElem? (i := 461) (by decide +kernel)) rfl
theorem k_370 : Cond.fieldLink R_NF 92 "NameFall$Reader" "fault" "I" ∈ nz_gd := nz_gm (List.mem_of_getElem? (i := 462) (by decide +kernel)) rfl
theorem k_371 : Cond.fieldLink R_Reader 15 "NameFall$Reader" "faultPlace" "I" ∈ nz_gd := nz_gm (List.mem_of_getElem? (i := 463) (by decide +kernel)) rfl
theorem k_372 : Cond.fieldLink R_NF 101 "NameFall$Reader" "faultPlace" "I" ∈ nz_gd := nz_gm (List.mem_of_getElem? (i := 464) (by decide +kernel)) rfl
theorem k_373 : Cond.fieldLink R_Reader 9 "NameFall$Reader" "scanner" "LNameFall$Scanner;" ∈ nz_gd := nz_gm (List.mem_of_getElem? (i := 465) (by decide +kernel)) rfl
theorem k_387 : Cond.classLink R_NF 42 R_Deaths ∈ nz_gd := nz_gm (List.mem_of_getElem? (i := 479) (by decide +kernel)) rfl
theorem k_388 : Cond.instantiable R_Deaths 6 ∈ nz_gd := nz_gm (List.mem_of_getElem? (i := 480) (by decide +kernel)) rfl
theorem k_390 : Cond.instanceMethod y_Deaths_init ∈ nz_gd := nz_gm (List.mem_of_getElem? (i := 482) (by decide +kernel)) rfl
theorem k_391 : Cond.code y_Deaths_init b_Deaths_init 1 none ∈ nz_gd := nz_gm (List.mem_of_getElem? (i := 483) (by decide +kernel)) rfl
theorem k_392 : Cond.methodLink R_Deaths 3 Lib.objectInit ∈ nz_gd := nz_gm (List.mem_of_getElem? (i := 484) (by decide +kernel)) rfl
theorem k_393 : Cond.fieldLink R_Deaths 24 "NameFall$Deaths" "count" "I" ∈ nz_gd := nz_gm (List.mem_of_getElem? (i := 485) (by decide +kernel)) rfl
theorem k_394 : Cond.fieldLink R_NF 289 "NameFall$Deaths" "count" "I" ∈ nz_gd := nz_gm (List.mem_of_getElem? (i := 486) (by decide +kernel)) rfl
theorem k_395 : Cond.fieldLink R_Deaths 28 "NameFall$Deaths" "time" "I" ∈ nz_gd := nz_gm (List.mem_of_getElem? (i := 487) (by decide +kernel)) rfl
theorem k_396 : Cond.fieldLink R_NF 290 "NameFall$Deaths" "time" "I" ∈ nz_gd := nz_gm (List.mem_of_getElem? (i := 488) (by decide +kernel)) rfl
theorem k_397 : Cond.fieldLink R_Deaths 9 "NameFall$Deaths" "persons" "[I" ∈ nz_gd := nz_gm (List.mem_of_getElem? (i := 489) (by decide +kernel)) rfl
theorem k_398 : Cond.fieldLink R_Deaths 15 "NameFall$Deaths" "years" "[I" ∈ nz_gd := nz_gm (List.mem_of_getElem? (i := 490) (by decide +kernel)) rfl
theorem k_399 : Cond.fieldLink R_Deaths 18 "NameFall$Deaths" "toldAt" "[I" ∈ nz_gd := nz_gm (List.mem_of_getElem? (i := 491) (by decide +kernel)) rfl
theorem k_400 : Cond.fieldLink R_Deaths 21 "NameFall$Deaths" "untoldAt" "[I" ∈ nz_gd := nz_gm (List.mem_of_getElem? (i := 492) (by decide +kernel)) rfl
theorem k_414 : Cond.classLink R_NF 53 R_Speech ∈ nz_gd := nz_gm (List.mem_of_getElem? (i := 506) (by decide +kernel)) rfl
theorem k_415 : Cond.instantiable R_Speech 5 ∈ nz_gd := nz_gm (List.mem_of_getElem? (i := 507) (by decide +kernel)) rfl
theorem k_416 : Cond.methodLink R_NF 55 y_Speech_init ∈ nz_gd := nz_gm (List.mem_of_getElem? (i := 508) (by decide +kernel)) rfl
theorem k_417 : Cond.instanceMethod y_Speech_init ∈ nz_gd := nz_gm (List.mem_of_getElem? (i := 509) (by decide +kernel)) rfl
theorem k_418 : Cond.code y_Speech_init b_Speech_init 2 none ∈ nz_gd := nz_gm (List.mem_of_getElem? (i := 510) (by decide +kernel)) rfl
theorem k_419 : Cond.methodLink R_Speech 3 Lib.objectInit ∈ nz_gd := nz_gm (List.mem_of_getElem? (i := 511) (by decide +kernel)) rfl
theorem k_420 : Cond.fieldLink R_Speech 24 "NameFall$Speech" "falls" "LNameFall$Falls;" ∈ nz_gd := nz_gm (List.mem_of_getElem? (i := 512) (by decide +kernel)) rfl
theorem k_421 : Cond.fieldLink R_Speech 9 "NameFall$Speech" "costs" "[I" ∈ nz_gd := nz_gm (List.mem_of_getElem? (i := 513) (by decide +kernel)) rfl
theorem k_422 : Cond.fieldLink R_Speech 15 "NameFall$Speech" "queue" "[I" ∈ nz_gd := nz_gm (List.mem_of_getElem? (i := 514) (by decide +kernel)) rfl
theorem k_423 : Cond.fieldLink R_Speech 18 "NameFall$Speech" "toldBy" "[I" ∈ nz_gd := nz_gm (List.mem_of_getElem? (i := 515) (by decide +kernel)) rfl
theorem k_424 : Cond.fieldLink R_Speech 21 "NameFall$Speech" "way" "[I" ∈ nz_gd := nz_gm (List.mem_of_getElem? (i := 516) (by decide +kernel)) rfl
theorem k_436 : Cond.classLink R_NF 62 R_Chances ∈ nz_gd := nz_gm (List.mem_of_getElem? (i := 528) (by decide +kernel)) rfl
theorem k_437 : Cond.instantiable R_Chances 5 ∈ nz_gd := nz_gm (List.mem_of_getElem? (i := 529) (by decide +kernel)) rfl
theorem k_439 : Cond.instanceMethod y_Chances_init ∈ nz_gd := nz_gm (List.mem_of_getElem? (i := 531) (by decide +kernel)) rfl
theorem k_440 : Cond.code y_Chances_init b_Chances_init 1 none ∈ nz_gd := nz_gm (List.mem_of_getElem? (i := 532) (by decide +kernel)) rfl
theorem k_441 : Cond.methodLink R_Chances 3 Lib.objectInit ∈ nz_gd := nz_gm (List.mem_of_getElem? (i := 533) (by decide +kernel)) rfl
theorem k_447 : Cond.fieldLink R_Chances 9 "NameFall$Chances" "heldByEach" "[I" ∈ nz_gd := nz_gm (List.mem_of_getElem? (i := 539) (by decide +kernel)) rfl
theorem k_448 : Cond.fieldLink R_Chances 15 "NameFall$Chances" "todays" "[J" ∈ nz_gd := nz_gm (List.mem_of_getElem? (i := 540) (by decide +kernel)) rfl
theorem k_460 : Cond.fieldLink R_NF 17 "NameFall" "tape" "[B" ∈ nz_gd := nz_gm (List.mem_of_getElem? (i := 552) (by decide +kernel)) rfl
theorem k_461 : Cond.fieldLink R_NF 76 "NameFall" "taped" "I" ∈ nz_gd := nz_gm (List.mem_of_getElem? (i := 553) (by decide +kernel)) rfl
theorem k_462 : Cond.fieldLink R_NF 21 "NameFall" "current" "LNameFall$Land;" ∈ nz_gd := nz_gm (List.mem_of_getElem? (i := 554) (by decide +kernel)) rfl
theorem k_463 : Cond.fieldLink R_NF 25 "NameFall" "draft" "LNameFall$Land;" ∈ nz_gd := nz_gm (List.mem_of_getElem? (i := 555) (by decide +kernel)) rfl
theorem k_464 : Cond.fieldLink R_NF 38 "NameFall" "reader" "LNameFall$Reader;" ∈ nz_gd := nz_gm (List.mem_of_getElem? (i := 556) (by decide +kernel)) rfl
theorem k_465 : Cond.fieldLink R_NF 45 "NameFall" "deaths" "LNameFall$Deaths;" ∈ nz_gd := nz_gm (List.mem_of_getElem? (i := 557) (by decide +kernel)) rfl
theorem k_466 : Cond.fieldLink R_NF 49 "NameFall" "falls" "LNameFall$Falls;" ∈ nz_gd := nz_gm (List.mem_of_getElem? (i := 558) (by decide +kernel)) rfl
theorem k_467 : Cond.fieldLink R_NF 58 "NameFall" "speech" "LNameFall$Speech;" ∈ nz_gd := nz_gm (List.mem_of_getElem? (i := 559) (by decide +kernel)) rfl
theorem k_468 : Cond.fieldLink R_NF 65 "NameFall" "chances" "LNameFall$Chances;" ∈ nz_gd := nz_gm (List.mem_of_getElem? (i := 560) (by decide +kernel)) rfl
theorem k_469 : Cond.fieldLink R_NF 69 "NameFall" "latest" "[I" ∈ nz_gd := nz_gm (List.mem_of_getElem? (i := 561) (by decide +kernel)) rfl
theorem k_470 : Cond.fieldLink R_NF 73 "NameFall" "turned" "[I" ∈ nz_gd := nz_gm (List.mem_of_getElem? (i := 562) (by decide +kernel)) rfl
theorem k_494 : Cond.methodLink R_law 13 y_NF_feed ∈ nz_gd := nz_gm (List.mem_of_getElem? (i := 586) (by decide +kernel)) rfl
theorem k_495 : Cond.instanceMethod y_NF_feed ∈ nz_gd := nz_gm (List.mem_of_getElem? (i := 587) (by decide +kernel)) rfl
theorem k_496 : Cond.selects R_NF y_NF_feed y_NF_feed ∈ nz_gd := nz_gm (List.mem_of_getElem? (i := 588) (by decide +kernel)) rfl
theorem k_497 : Cond.code y_NF_feed b_NF_feed 6 (some .int) ∈ nz_gd := nz_gm (List.mem_of_getElem? (i := 589) (by decide +kernel)) rfl
theorem k_498 : Cond.methodLink R_NF 80 y_NF_putBytes ∈ nz_gd := nz_gm (List.mem_of_getElem? (i := 590) (by decide +kernel)) rfl
theorem k_500 : Cond.instanceMethod y_NF_putBytes ∈ nz_gd := nz_gm (List.mem_of_getElem? (i := 592) (by decide +kernel)) rfl
theorem k_501 : Cond.code y_NF_putBytes b_NF_putBytes 3 none ∈ nz_gd := nz_gm (List.mem_of_getElem? (i := 593) (by decide +kernel)) rfl
theorem k_502 : Cond.methodLink R_law 18 y_NF_end ∈ nz_gd := nz_gm (List.mem_of_getElem? (i := 594) (by decide +kernel)) rfl
theorem k_503 : Cond.instanceMethod y_NF_end ∈ nz_gd := nz_gm (List.mem_of_getElem? (i := 595) (by decide +kernel)) rfl
theorem k_504 : Cond.selects R_NF y_NF_end y_NF_end ∈ nz_gd := nz_gm (List.mem_of_getElem? (i := 596) (by decide +kernel)) rfl
theorem k_505 : Cond.code y_NF_end b_NF_end 2 (some .int) ∈ nz_gd := nz_gm (List.mem_of_getElem? (i := 597) (by decide +kernel)) rfl
theorem k_506 : Cond.methodLink R_law 23 y_NF_land ∈ nz_gd := nz_gm (List.mem_of_getElem? (i := 598) (by decide +kernel)) rfl
theorem k_507 : Cond.instanceMethod y_NF_land ∈ nz_gd := nz_gm (List.mem_of_getElem? (i := 599) (by decide +kernel)) rfl
theorem k_508 : Cond.selects R_NF y_NF_land y_NF_land ∈ nz_gd := nz_gm (List.mem_of_getElem? (i := 600) (by decide +kernel)) rfl
theorem k_509 : Cond.code y_NF_land b_NF_land 3 (some .int) ∈ nz_gd := nz_gm (List.mem_of_getElem? (i := 601) (by decide +kernel)) rfl
theorem k_510 : Cond.methodLink R_NF 84 y_Reader_begin ∈ nz_gd := nz_gm (List.mem_of_getElem? (i := 602) (by decide +kernel)) rfl
theorem k_511 : Cond.instanceMethod y_Reader_begin ∈ nz_gd := nz_gm (List.mem_of_getElem? (i := 603) (by decide +kernel)) rfl
theorem k_512 : Cond.selects R_Reader y_Reader_begin y_Reader_begin ∈ nz_gd := nz_gm (List.mem_of_getElem? (i := 604) (by decide +kernel)) rfl
theorem k_513 : Cond.code y_Reader_begin b_Reader_begin 3 none ∈ nz_gd := nz_gm (List.mem_of_getElem? (i := 605) (by decide +kernel)) rfl
theorem k_514 : Cond.methodLink R_Reader 22 y_Land_clear ∈ nz_gd := nz_gm (List.mem_of_getElem? (i := 606) (by decide +kernel)) rfl
theorem k_515 : Cond.instanceMethod y_Land_clear ∈ nz_gd := nz_gm (List.mem_of_getElem? (i := 607) (by decide +kernel)) rfl
theorem k_516 : Cond.selects R_Land y_Land_clear y_Land_clear ∈ nz_gd := nz_gm (List.mem_of_getElem? (i := 608) (by decide +kernel)) rfl
theorem k_517 : Cond.code y_Land_clear b_Land_clear 1 none ∈ nz_gd := nz_gm (List.mem_of_getElem? (i := 609) (by decide +kernel)) rfl
theorem k_518 : Cond.methodLink R_Land 43 y_Places_clear ∈ nz_gd := nz_gm (List.mem_of_getElem? (i := 610) (by decide +kernel)) rfl
theorem k_519 : Cond.instanceMethod y_Places_clear ∈ nz_gd := nz_gm (List.mem_of_getElem? (i := 611) (by decide +kernel)) rfl
theorem k_520 : Cond.selects R_Places y_Places_clear y_Places_clear ∈ nz_gd := nz_gm (List.mem_of_getElem? (i := 612) (by decide +kernel)) rfl
theorem k_521 : Cond.code y_Places_clear b_Places_clear 2 none ∈ nz_gd := nz_gm (List.mem_of_getElem? (i := 613) (by decide +kernel)) rfl
theorem k_522 : Cond.methodLink R_Land 46 y_Meanings_clear ∈ nz_gd := nz_gm (List.mem_of_getElem? (i := 614) (by decide +kernel)) rfl
theorem k_523 : Cond.instanceMethod y_Meanings_clear ∈ nz_gd := nz_gm (List.mem_of_getElem? (i := 615) (by decide +kernel)) rfl
theorem k_524 : Cond.selects R_Meanings y_Meanings_clear y_Meanings_clear ∈ nz_gd := nz_gm (List.mem_of_getElem? (i := 616) (by decide +kernel)) rfl
theorem k_525 : Cond.code y_Meanings_clear b_Meanings_clear 1 none ∈ nz_gd := nz_gm (List.mem_of_getElem? (i := 617) (by decide +kernel)) rfl
theorem k_526 : Cond.methodLink R_Land 47 y_Words_clear ∈ nz_gd := nz_gm (List.mem_of_getElem? (i := 618) (by decide +kernel)) rfl
theorem k_527 : Cond.instanceMethod y_Words_clear ∈ nz_gd := nz_gm (List.mem_of_getElem? (i := 619) (by decide +kernel)) rfl
theorem k_528 : Cond.selects R_Words y_Words_clear y_Words_clear ∈ nz_gd := nz_gm (List.mem_of_getElem? (i := 620) (by decide +kernel)) rfl
theorem k_529 : Cond.code y_Words_clear b_Words_clear 1 none ∈ nz_gd := nz_gm (List.mem_of_getElem? (i := 621) (by decide +kernel)) rfl
theorem k_530 : Cond.methodLink R_Land 48 y_Persons_clear ∈ nz_gd := nz_gm (List.mem_of_getElem? (i := 622) (by decide +kernel)) rfl
theorem k_531 : Cond.instanceMethod y_Persons_clear ∈ nz_gd := nz_gm (List.mem_of_getElem? (i := 623) (by decide +kernel)) rfl
theorem k_532 : Cond.selects R_Persons y_Persons_clear y_Persons_clear ∈ nz_gd := nz_gm (List.mem_of_getElem? (i := 624) (by decide +kernel)) rfl
theorem k_533 : Cond.code y_Persons_clear b_Persons_clear 2 none ∈ nz_gd := nz_gm (List.mem_of_getElem? (i := 625) (by decide +kernel)) rfl
theorem k_534 : Cond.methodLink R_Reader 27 y_Scanner_begin ∈ nz_gd := nz_gm (List.mem_of_getElem? (i := 626) (by decide +kernel)) rfl
theorem k_535 : Cond.instanceMethod y_Scanner_begin ∈ nz_gd := nz_gm (List.mem_of_getElem? (i := 627) (by decide +kernel)) rfl
theorem k_536 : Cond.selects R_Scanner y_Scanner_begin y_Scanner_begin ∈ nz_gd := nz_gm (List.mem_of_getElem? (i := 628) (by decide +kernel)) rfl
theorem k_537 : Cond.code y_Scanner_begin b_Scanner_begin 2 none ∈ nz_gd := nz_gm (List.mem_of_getElem? (i := 629) (by decide +kernel)) rfl
theorem k_538 : Cond.methodLink R_Scanner 35 y_Math_min ∈ nz_gd := nz_gm (List.mem_of_getElem? (i := 630) (by decide +kernel)) rfl
theorem k_539 : Cond.static y_Math_min ∈ nz_gd := nz_gm (List.mem_of_getElem? (i := 631) (by decide +kernel)) rfl
theorem k_540 : Cond.code y_Math_min b_Math_min 2 (some .int) ∈ nz_gd := nz_gm (List.mem_of_getElem? (i := 632) (by decide +kernel)) rfl
theorem k_541 : Cond.methodLink R_Scanner 41 y_Math_max ∈ nz_gd := nz_gm (List.mem_of_getElem? (i := 633) (by decide +kernel)) rfl
theorem k_542 : Cond.static y_Math_max ∈ nz_gd := nz_gm (List.mem_of_getElem? (i := 634) (by decide +kernel)) rfl
theorem k_543 : Cond.code y_Math_max b_Math_max 2 (some .int) ∈ nz_gd := nz_gm (List.mem_of_getElem? (i := 635) (by decide +kernel)) rfl
theorem k_544 : Cond.methodLink R_Scanner 50 y_Scanner_advance ∈ nz_gd := nz_gm (List.mem_of_getElem? (i := 636) (by decide +kernel)) rfl
theorem k_545 : Cond.instanceMethod y_Scanner_advance ∈ nz_gd := nz_gm (List.mem_of_getElem? (i := 637) (by decide +kernel)) rfl
theorem k_546 : Cond.selects R_Scanner y_Scanner_advance y_Scanner_advance ∈ nz_gd := nz_gm (List.mem_of_getElem? (i := 638) (by decide +kernel)) rfl
theorem k_547 : Cond.code y_Scanner_advance b_Scanner_advance 1 none ∈ nz_gd := nz_gm (List.mem_of_getElem? (i := 639) (by decide +kernel)) rfl
theorem k_548 : Cond.methodLink R_Scanner 53 y_Scanner_skipBlanks ∈ nz_gd := nz_gm (List.mem_of_getElem? (i := 640) (by decide +kernel)) rfl
theorem k_550 : Cond.instanceMethod y_Scanner_skipBlanks ∈ nz_gd := nz_gm (List.mem_of_getElem? (i := 642) (by decide +kernel)) rfl
theorem k_551 : Cond.code y_Scanner_skipBlanks b_Scanner_skipBlanks 3 (some .int) ∈ nz_gd := nz_gm (List.mem_of_getElem? (i := 643) (by decide +kernel)) rfl
theorem k_569 : Cond.methodLink R_NF 88 y_Reader_readLine ∈ nz_gd := nz_gm (List.mem_of_getElem? (i := 661) (by decide +kernel)) rfl
theorem k_570 : Cond.instanceMethod y_Reader_readLine ∈ nz_gd := nz_gm (List.mem_of_getElem? (i := 662) (by decide +kernel)) rfl
theorem k_571 : Cond.selects R_Reader y_Reader_readLine y_Reader_readLine ∈ nz_gd := nz_gm (List.mem_of_getElem? (i := 663) (by decide +kernel)) rfl
theorem k_572 : Cond.code y_Reader_readLine b_Reader_readLine 2 (some .boolean) ∈ nz_gd := nz_gm (List.mem_of_getElem? (i := 664) (by decide +kernel)) rfl
theorem k_650 : Cond.methodLink R_NF 95 y_Land_settle ∈ nz_gd := nz_gm (List.mem_of_getElem? (i := 742) (by decide +kernel)) rfl
theorem k_651 : Cond.instanceMethod y_Land_settle ∈ nz_gd := nz_gm (List.mem_of_getElem? (i := 743) (by decide +kernel)) rfl
theorem k_652 : Cond.selects R_Land y_Land_settle y_Land_settle ∈ nz_gd := nz_gm (List.mem_of_getElem? (i := 744) (by decide +kernel)) rfl
theorem k_653 : Cond.code y_Land_settle b_Land_settle 2 none ∈ nz_gd := nz_gm (List.mem_of_getElem? (i := 745) (by decide +kernel)) rfl
theorem k_654 : Cond.methodLink R_Land 49 y_Persons_findForebears ∈ nz_gd := nz_gm (List.mem_of_getElem? (i := 746) (by decide +kernel)) rfl
theorem k_655 : Cond.instanceMethod y_Persons_findForebears ∈ nz_gd := nz_gm (List.mem_of_getElem? (i := 747) (by decide +kernel)) rfl
theorem k_656 : Cond.selects R_Persons y_Persons_findForebears y_Persons_findForebears ∈ nz_gd := nz_gm (List.mem_of_getElem? (i := 748) (by decide +kernel)) rfl
theorem k_657 : Cond.code y_Persons_findForebears b_Persons_findForebears 4 none ∈ nz_gd := nz_gm (List.mem_of_getElem? (i := 749) (by decide +kernel)) rfl
theorem k_659 : Cond.methodLink R_Land 52 y_Persons_findSteps ∈ nz_gd := nz_gm (List.mem_of_getElem? (i := 751) (by decide +kernel)) rfl
theorem k_660 : Cond.instanceMethod y_Persons_findSteps ∈ nz_gd := nz_gm (List.mem_of_getElem? (i := 752) (by decide +kernel)) rfl
theorem k_661 : Cond.selects R_Persons y_Persons_findSteps y_Persons_findSteps ∈ nz_gd := nz_gm (List.mem_of_getElem? (i := 753) (by decide +kernel)) rfl
theorem k_662 : Cond.code y_Persons_findSteps b_Persons_findSteps 5 none ∈ nz_gd := nz_gm (List.mem_of_getElem? (i := 754) (by decide +kernel)) rfl
theorem k_682 : Cond.methodLink R_NF 98 y_Deaths_forget ∈ nz_gd := nz_gm (List.mem_of_getElem? (i := 774) (by decide +kernel)) rfl
theorem k_683 : Cond.instanceMethod y_Deaths_forget ∈ nz_gd := nz_gm (List.mem_of_getElem? (i := 775) (by decide +kernel)) rfl
theorem k_684 : Cond.selects R_Deaths y_Deaths_forget y_Deaths_forget ∈ nz_gd := nz_gm (List.mem_of_getElem? (i := 776) (by decide +kernel)) rfl
theorem k_685 : Cond.code y_Deaths_forget b_Deaths_forget 1 none ∈ nz_gd := nz_gm (List.mem_of_getElem? (i := 777) (by decide +kernel)) rfl
theorem k_686 : Cond.methodLink R_law 28 y_NF_fault ∈ nz_gd := nz_gm (List.mem_of_getElem? (i := 778) (by decide +kernel)) rfl
theorem k_687 : Cond.instanceMethod y_NF_fault ∈ nz_gd := nz_gm (List.mem_of_getElem? (i := 779) (by decide +kernel)) rfl
theorem k_688 : Cond.selects R_NF y_NF_fault y_NF_fault ∈ nz_gd := nz_gm (List.mem_of_getElem? (i := 780) (by decide +kernel)) rfl
theorem k_689 : Cond.code y_NF_fault b_NF_fault 2 (some .int) ∈ nz_gd := nz_gm (List.mem_of_getElem? (i := 781) (by decide +kernel)) rfl
theorem k_690 : Cond.methodLink R_law 32 y_NF_die ∈ nz_gd := nz_gm (List.mem_of_getElem? (i := 782) (by decide +kernel)) rfl
theorem k_691 : Cond.instanceMethod y_NF_die ∈ nz_gd := nz_gm (List.mem_of_getElem? (i := 783) (by decide +kernel)) rfl
theorem k_692 : Cond.selects R_NF y_NF_die y_NF_die ∈ nz_gd := nz_gm (List.mem_of_getElem? (i := 784) (by decide +kernel)) rfl
theorem k_693 : Cond.code y_NF_die b_NF_die 3 (some .int) ∈ nz_gd := nz_gm (List.mem_of_getElem? (i := 785) (by decide +kernel)) rfl
theorem k_694 : Cond.methodLink R_NF 104 y_NF_isPerson ∈ nz_gd := nz_gm (List.mem_of_getElem? (i := 786) (by decide +kernel)) rfl
theorem k_696 : Cond.instanceMethod y_NF_isPerson ∈ nz_gd := nz_gm (List.mem_of_getElem? (i := 788) (by decide +kernel)) rfl
theorem k_697 : Cond.code y_NF_isPerson b_NF_isPerson 2 (some .boolean) ∈ nz_gd := nz_gm (List.mem_of_getElem? (i := 789) (by decide +kernel)) rfl
theorem k_705 : Cond.methodLink R_law 37 y_NF_untell ∈ nz_gd := nz_gm (List.mem_of_getElem? (i := 797) (by decide +kernel)) rfl
theorem k_706 : Cond.instanceMethod y_NF_untell ∈ nz_gd := nz_gm (List.mem_of_getElem? (i := 798) (by decide +kernel)) rfl
theorem k_707 : Cond.selects R_NF y_NF_untell y_NF_untell ∈ nz_gd := nz_gm (List.mem_of_getElem? (i := 799) (by decide +kernel)) rfl
theorem k_708 : Cond.code y_NF_untell b_NF_untell 2 (some .boolean) ∈ nz_gd := nz_gm (List.mem_of_getElem? (i := 800) (by decide +kernel)) rfl
theorem k_709 : Cond.methodLink R_NF 124 y_Deaths_takeBack ∈ nz_gd := nz_gm (List.mem_of_getElem? (i := 801) (by decide +kernel)) rfl
theorem k_710 : Cond.instanceMethod y_Deaths_takeBack ∈ nz_gd := nz_gm (List.mem_of_getElem? (i := 802) (by decide +kernel)) rfl
theorem k_711 : Cond.selects R_Deaths y_Deaths_takeBack y_Deaths_takeBack ∈ nz_gd := nz_gm (List.mem_of_getElem? (i := 803) (by decide +kernel)) rfl
theorem k_712 : Cond.code y_Deaths_takeBack b_Deaths_takeBack 2 (some .boolean) ∈ nz_gd := nz_gm (List.mem_of_getElem? (i := 804) (by decide +kernel)) rfl
theorem k_713 : Cond.methodLink R_law 42 y_NF_later ∈ nz_gd := nz_gm (List.mem_of_getElem? (i := 805) (by decide +kernel)) rfl
theorem k_714 : Cond.instanceMethod y_NF_later ∈ nz_gd := nz_gm (List.mem_of_getElem? (i := 806) (by decide +kernel)) rfl
theorem k_715 : Cond.selects R_NF y_NF_later y_NF_later ∈ nz_gd := nz_gm (List.mem_of_getElem? (i := 807) (by decide +kernel)) rfl
theorem k_716 : Cond.code y_NF_later b_NF_later 2 (some .int) ∈ nz_gd := nz_gm (List.mem_of_getElem? (i := 808) (by decide +kernel)) rfl
theorem k_717 : Cond.methodLink R_NF 127 y_Deaths_goOn ∈ nz_gd := nz_gm (List.mem_of_getElem? (i := 809) (by decide +kernel)) rfl
theorem k_718 : Cond.instanceMethod y_Deaths_goOn ∈ nz_gd := nz_gm (List.mem_of_getElem? (i := 810) (by decide +kernel)) rfl
theorem k_719 : Cond.selects R_Deaths y_Deaths_goOn y_Deaths_goOn ∈ nz_gd := nz_gm (List.mem_of_getElem? (i := 811) (by decide +kernel)) rfl
theorem k_720 : Cond.code y_Deaths_goOn b_Deaths_goOn 2 (some .int) ∈ nz_gd := nz_gm (List.mem_of_getElem? (i := 812) (by decide +kernel)) rfl
theorem k_721 : Cond.constant R_Deaths 31 (100000) ∈ nz_gd := nz_gm (List.mem_of_getElem? (i := 813) (by decide +kernel)) rfl
theorem k_722 : Cond.methodLink R_law 46 y_NF_alive ∈ nz_gd := nz_gm (List.mem_of_getElem? (i := 814) (by decide +kernel)) rfl
theorem k_723 : Cond.instanceMethod y_NF_alive ∈ nz_gd := nz_gm (List.mem_of_getElem? (i := 815) (by decide +kernel)) rfl
theorem k_724 : Cond.selects R_NF y_NF_alive y_NF_alive ∈ nz_gd := nz_gm (List.mem_of_getElem? (i := 816) (by decide +kernel)) rfl
theorem k_725 : Cond.code y_NF_alive b_NF_alive 4 (some .int) ∈ nz_gd := nz_gm (List.mem_of_getElem? (i := 817) (by decide +kernel)) rfl
theorem k_756 : Cond.methodLink R_law 51 y_NF_apart ∈ nz_gd := nz_gm (List.mem_of_getElem? (i := 848) (by decide +kernel)) rfl
theorem k_757 : Cond.instanceMethod y_NF_apart ∈ nz_gd := nz_gm (List.mem_of_getElem? (i := 849) (by decide +kernel)) rfl
theorem k_758 : Cond.selects R_NF y_NF_apart y_NF_apart ∈ nz_gd := nz_gm (List.mem_of_getElem? (i := 850) (by decide +kernel)) rfl
theorem k_759 : Cond.code y_NF_apart b_NF_apart 3 (some .int) ∈ nz_gd := nz_gm (List.mem_of_getElem? (i := 851) (by decide +kernel)) rfl
theorem k_760 : Cond.methodLink R_NF 138 y_NF_isWord ∈ nz_gd := nz_gm (List.mem_of_getElem? (i := 852) (by decide +kernel)) rfl
theorem k_762 : Cond.instanceMethod y_NF_isWord ∈ nz_gd := nz_gm (List.mem_of_getElem? (i := 854) (by decide +kernel)) rfl
theorem k_763 : Cond.code y_NF_isWord b_NF_isWord 2 (some .boolean) ∈ nz_gd := nz_gm (List.mem_of_getElem? (i := 855) (by decide +kernel)) rfl
theorem k_765 : Cond.methodLink R_law 55 y_NF_near ∈ nz_gd := nz_gm (List.mem_of_getElem? (i := 857) (by decide +kernel)) rfl
theorem k_766 : Cond.instanceMethod y_NF_near ∈ nz_gd := nz_gm (List.mem_of_getElem? (i := 858) (by decide +kernel)) rfl
theorem k_767 : Cond.selects R_NF y_NF_near y_NF_near ∈ nz_gd := nz_gm (List.mem_of_getElem? (i := 859) (by decide +kernel)) rfl
theorem k_768 : Cond.code y_NF_near b_NF_near 3 (some .int) ∈ nz_gd := nz_gm (List.mem_of_getElem? (i := 860) (by decide +kernel)) rfl
theorem k_770 : Cond.methodLink R_law 59 y_NF_may ∈ nz_gd := nz_gm (List.mem_of_getElem? (i := 862) (by decide +kernel)) rfl
theorem k_771 : Cond.instanceMethod y_NF_may ∈ nz_gd := nz_gm (List.mem_of_getElem? (i := 863) (by decide +kernel)) rfl
theorem k_772 : Cond.selects R_NF y_NF_may y_NF_may ∈ nz_gd := nz_gm (List.mem_of_getElem? (i := 864) (by decide +kernel)) rfl
theorem k_773 : Cond.code y_NF_may b_NF_may 6 (some .int) ∈ nz_gd := nz_gm (List.mem_of_getElem? (i := 865) (by decide +kernel)) rfl
theorem k_774 : Cond.methodLink R_NF 161 y_NF_canSpeak ∈ nz_gd := nz_gm (List.mem_of_getElem? (i := 866) (by decide +kernel)) rfl
theorem k_776 : Cond.instanceMethod y_NF_canSpeak ∈ nz_gd := nz_gm (List.mem_of_getElem? (i := 868) (by decide +kernel)) rfl
theorem k_777 : Cond.code y_NF_canSpeak b_NF_canSpeak 5 (some .boolean) ∈ nz_gd := nz_gm (List.mem_of_getElem? (i := 869) (by decide +kernel)) rfl
theorem k_796 : Cond.methodLink R_law 63 y_NF_judge ∈ nz_gd := nz_gm (List.mem_of_getElem? (i := 888) (by decide +kernel)) rfl
theorem k_797 : Cond.instanceMethod y_NF_judge ∈ nz_gd := nz_gm (List.mem_of_getElem? (i := 889) (by decide +kernel)) rfl
theorem k_798 : Cond.selects R_NF y_NF_judge y_NF_judge ∈ nz_gd := nz_gm (List.mem_of_getElem? (i := 890) (by decide +kernel)) rfl
theorem k_799 : Cond.code y_NF_judge b_NF_judge 6 (some .int) ∈ nz_gd := nz_gm (List.mem_of_getElem? (i := 891) (by decide +kernel)) rfl
theorem k_800 : Cond.constant R_NF 172 (33554431) ∈ nz_gd := nz_gm (List.mem_of_getElem? (i := 892) (by decide +kernel)) rfl
theorem k_805 : Cond.methodLink R_law 67 y_NF_instead ∈ nz_gd := nz_gm (List.mem_of_getElem? (i := 897) (by decide +kernel)) rfl
theorem k_806 : Cond.instanceMethod y_NF_instead ∈ nz_gd := nz_gm (List.mem_of_getElem? (i := 898) (by decide +kernel)) rfl
theorem k_807 : Cond.selects R_NF y_NF_instead y_NF_instead ∈ nz_gd := nz_gm (List.mem_of_getElem? (i := 899) (by decide +kernel)) rfl
theorem k_808 : Cond.code y_NF_instead b_NF_instead 6 (some .int) ∈ nz_gd := nz_gm (List.mem_of_getElem? (i := 900) (by decide +kernel)) rfl
theorem k_809 : Cond.methodLink R_NF 176 y_NF_isMeaning ∈ nz_gd := nz_gm (List.mem_of_getElem? (i := 901) (by decide +kernel)) rfl
theorem k_811 : Cond.instanceMethod y_NF_isMeaning ∈ nz_gd := nz_gm (List.mem_of_getElem? (i := 903) (by decide +kernel)) rfl
theorem k_812 : Cond.code y_NF_isMeaning b_NF_isMeaning 2 (some .boolean) ∈ nz_gd := nz_gm (List.mem_of_getElem? (i := 904) (by decide +kernel)) rfl
theorem k_838 : Cond.methodLink R_law 71 y_NF_cost ∈ nz_gd := nz_gm (List.mem_of_getElem? (i := 930) (by decide +kernel)) rfl
theorem k_839 : Cond.instanceMethod y_NF_cost ∈ nz_gd := nz_gm (List.mem_of_getElem? (i := 931) (by decide +kernel)) rfl
theorem k_840 : Cond.selects R_NF y_NF_cost y_NF_cost ∈ nz_gd := nz_gm (List.mem_of_getElem? (i := 932) (by decide +kernel)) rfl
theorem k_841 : Cond.code y_NF_cost b_NF_cost 6 (some .int) ∈ nz_gd := nz_gm (List.mem_of_getElem? (i := 933) (by decide +kernel)) rfl
theorem k_850 : Cond.methodLink R_law 75 y_NF_grasp ∈ nz_gd := nz_gm (List.mem_of_getElem? (i := 942) (by decide +kernel)) rfl
theorem k_851 : Cond.instanceMethod y_NF_grasp ∈ nz_gd := nz_gm (List.mem_of_getElem? (i := 943) (by decide +kernel)) rfl
theorem k_852 : Cond.selects R_NF y_NF_grasp y_NF_grasp ∈ nz_gd := nz_gm (List.mem_of_getElem? (i := 944) (by decide +kernel)) rfl
theorem k_853 : Cond.code y_NF_grasp b_NF_grasp 5 (some .int) ∈ nz_gd := nz_gm (List.mem_of_getElem? (i := 945) (by decide +kernel)) rfl
theorem k_863 : Cond.methodLink R_law 80 y_NF_today ∈ nz_gd := nz_gm (List.mem_of_getElem? (i := 955) (by decide +kernel)) rfl
theorem k_864 : Cond.instanceMethod y_NF_today ∈ nz_gd := nz_gm (List.mem_of_getElem? (i := 956) (by decide +kernel)) rfl
theorem k_865 : Cond.selects R_NF y_NF_today y_NF_today ∈ nz_gd := nz_gm (List.mem_of_getElem? (i := 957) (by decide +kernel)) rfl
theorem k_866 : Cond.code y_NF_today b_NF_today 5 (some .int) ∈ nz_gd := nz_gm (List.mem_of_getElem? (i := 958) (by decide +kernel)) rfl
theorem k_867 : Cond.methodLink R_NF 190 y_NF_isPlace ∈ nz_gd := nz_gm (List.mem_of_getElem? (i := 959) (by decide +kernel)) rfl
theorem k_869 : Cond.instanceMethod y_NF_isPlace ∈ nz_gd := nz_gm (List.mem_of_getElem? (i := 961) (by decide +kernel)) rfl
theorem k_870 : Cond.code y_NF_isPlace b_NF_isPlace 2 (some .boolean) ∈ nz_gd := nz_gm (List.mem_of_getElem? (i := 962) (by decide +kernel)) rfl
theorem k_880 : Cond.methodLink R_law 84 y_NF_parted ∈ nz_gd := nz_gm (List.mem_of_getElem? (i := 972) (by decide +kernel)) rfl
theorem k_881 : Cond.instanceMethod y_NF_parted ∈ nz_gd := nz_gm (List.mem_of_getElem? (i := 973) (by decide +kernel)) rfl
theorem k_882 : Cond.selects R_NF y_NF_parted y_NF_parted ∈ nz_gd := nz_gm (List.mem_of_getElem? (i := 974) (by decide +kernel)) rfl
theorem k_883 : Cond.code y_NF_parted b_NF_parted 11 (some .int) ∈ nz_gd := nz_gm (List.mem_of_getElem? (i := 975) (by decide +kernel)) rfl
theorem k_884 : Cond.methodLink R_law 88 y_NF_changes ∈ nz_gd := nz_gm (List.mem_of_getElem? (i := 976) (by decide +kernel)) rfl
theorem k_885 : Cond.instanceMethod y_NF_changes ∈ nz_gd := nz_gm (List.mem_of_getElem? (i := 977) (by decide +kernel)) rfl
theorem k_886 : Cond.selects R_NF y_NF_changes y_NF_changes ∈ nz_gd := nz_gm (List.mem_of_getElem? (i := 978) (by decide +kernel)) rfl
theorem k_887 : Cond.code y_NF_changes b_NF_changes 6 (some .int) ∈ nz_gd := nz_gm (List.mem_of_getElem? (i := 979) (by decide +kernel)) rfl
theorem k_896 : Cond.methodLink R_law 92 y_NF_renewed ∈ nz_gd := nz_gm (List.mem_of_getElem? (i := 988) (by decide +kernel)) rfl
theorem k_897 : Cond.instanceMethod y_NF_renewed ∈ nz_gd := nz_gm (List.mem_of_getElem? (i := 989) (by decide +kernel)) rfl
theorem k_898 : Cond.selects R_NF y_NF_renewed y_NF_renewed ∈ nz_gd := nz_gm (List.mem_of_getElem? (i := 990) (by decide +kernel)) rfl
theorem k_899 : Cond.code y_NF_renewed b_NF_renewed 8 (some .int) ∈ nz_gd := nz_gm (List.mem_of_getElem? (i := 991) (by decide +kernel)) rfl
theorem k_900 : Cond.methodLink R_law 96 y_NF_tell ∈ nz_gd := nz_gm (List.mem_of_getElem? (i := 992) (by decide +kernel)) rfl
theorem k_901 : Cond.instanceMethod y_NF_tell ∈ nz_gd := nz_gm (List.mem_of_getElem? (i := 993) (by decide +kernel)) rfl
theorem k_902 : Cond.selects R_NF y_NF_tell y_NF_tell ∈ nz_gd := nz_gm (List.mem_of_getElem? (i := 994) (by decide +kernel)) rfl
theorem k_903 : Cond.code y_NF_tell b_NF_tell 6 (some .int) ∈ nz_gd := nz_gm (List.mem_of_getElem? (i := 995) (by decide +kernel)) rfl
theorem k_917 : Cond.methodLink R_law 100 y_NF_told ∈ nz_gd := nz_gm (List.mem_of_getElem? (i := 1009) (by decide +kernel)) rfl
theorem k_918 : Cond.instanceMethod y_NF_told ∈ nz_gd := nz_gm (List.mem_of_getElem? (i := 1010) (by decide +kernel)) rfl
theorem k_919 : Cond.selects R_NF y_NF_told y_NF_told ∈ nz_gd := nz_gm (List.mem_of_getElem? (i := 1011) (by decide +kernel)) rfl
theorem k_920 : Cond.code y_NF_told b_NF_told 8 (some .int) ∈ nz_gd := nz_gm (List.mem_of_getElem? (i := 1012) (by decide +kernel)) rfl
theorem k_925 : Cond.methodLink R_law 105 y_NF_safe ∈ nz_gd := nz_gm (List.mem_of_getElem? (i := 1017) (by decide +kernel)) rfl
theorem k_926 : Cond.instanceMethod y_NF_safe ∈ nz_gd := nz_gm (List.mem_of_getElem? (i := 1018) (by decide +kernel)) rfl
theorem k_927 : Cond.selects R_NF y_NF_safe y_NF_safe ∈ nz_gd := nz_gm (List.mem_of_getElem? (i := 1019) (by decide +kernel)) rfl
theorem k_928 : Cond.code y_NF_safe b_NF_safe 6 (some .int) ∈ nz_gd := nz_gm (List.mem_of_getElem? (i := 1020) (by decide +kernel)) rfl
theorem k_930 : Cond.methodLink R_law 109 y_NF_hurt ∈ nz_gd := nz_gm (List.mem_of_getElem? (i := 1022) (by decide +kernel)) rfl
theorem k_931 : Cond.instanceMethod y_NF_hurt ∈ nz_gd := nz_gm (List.mem_of_getElem? (i := 1023) (by decide +kernel)) rfl
theorem k_932 : Cond.selects R_NF y_NF_hurt y_NF_hurt ∈ nz_gd := nz_gm (List.mem_of_getElem? (i := 1024) (by decide +kernel)) rfl
theorem k_933 : Cond.code y_NF_hurt b_NF_hurt 5 (some .int) ∈ nz_gd := nz_gm (List.mem_of_getElem? (i := 1025) (by decide +kernel)) rfl
theorem k_950 : Cond.methodLink R_law 113 y_NF_child ∈ nz_gd := nz_gm (List.mem_of_getElem? (i := 1042) (by decide +kernel)) rfl
theorem k_951 : Cond.instanceMethod y_NF_child ∈ nz_gd := nz_gm (List.mem_of_getElem? (i := 1043) (by decide +kernel)) rfl
theorem k_952 : Cond.selects R_NF y_NF_child y_NF_child ∈ nz_gd := nz_gm (List.mem_of_getElem? (i := 1044) (by decide +kernel)) rfl
theorem k_953 : Cond.code y_NF_child b_NF_child 9 (some .int) ∈ nz_gd := nz_gm (List.mem_of_getElem? (i := 1045) (by decide +kernel)) rfl
theorem k_954 : Cond.methodLink R_law 117 y_NF_mean ∈ nz_gd := nz_gm (List.mem_of_getElem? (i := 1046) (by decide +kernel)) rfl
theorem k_955 : Cond.instanceMethod y_NF_mean ∈ nz_gd := nz_gm (List.mem_of_getElem? (i := 1047) (by decide +kernel)) rfl
theorem k_956 : Cond.selects R_NF y_NF_mean y_NF_mean ∈ nz_gd := nz_gm (List.mem_of_getElem? (i := 1048) (by decide +kernel)) rfl
theorem k_957 : Cond.code y_NF_mean b_NF_mean 7 (some .long) ∈ nz_gd := nz_gm (List.mem_of_getElem? (i := 1049) (by decide +kernel)) rfl
theorem k_958 : Cond.constantLong R_NF 242 (-1) ∈ nz_gd := nz_gm (List.mem_of_getElem? (i := 1050) (by decide +kernel)) rfl
theorem k_989 : Cond.methodLink R_law 122 y_NF_wish ∈ nz_gd := nz_gm (List.mem_of_getElem? (i := 1081) (by decide +kernel)) rfl
theorem k_990 : Cond.instanceMethod y_NF_wish ∈ nz_gd := nz_gm (List.mem_of_getElem? (i := 1082) (by decide +kernel)) rfl
theorem k_991 : Cond.selects R_NF y_NF_wish y_NF_wish ∈ nz_gd := nz_gm (List.mem_of_getElem? (i := 1083) (by decide +kernel)) rfl
theorem k_992 : Cond.code y_NF_wish b_NF_wish 9 (some .int) ∈ nz_gd := nz_gm (List.mem_of_getElem? (i := 1084) (by decide +kernel)) rfl
theorem k_999 : Cond.methodLink R_law 126 y_NF_old ∈ nz_gd := nz_gm (List.mem_of_getElem? (i := 1091) (by decide +kernel)) rfl
theorem k_1000 : Cond.instanceMethod y_NF_old ∈ nz_gd := nz_gm (List.mem_of_getElem? (i := 1092) (by decide +kernel)) rfl
theorem k_1001 : Cond.selects R_NF y_NF_old y_NF_old ∈ nz_gd := nz_gm (List.mem_of_getElem? (i := 1093) (by decide +kernel)) rfl
theorem k_1002 : Cond.code y_NF_old b_NF_old 4 (some .int) ∈ nz_gd := nz_gm (List.mem_of_getElem? (i := 1094) (by decide +kernel)) rfl
theorem k_1008 : Cond.methodLink R_law 130 y_NF_about ∈ nz_gd := nz_gm (List.mem_of_getElem? (i := 1100) (by decide +kernel)) rfl
theorem k_1009 : Cond.instanceMethod y_NF_about ∈ nz_gd := nz_gm (List.mem_of_getElem? (i := 1101) (by decide +kernel)) rfl
theorem k_1010 : Cond.selects R_NF y_NF_about y_NF_about ∈ nz_gd := nz_gm (List.mem_of_getElem? (i := 1102) (by decide +kernel)) rfl
theorem k_1011 : Cond.code y_NF_about b_NF_about 2 (some .int) ∈ nz_gd := nz_gm (List.mem_of_getElem? (i := 1103) (by decide +kernel)) rfl
theorem k_1012 : Cond.classLink R_law 10 R_Mo ∈ nz_gd := nz_gm (List.mem_of_getElem? (i := 1104) (by decide +kernel)) rfl
theorem k_1013 : Cond.instantiable R_Mo 55 ∈ nz_gd := nz_gm (List.mem_of_getElem? (i := 1105) (by decide +kernel)) rfl
theorem k_1014 : Cond.methodLink R_law 12 y_Mo_init ∈ nz_gd := nz_gm (List.mem_of_getElem? (i := 1106) (by decide +kernel)) rfl
theorem k_1015 : Cond.instanceMethod y_Mo_init ∈ nz_gd := nz_gm (List.mem_of_getElem? (i := 1107) (by decide +kernel)) rfl
theorem k_1016 : Cond.code y_Mo_init b_Mo_init 1 none ∈ nz_gd := nz_gm (List.mem_of_getElem? (i := 1108) (by decide +kernel)) rfl
theorem k_1017 : Cond.methodLink R_Mo 1 Lib.objectInit ∈ nz_gd := nz_gm (List.mem_of_getElem? (i := 1109) (by decide +kernel)) rfl
theorem k_1018 : Cond.fieldLink R_Mo 7 "NameFallModel" "tape" "[B" ∈ nz_gd := nz_gm (List.mem_of_getElem? (i := 1110) (by decide +kernel)) rfl
theorem k_1019 : Cond.fieldLink R_Mo 13 "NameFallModel" "text" "[B" ∈ nz_gd := nz_gm (List.mem_of_getElem? (i := 1111) (by decide +kernel)) rfl
theorem k_1020 : Cond.fieldLink R_Mo 237 "NameFallModel" "taped" "I" ∈ nz_gd := nz_gm (List.mem_of_getElem? (i := 1112) (by decide +kernel)) rfl
theorem k_1021 : Cond.fieldLink R_Mo 142 "NameFallModel" "size" "I" ∈ nz_gd := nz_gm (List.mem_of_getElem? (i := 1113) (by decide +kernel)) rfl
theorem k_1022 : Cond.fieldLink R_Mo 145 "NameFallModel" "faultKind" "I" ∈ nz_gd := nz_gm (List.mem_of_getElem? (i := 1114) (by decide +kernel)) rfl
theorem k_1023 : Cond.fieldLink R_Mo 16 "NameFallModel" "faultPlace" "I" ∈ nz_gd := nz_gm (List.mem_of_getElem? (i := 1115) (by decide +kernel)) rfl
theorem k_1024 : Cond.fieldLink R_Mo 195 "NameFallModel" "at" "I" ∈ nz_gd := nz_gm (List.mem_of_getElem? (i := 1116) (by decide +kernel)) rfl
theorem k_1025 : Cond.fieldLink R_Mo 192 "NameFallModel" "end" "I" ∈ nz_gd := nz_gm (List.mem_of_getElem? (i := 1117) (by decide +kernel)) rfl
theorem k_1026 : Cond.fieldLink R_Mo 202 "NameFallModel" "token" "I" ∈ nz_gd := nz_gm (List.mem_of_getElem? (i := 1118) (by decide +kernel)) rfl
theorem k_1029 : Cond.fieldLink R_Mo 20 "NameFallModel" "places" "[I" ∈ nz_gd := nz_gm (List.mem_of_getElem? (i := 1121) (by decide +kernel)) rfl
theorem k_1030 : Cond.fieldLink R_Mo 24 "NameFallModel" "meanings" "[I" ∈ nz_gd := nz_gm (List.mem_of_getElem? (i := 1122) (by decide +kernel)) rfl
theorem k_1031 : Cond.fieldLink R_Mo 27 "NameFallModel" "words" "[I" ∈ nz_gd := nz_gm (List.mem_of_getElem? (i := 1123) (by decide +kernel)) rfl
theorem k_1032 : Cond.fieldLink R_Mo 30 "NameFallModel" "turns" "[I" ∈ nz_gd := nz_gm (List.mem_of_getElem? (i := 1124) (by decide +kernel)) rfl
theorem k_1033 : Cond.fieldLink R_Mo 33 "NameFallModel" "persons" "[I" ∈ nz_gd := nz_gm (List.mem_of_getElem? (i := 1125) (by decide +kernel)) rfl
theorem k_1034 : Cond.fieldLink R_Mo 36 "NameFallModel" "talks" "[I" ∈ nz_gd := nz_gm (List.mem_of_getElem? (i := 1126) (by decide +kernel)) rfl
theorem k_1035 : Cond.fieldLink R_Mo 39 "NameFallModel" "lines" "[I" ∈ nz_gd := nz_gm (List.mem_of_getElem? (i := 1127) (by decide +kernel)) rfl
theorem k_1036 : Cond.fieldLink R_Mo 42 "NameFallModel" "pName" "[J" ∈ nz_gd := nz_gm (List.mem_of_getElem? (i := 1128) (by decide +kernel)) rfl
theorem k_1037 : Cond.fieldLink R_Mo 46 "NameFallModel" "mName" "[J" ∈ nz_gd := nz_gm (List.mem_of_getElem? (i := 1129) (by decide +kernel)) rfl
theorem k_1038 : Cond.fieldLink R_Mo 49 "NameFallModel" "wName" "[J" ∈ nz_gd := nz_gm (List.mem_of_getElem? (i := 1130) (by decide +kernel)) rfl
theorem k_1039 : Cond.fieldLink R_Mo 52 "NameFallModel" "hName" "[J" ∈ nz_gd := nz_gm (List.mem_of_getElem? (i := 1131) (by decide +kernel)) rfl
theorem k_1040 : Cond.fieldLink R_Mo 55 "NameFallModel" "called" "[J" ∈ nz_gd := nz_gm (List.mem_of_getElem? (i := 1132) (by decide +kernel)) rfl
theorem k_1041 : Cond.fieldLink R_Mo 58 "NameFallModel" "custom" "[I" ∈ nz_gd := nz_gm (List.mem_of_getElem? (i := 1133) (by decide +kernel)) rfl
theorem k_1042 : Cond.fieldLink R_Mo 61 "NameFallModel" "alike" "[I" ∈ nz_gd := nz_gm (List.mem_of_getElem? (i := 1134) (by decide +kernel)) rfl
theorem k_1043 : Cond.fieldLink R_Mo 64 "NameFallModel" "near" "[I" ∈ nz_gd := nz_gm (List.mem_of_getElem? (i := 1135) (by decide +kernel)) rfl
theorem k_1044 : Cond.fieldLink R_Mo 67 "NameFallModel" "lasts" "[I" ∈ nz_gd := nz_gm (List.mem_of_getElem? (i := 1136) (by decide +kernel)) rfl
theorem k_1045 : Cond.fieldLink R_Mo 70 "NameFallModel" "back" "[I" ∈ nz_gd := nz_gm (List.mem_of_getElem? (i := 1137) (by decide +kernel)) rfl
theorem k_1046 : Cond.fieldLink R_Mo 73 "NameFallModel" "wMeaning" "[I" ∈ nz_gd := nz_gm (List.mem_of_getElem? (i := 1138) (by decide +kernel)) rfl
theorem k_1047 : Cond.fieldLink R_Mo 76 "NameFallModel" "wPlaces" "[I" ∈ nz_gd := nz_gm (List.mem_of_getElem? (i := 1139) (by decide +kernel)) rfl
theorem k_1048 : Cond.fieldLink R_Mo 79 "NameFallModel" "turnOf" "[I" ∈ nz_gd := nz_gm (List.mem_of_getElem? (i := 1140) (by decide +kernel)) rfl
theorem k_1049 : Cond.fieldLink R_Mo 82 "NameFallModel" "turnOne" "[I" ∈ nz_gd := nz_gm (List.mem_of_getElem? (i := 1141) (by decide +kernel)) rfl
theorem k_1050 : Cond.fieldLink R_Mo 85 "NameFallModel" "turnTwo" "[I" ∈ nz_gd := nz_gm (List.mem_of_getElem? (i := 1142) (by decide +kernel)) rfl
theorem k_1051 : Cond.fieldLink R_Mo 88 "NameFallModel" "home" "[I" ∈ nz_gd := nz_gm (List.mem_of_getElem? (i := 1143) (by decide +kernel)) rfl
theorem k_1052 : Cond.fieldLink R_Mo 91 "NameFallModel" "born" "[I" ∈ nz_gd := nz_gm (List.mem_of_getElem? (i := 1144) (by decide +kernel)) rfl
theorem k_1053 : Cond.fieldLink R_Mo 94 "NameFallModel" "parentOne" "[I" ∈ nz_gd := nz_gm (List.mem_of_getElem? (i := 1145) (by decide +kernel)) rfl
theorem k_1054 : Cond.fieldLink R_Mo 97 "NameFallModel" "parentTwo" "[I" ∈ nz_gd := nz_gm (List.mem_of_getElem? (i := 1146) (by decide +kernel)) rfl
theorem k_1055 : Cond.fieldLink R_Mo 100 "NameFallModel" "talkOne" "[I" ∈ nz_gd := nz_gm (List.mem_of_getElem? (i := 1147) (by decide +kernel)) rfl
theorem k_1056 : Cond.fieldLink R_Mo 103 "NameFallModel" "talkTwo" "[I" ∈ nz_gd := nz_gm (List.mem_of_getElem? (i := 1148) (by decide +kernel)) rfl
theorem k_1057 : Cond.fieldLink R_Mo 240 "NameFallModel" "bank" "I" ∈ nz_gd := nz_gm (List.mem_of_getElem? (i := 1149) (by decide +kernel)) rfl
theorem k_1058 : Cond.fieldLink R_Mo 243 "NameFallModel" "rb" "I" ∈ nz_gd := nz_gm (List.mem_of_getElem? (i := 1150) (by decide +kernel)) rfl
theorem k_1059 : Cond.fieldLink R_Mo 106 "NameFallModel" "dPerson" "[I" ∈ nz_gd := nz_gm (List.mem_of_getElem? (i := 1151) (by decide +kernel)) rfl
theorem k_1060 : Cond.fieldLink R_Mo 109 "NameFallModel" "dYear" "[I" ∈ nz_gd := nz_gm (List.mem_of_getElem? (i := 1152) (by decide +kernel)) rfl
theorem k_1061 : Cond.fieldLink R_Mo 112 "NameFallModel" "dTold" "[I" ∈ nz_gd := nz_gm (List.mem_of_getElem? (i := 1153) (by decide +kernel)) rfl
theorem k_1062 : Cond.fieldLink R_Mo 115 "NameFallModel" "dUntold" "[I" ∈ nz_gd := nz_gm (List.mem_of_getElem? (i := 1154) (by decide +kernel)) rfl
theorem k_1063 : Cond.fieldLink R_Mo 249 "NameFallModel" "deaths" "I" ∈ nz_gd := nz_gm (List.mem_of_getElem? (i := 1155) (by decide +kernel)) rfl
theorem k_1064 : Cond.fieldLink R_Mo 318 "NameFallModel" "time" "I" ∈ nz_gd := nz_gm (List.mem_of_getElem? (i := 1156) (by decide +kernel)) rfl
theorem k_1065 : Cond.fieldLink R_Mo 118 "NameFallModel" "died" "[I" ∈ nz_gd := nz_gm (List.mem_of_getElem? (i := 1157) (by decide +kernel)) rfl
theorem k_1066 : Cond.fieldLink R_Mo 121 "NameFallModel" "steps" "[I" ∈ nz_gd := nz_gm (List.mem_of_getElem? (i := 1158) (by decide +kernel)) rfl
theorem k_1067 : Cond.fieldLink R_Mo 124 "NameFallModel" "ways" "[I" ∈ nz_gd := nz_gm (List.mem_of_getElem? (i := 1159) (by decide +kernel)) rfl
theorem k_1068 : Cond.fieldLink R_Mo 127 "NameFallModel" "costs" "[I" ∈ nz_gd := nz_gm (List.mem_of_getElem? (i := 1160) (by decide +kernel)) rfl
theorem k_1069 : Cond.fieldLink R_Mo 130 "NameFallModel" "foundFrom" "[I" ∈ nz_gd := nz_gm (List.mem_of_getElem? (i := 1161) (by decide +kernel)) rfl
theorem k_1070 : Cond.fieldLink R_Mo 133 "NameFallModel" "line" "[I" ∈ nz_gd := nz_gm (List.mem_of_getElem? (i := 1162) (by decide +kernel)) rfl
theorem k_1071 : Cond.fieldLink R_Mo 136 "NameFallModel" "way" "[I" ∈ nz_gd := nz_gm (List.mem_of_getElem? (i := 1163) (by decide +kernel)) rfl
theorem k_1072 : Cond.fieldLink R_Mo 139 "NameFallModel" "living" "[I" ∈ nz_gd := nz_gm (List.mem_of_getElem? (i := 1164) (by decide +kernel)) rfl
theorem k_1184 : Cond.methodLink R_law 27 y_Mo_land ∈ nz_gd := nz_gm (List.mem_of_getElem? (i := 1276) (by decide +kernel)) rfl
theorem k_1185 : Cond.instanceMethod y_Mo_land ∈ nz_gd := nz_gm (List.mem_of_getElem? (i := 1277) (by decide +kernel)) rfl
theorem k_1186 : Cond.selects R_Mo y_Mo_land y_Mo_land ∈ nz_gd := nz_gm (List.mem_of_getElem? (i := 1278) (by decide +kernel)) rfl
theorem k_1187 : Cond.code y_Mo_land b_Mo_land 2 (some .int) ∈ nz_gd := nz_gm (List.mem_of_getElem? (i := 1279) (by decide +kernel)) rfl
theorem k_1188 : Cond.methodLink R_Mo 231 y_Mo_goOn ∈ nz_gd := nz_gm (List.mem_of_getElem? (i := 1280) (by decide +kernel)) rfl
theorem k_1190 : Cond.instanceMethod y_Mo_goOn ∈ nz_gd := nz_gm (List.mem_of_getElem? (i := 1282) (by decide +kernel)) rfl
theorem k_1191 : Cond.code y_Mo_goOn b_Mo_goOn 3 none ∈ nz_gd := nz_gm (List.mem_of_getElem? (i := 1283) (by decide +kernel)) rfl
theorem k_1192 : Cond.methodLink R_Mo 198 y_Mo_sign ∈ nz_gd := nz_gm (List.mem_of_getElem? (i := 1284) (by decide +kernel)) rfl
theorem k_1194 : Cond.instanceMethod y_Mo_sign ∈ nz_gd := nz_gm (List.mem_of_getElem? (i := 1286) (by decide +kernel)) rfl
theorem k_1195 : Cond.code y_Mo_sign b_Mo_sign 2 (some .int) ∈ nz_gd := nz_gm (List.mem_of_getElem? (i := 1287) (by decide +kernel)) rfl
theorem k_1227 : Cond.methodLink R_Mo 227 y_Mo_isGood ∈ nz_gd := nz_gm (List.mem_of_getElem? (i := 1319) (by decide +kernel)) rfl
theorem k_1229 : Cond.instanceMethod y_Mo_isGood ∈ nz_gd := nz_gm (List.mem_of_getElem? (i := 1321) (by decide +kernel)) rfl
theorem k_1230 : Cond.code y_Mo_isGood b_Mo_isGood 1 (some .boolean) ∈ nz_gd := nz_gm (List.mem_of_getElem? (i := 1322) (by decide +kernel)) rfl
theorem k_1303 : Cond.methodLink R_Mo 252 y_Mo_layNear ∈ nz_gd := nz_gm (List.mem_of_getElem? (i := 1395) (by decide +kernel)) rfl
theorem k_1305 : Cond.instanceMethod y_Mo_layNear ∈ nz_gd := nz_gm (List.mem_of_getElem? (i := 1397) (by decide +kernel)) rfl
theorem k_1306 : Cond.code y_Mo_layNear b_Mo_layNear 5 none ∈ nz_gd := nz_gm (List.mem_of_getElem? (i := 1398) (by decide +kernel)) rfl
theorem k_1314 : Cond.methodLink R_law 31 y_Mo_fault ∈ nz_gd := nz_gm (List.mem_of_getElem? (i := 1406) (by decide +kernel)) rfl
theorem k_1315 : Cond.instanceMethod y_Mo_fault ∈ nz_gd := nz_gm (List.mem_of_getElem? (i := 1407) (by decide +kernel)) rfl
theorem k_1316 : Cond.selects R_Mo y_Mo_fault y_Mo_fault ∈ nz_gd := nz_gm (List.mem_of_getElem? (i := 1408) (by decide +kernel)) rfl
theorem k_1317 : Cond.code y_Mo_fault b_Mo_fault 2 (some .int) ∈ nz_gd := nz_gm (List.mem_of_getElem? (i := 1409) (by decide +kernel)) rfl
theorem k_1318 : Cond.methodLink R_law 36 y_Mo_die ∈ nz_gd := nz_gm (List.mem_of_getElem? (i := 1410) (by decide +kernel)) rfl
theorem k_1319 : Cond.instanceMethod y_Mo_die ∈ nz_gd := nz_gm (List.mem_of_getElem? (i := 1411) (by decide +kernel)) rfl
theorem k_1320 : Cond.selects R_Mo y_Mo_die y_Mo_die ∈ nz_gd := nz_gm (List.mem_of_getElem? (i := 1412) (by decide +kernel)) rfl
theorem k_1321 : Cond.code y_Mo_die b_Mo_die 3 (some .int) ∈ nz_gd := nz_gm (List.mem_of_getElem? (i := 1413) (by decide +kernel)) rfl
theorem k_1322 : Cond.methodLink R_Mo 309 y_Mo_isPerson ∈ nz_gd := nz_gm (List.mem_of_getElem? (i := 1414) (by decide +kernel)) rfl
theorem k_1324 : Cond.instanceMethod y_Mo_isPerson ∈ nz_gd := nz_gm (List.mem_of_getElem? (i := 1416) (by decide +kernel)) rfl
theorem k_1325 : Cond.code y_Mo_isPerson b_Mo_isPerson 2 (some .boolean) ∈ nz_gd := nz_gm (List.mem_of_getElem? (i := 1417) (by decide +kernel)) rfl
theorem k_1326 : Cond.methodLink R_Mo 305 y_Mo_isIn ∈ nz_gd := nz_gm (List.mem_of_getElem? (i := 1418) (by decide +kernel)) rfl
theorem k_1327 : Cond.static y_Mo_isIn ∈ nz_gd := nz_gm (List.mem_of_getElem? (i := 1419) (by decide +kernel)) rfl
theorem k_1328 : Cond.code y_Mo_isIn b_Mo_isIn 3 (some .boolean) ∈ nz_gd := nz_gm (List.mem_of_getElem? (i := 1420) (by decide +kernel)) rfl
theorem k_1336 : Cond.methodLink R_law 41 y_Mo_untell ∈ nz_gd := nz_gm (List.mem_of_getElem? (i := 1428) (by decide +kernel)) rfl
theorem k_1337 : Cond.instanceMethod y_Mo_untell ∈ nz_gd := nz_gm (List.mem_of_getElem? (i := 1429) (by decide +kernel)) rfl
theorem k_1338 : Cond.selects R_Mo y_Mo_untell y_Mo_untell ∈ nz_gd := nz_gm (List.mem_of_getElem? (i := 1430) (by decide +kernel)) rfl
theorem k_1339 : Cond.code y_Mo_untell b_Mo_untell 2 (some .boolean) ∈ nz_gd := nz_gm (List.mem_of_getElem? (i := 1431) (by decide +kernel)) rfl
theorem k_1340 : Cond.methodLink R_law 45 y_Mo_later ∈ nz_gd := nz_gm (List.mem_of_getElem? (i := 1432) (by decide +kernel)) rfl
theorem k_1341 : Cond.instanceMethod y_Mo_later ∈ nz_gd := nz_gm (List.mem_of_getElem? (i := 1433) (by decide +kernel)) rfl
theorem k_1342 : Cond.selects R_Mo y_Mo_later y_Mo_later ∈ nz_gd := nz_gm (List.mem_of_getElem? (i := 1434) (by decide +kernel)) rfl
theorem k_1343 : Cond.code y_Mo_later b_Mo_later 2 (some .int) ∈ nz_gd := nz_gm (List.mem_of_getElem? (i := 1435) (by decide +kernel)) rfl
theorem k_1344 : Cond.constant R_Mo 321 (100000) ∈ nz_gd := nz_gm (List.mem_of_getElem? (i := 1436) (by decide +kernel)) rfl
theorem k_1345 : Cond.methodLink R_law 50 y_Mo_alive ∈ nz_gd := nz_gm (List.mem_of_getElem? (i := 1437) (by decide +kernel)) rfl
theorem k_1346 : Cond.instanceMethod y_Mo_alive ∈ nz_gd := nz_gm (List.mem_of_getElem? (i := 1438) (by decide +kernel)) rfl
theorem k_1347 : Cond.selects R_Mo y_Mo_alive y_Mo_alive ∈ nz_gd := nz_gm (List.mem_of_getElem? (i := 1439) (by decide +kernel)) rfl
theorem k_1348 : Cond.code y_Mo_alive b_Mo_alive 4 (some .int) ∈ nz_gd := nz_gm (List.mem_of_getElem? (i := 1440) (by decide +kernel)) rfl
theorem k_1357 : Cond.methodLink R_law 54 y_Mo_apart ∈ nz_gd := nz_gm (List.mem_of_getElem? (i := 1449) (by decide +kernel)) rfl
theorem k_1358 : Cond.instanceMethod y_Mo_apart ∈ nz_gd := nz_gm (List.mem_of_getElem? (i := 1450) (by decide +kernel)) rfl
theorem k_1359 : Cond.selects R_Mo y_Mo_apart y_Mo_apart ∈ nz_gd := nz_gm (List.mem_of_getElem? (i := 1451) (by decide +kernel)) rfl
theorem k_1360 : Cond.code y_Mo_apart b_Mo_apart 3 (some .int) ∈ nz_gd := nz_gm (List.mem_of_getElem? (i := 1452) (by decide +kernel)) rfl
theorem k_1361 : Cond.methodLink R_Mo 339 y_Mo_isWordNo ∈ nz_gd := nz_gm (List.mem_of_getElem? (i := 1453) (by decide +kernel)) rfl
theorem k_1363 : Cond.instanceMethod y_Mo_isWordNo ∈ nz_gd := nz_gm (List.mem_of_getElem? (i := 1455) (by decide +kernel)) rfl
theorem k_1364 : Cond.code y_Mo_isWordNo b_Mo_isWordNo 2 (some .boolean) ∈ nz_gd := nz_gm (List.mem_of_getElem? (i := 1456) (by decide +kernel)) rfl
theorem k_1381 : Cond.methodLink R_law 58 y_Mo_near ∈ nz_gd := nz_gm (List.mem_of_getElem? (i := 1473) (by decide +kernel)) rfl
theorem k_1382 : Cond.instanceMethod y_Mo_near ∈ nz_gd := nz_gm (List.mem_of_getElem? (i := 1474) (by decide +kernel)) rfl
theorem k_1383 : Cond.selects R_Mo y_Mo_near y_Mo_near ∈ nz_gd := nz_gm (List.mem_of_getElem? (i := 1475) (by decide +kernel)) rfl
theorem k_1384 : Cond.code y_Mo_near b_Mo_near 3 (some .int) ∈ nz_gd := nz_gm (List.mem_of_getElem? (i := 1476) (by decide +kernel)) rfl
theorem k_1385 : Cond.methodLink R_law 62 y_Mo_may ∈ nz_gd := nz_gm (List.mem_of_getElem? (i := 1477) (by decide +kernel)) rfl
theorem k_1386 : Cond.instanceMethod y_Mo_may ∈ nz_gd := nz_gm (List.mem_of_getElem? (i := 1478) (by decide +kernel)) rfl
theorem k_1387 : Cond.selects R_Mo y_Mo_may y_Mo_may ∈ nz_gd := nz_gm (List.mem_of_getElem? (i := 1479) (by decide +kernel)) rfl
theorem k_1388 : Cond.code y_Mo_may b_Mo_may 6 (some .int) ∈ nz_gd := nz_gm (List.mem_of_getElem? (i := 1480) (by decide +kernel)) rfl
theorem k_1389 : Cond.methodLink R_Mo 370 y_Mo_speak ∈ nz_gd := nz_gm (List.mem_of_getElem? (i := 1481) (by decide +kernel)) rfl
theorem k_1391 : Cond.instanceMethod y_Mo_speak ∈ nz_gd := nz_gm (List.mem_of_getElem? (i := 1483) (by decide +kernel)) rfl
theorem k_1392 : Cond.code y_Mo_speak b_Mo_speak 5 (some .boolean) ∈ nz_gd := nz_gm (List.mem_of_getElem? (i := 1484) (by decide +kernel)) rfl
theorem k_1417 : Cond.methodLink R_law 66 y_Mo_judge ∈ nz_gd := nz_gm (List.mem_of_getElem? (i := 1509) (by decide +kernel)) rfl
theorem k_1418 : Cond.instanceMethod y_Mo_judge ∈ nz_gd := nz_gm (List.mem_of_getElem? (i := 1510) (by decide +kernel)) rfl
theorem k_1419 : Cond.selects R_Mo y_Mo_judge y_Mo_judge ∈ nz_gd := nz_gm (List.mem_of_getElem? (i := 1511) (by decide +kernel)) rfl
theorem k_1420 : Cond.code y_Mo_judge b_Mo_judge 8 (some .int) ∈ nz_gd := nz_gm (List.mem_of_getElem? (i := 1512) (by decide +kernel)) rfl
theorem k_1421 : Cond.constant R_Mo 377 (33554432) ∈ nz_gd := nz_gm (List.mem_of_getElem? (i := 1513) (by decide +kernel)) rfl
theorem k_1422 : Cond.methodLink R_law 70 y_Mo_instead ∈ nz_gd := nz_gm (List.mem_of_getElem? (i := 1514) (by decide +kernel)) rfl
theorem k_1423 : Cond.instanceMethod y_Mo_instead ∈ nz_gd := nz_gm (List.mem_of_getElem? (i := 1515) (by decide +kernel)) rfl
theorem k_1424 : Cond.selects R_Mo y_Mo_instead y_Mo_instead ∈ nz_gd := nz_gm (List.mem_of_getElem? (i := 1516) (by decide +kernel)) rfl
theorem k_1425 : Cond.code y_Mo_instead b_Mo_instead 6 (some .int) ∈ nz_gd := nz_gm (List.mem_of_getElem? (i := 1517) (by decide +kernel)) rfl
theorem k_1426 : Cond.methodLink R_Mo 388 y_Mo_isMeaning ∈ nz_gd := nz_gm (List.mem_of_getElem? (i := 1518) (by decide +kernel)) rfl
theorem k_1428 : Cond.instanceMethod y_Mo_isMeaning ∈ nz_gd := nz_gm (List.mem_of_getElem? (i := 1520) (by decide +kernel)) rfl
theorem k_1429 : Cond.code y_Mo_isMeaning b_Mo_isMeaning 2 (some .boolean) ∈ nz_gd := nz_gm (List.mem_of_getElem? (i := 1521) (by decide +kernel)) rfl
theorem k_1446 : Cond.methodLink R_law 74 y_Mo_cost ∈ nz_gd := nz_gm (List.mem_of_getElem? (i := 1538) (by decide +kernel)) rfl
theorem k_1447 : Cond.instanceMethod y_Mo_cost ∈ nz_gd := nz_gm (List.mem_of_getElem? (i := 1539) (by decide +kernel)) rfl
theorem k_1448 : Cond.selects R_Mo y_Mo_cost y_Mo_cost ∈ nz_gd := nz_gm (List.mem_of_getElem? (i := 1540) (by decide +kernel)) rfl
theorem k_1449 : Cond.code y_Mo_cost b_Mo_cost 11 (some .int) ∈ nz_gd := nz_gm (List.mem_of_getElem? (i := 1541) (by decide +kernel)) rfl
theorem k_1450 : Cond.methodLink R_law 79 y_Mo_grasp ∈ nz_gd := nz_gm (List.mem_of_getElem? (i := 1542) (by decide +kernel)) rfl
theorem k_1451 : Cond.instanceMethod y_Mo_grasp ∈ nz_gd := nz_gm (List.mem_of_getElem? (i := 1543) (by decide +kernel)) rfl
theorem k_1452 : Cond.selects R_Mo y_Mo_grasp y_Mo_grasp ∈ nz_gd := nz_gm (List.mem_of_getElem? (i := 1544) (by decide +kernel)) rfl
theorem k_1453 : Cond.code y_Mo_grasp b_Mo_grasp 5 (some .int) ∈ nz_gd := nz_gm (List.mem_of_getElem? (i := 1545) (by decide +kernel)) rfl
theorem k_1458 : Cond.methodLink R_law 83 y_Mo_today ∈ nz_gd := nz_gm (List.mem_of_getElem? (i := 1550) (by decide +kernel)) rfl
theorem k_1459 : Cond.instanceMethod y_Mo_today ∈ nz_gd := nz_gm (List.mem_of_getElem? (i := 1551) (by decide +kernel)) rfl
theorem k_1460 : Cond.selects R_Mo y_Mo_today y_Mo_today ∈ nz_gd := nz_gm (List.mem_of_getElem? (i := 1552) (by decide +kernel)) rfl
theorem k_1461 : Cond.code y_Mo_today b_Mo_today 5 (some .int) ∈ nz_gd := nz_gm (List.mem_of_getElem? (i := 1553) (by decide +kernel)) rfl
theorem k_1462 : Cond.methodLink R_Mo 402 y_Mo_isPlace ∈ nz_gd := nz_gm (List.mem_of_getElem? (i := 1554) (by decide +kernel)) rfl
theorem k_1464 : Cond.instanceMethod y_Mo_isPlace ∈ nz_gd := nz_gm (List.mem_of_getElem? (i := 1556) (by decide +kernel)) rfl
theorem k_1465 : Cond.code y_Mo_isPlace b_Mo_isPlace 2 (some .boolean) ∈ nz_gd := nz_gm (List.mem_of_getElem? (i := 1557) (by decide +kernel)) rfl
theorem k_1474 : Cond.methodLink R_law 87 y_Mo_parted ∈ nz_gd := nz_gm (List.mem_of_getElem? (i := 1566) (by decide +kernel)) rfl
theorem k_1475 : Cond.instanceMethod y_Mo_parted ∈ nz_gd := nz_gm (List.mem_of_getElem? (i := 1567) (by decide +kernel)) rfl
theorem k_1476 : Cond.selects R_Mo y_Mo_parted y_Mo_parted ∈ nz_gd := nz_gm (List.mem_of_getElem? (i := 1568) (by decide +kernel)) rfl
theorem k_1477 : Cond.code y_Mo_parted b_Mo_parted 7 (some .int) ∈ nz_gd := nz_gm (List.mem_of_getElem? (i := 1569) (by decide +kernel)) rfl
theorem k_1478 : Cond.methodLink R_law 91 y_Mo_changes ∈ nz_gd := nz_gm (List.mem_of_getElem? (i := 1570) (by decide +kernel)) rfl
theorem k_1479 : Cond.instanceMethod y_Mo_changes ∈ nz_gd := nz_gm (List.mem_of_getElem? (i := 1571) (by decide +kernel)) rfl
theorem k_1480 : Cond.selects R_Mo y_Mo_changes y_Mo_changes ∈ nz_gd := nz_gm (List.mem_of_getElem? (i := 1572) (by decide +kernel)) rfl
theorem k_1481 : Cond.code y_Mo_changes b_Mo_changes 6 (some .int) ∈ nz_gd := nz_gm (List.mem_of_getElem? (i := 1573) (by decide +kernel)) rfl
theorem k_1489 : Cond.methodLink R_law 95 y_Mo_renewed ∈ nz_gd := nz_gm (List.mem_of_getElem? (i := 1581) (by decide +kernel)) rfl
theorem k_1490 : Cond.instanceMethod y_Mo_renewed ∈ nz_gd := nz_gm (List.mem_of_getElem? (i := 1582) (by decide +kernel)) rfl
theorem k_1491 : Cond.selects R_Mo y_Mo_renewed y_Mo_renewed ∈ nz_gd := nz_gm (List.mem_of_getElem? (i := 1583) (by decide +kernel)) rfl
theorem k_1492 : Cond.code y_Mo_renewed b_Mo_renewed 9 (some .int) ∈ nz_gd := nz_gm (List.mem_of_getElem? (i := 1584) (by decide +kernel)) rfl
theorem k_1493 : Cond.methodLink R_law 99 y_Mo_tell ∈ nz_gd := nz_gm (List.mem_of_getElem? (i := 1585) (by decide +kernel)) rfl
theorem k_1494 : Cond.instanceMethod y_Mo_tell ∈ nz_gd := nz_gm (List.mem_of_getElem? (i := 1586) (by decide +kernel)) rfl
theorem k_1495 : Cond.selects R_Mo y_Mo_tell y_Mo_tell ∈ nz_gd := nz_gm (List.mem_of_getElem? (i := 1587) (by decide +kernel)) rfl
theorem k_1496 : Cond.code y_Mo_tell b_Mo_tell 6 (some .int) ∈ nz_gd := nz_gm (List.mem_of_getElem? (i := 1588) (by decide +kernel)) rfl
theorem k_1509 : Cond.methodLink R_law 104 y_Mo_told ∈ nz_gd := nz_gm (List.mem_of_getElem? (i := 1601) (by decide +kernel)) rfl
theorem k_1510 : Cond.instanceMethod y_Mo_told ∈ nz_gd := nz_gm (List.mem_of_getElem? (i := 1602) (by decide +kernel)) rfl
theorem k_1511 : Cond.selects R_Mo y_Mo_told y_Mo_told ∈ nz_gd := nz_gm (List.mem_of_getElem? (i := 1603) (by decide +kernel)) rfl
theorem k_1512 : Cond.code y_Mo_told b_Mo_told 8 (some .int) ∈ nz_gd := nz_gm (List.mem_of_getElem? (i := 1604) (by decide +kernel)) rfl
theorem k_1513 : Cond.methodLink R_Mo 423 y_Mo_tell ∈ nz_gd := nz_gm (List.mem_of_getElem? (i := 1605) (by decide +kernel)) rfl
theorem k_1514 : Cond.methodLink R_law 108 y_Mo_safe ∈ nz_gd := nz_gm (List.mem_of_getElem? (i := 1606) (by decide +kernel)) rfl
theorem k_1515 : Cond.instanceMethod y_Mo_safe ∈ nz_gd := nz_gm (List.mem_of_getElem? (i := 1607) (by decide +kernel)) rfl
theorem k_1516 : Cond.selects R_Mo y_Mo_safe y_Mo_safe ∈ nz_gd := nz_gm (List.mem_of_getElem? (i := 1608) (by decide +kernel)) rfl
theorem k_1517 : Cond.code y_Mo_safe b_Mo_safe 4 (some .int) ∈ nz_gd := nz_gm (List.mem_of_getElem? (i := 1609) (by decide +kernel)) rfl
theorem k_1518 : Cond.methodLink R_law 112 y_Mo_hurt ∈ nz_gd := nz_gm (List.mem_of_getElem? (i := 1610) (by decide +kernel)) rfl
theorem k_1519 : Cond.instanceMethod y_Mo_hurt ∈ nz_gd := nz_gm (List.mem_of_getElem? (i := 1611) (by decide +kernel)) rfl
theorem k_1520 : Cond.selects R_Mo y_Mo_hurt y_Mo_hurt ∈ nz_gd := nz_gm (List.mem_of_getElem? (i := 1612) (by decide +kernel)) rfl
theorem k_1521 : Cond.code y_Mo_hurt b_Mo_hurt 5 (some .int) ∈ nz_gd := nz_gm (List.mem_of_getElem? (i := 1613) (by decide +kernel)) rfl
theorem k_1526 : Cond.methodLink R_law 116 y_Mo_child ∈ nz_gd := nz_gm (List.mem_of_getElem? (i := 1618) (by decide +kernel)) rfl
theorem k_1527 : Cond.instanceMethod y_Mo_child ∈ nz_gd := nz_gm (List.mem_of_getElem? (i := 1619) (by decide +kernel)) rfl
theorem k_1528 : Cond.selects R_Mo y_Mo_child y_Mo_child ∈ nz_gd := nz_gm (List.mem_of_getElem? (i := 1620) (by decide +kernel)) rfl
theorem k_1529 : Cond.code y_Mo_child b_Mo_child 8 (some .int) ∈ nz_gd := nz_gm (List.mem_of_getElem? (i := 1621) (by decide +kernel)) rfl
theorem k_1530 : Cond.methodLink R_law 121 y_Mo_mean ∈ nz_gd := nz_gm (List.mem_of_getElem? (i := 1622) (by decide +kernel)) rfl
theorem k_1531 : Cond.instanceMethod y_Mo_mean ∈ nz_gd := nz_gm (List.mem_of_getElem? (i := 1623) (by decide +kernel)) rfl
theorem k_1532 : Cond.selects R_Mo y_Mo_mean y_Mo_mean ∈ nz_gd := nz_gm (List.mem_of_getElem? (i := 1624) (by decide +kernel)) rfl
theorem k_1533 : Cond.code y_Mo_mean b_Mo_mean 16 (some .long) ∈ nz_gd := nz_gm (List.mem_of_getElem? (i := 1625) (by decide +kernel)) rfl
theorem k_1534 : Cond.constantLong R_Mo 429 (-1) ∈ nz_gd := nz_gm (List.mem_of_getElem? (i := 1626) (by decide +kernel)) rfl
theorem k_1544 : Cond.methodLink R_law 125 y_Mo_wish ∈ nz_gd := nz_gm (List.mem_of_getElem? (i := 1636) (by decide +kernel)) rfl
theorem k_1545 : Cond.instanceMethod y_Mo_wish ∈ nz_gd := nz_gm (List.mem_of_getElem? (i := 1637) (by decide +kernel)) rfl
theorem k_1546 : Cond.selects R_Mo y_Mo_wish y_Mo_wish ∈ nz_gd := nz_gm (List.mem_of_getElem? (i := 1638) (by decide +kernel)) rfl
theorem k_1547 : Cond.code y_Mo_wish b_Mo_wish 12 (some .int) ∈ nz_gd := nz_gm (List.mem_of_getElem? (i := 1639) (by decide +kernel)) rfl
theorem k_1552 : Cond.methodLink R_law 129 y_Mo_old ∈ nz_gd := nz_gm (List.mem_of_getElem? (i := 1644) (by decide +kernel)) rfl
theorem k_1553 : Cond.instanceMethod y_Mo_old ∈ nz_gd := nz_gm (List.mem_of_getElem? (i := 1645) (by decide +kernel)) rfl
theorem k_1554 : Cond.selects R_Mo y_Mo_old y_Mo_old ∈ nz_gd := nz_gm (List.mem_of_getElem? (i := 1646) (by decide +kernel)) rfl
theorem k_1555 : Cond.code y_Mo_old b_Mo_old 6 (some .int) ∈ nz_gd := nz_gm (List.mem_of_getElem? (i := 1647) (by decide +kernel)) rfl
theorem k_1556 : Cond.methodLink R_law 133 y_Mo_about ∈ nz_gd := nz_gm (List.mem_of_getElem? (i := 1648) (by decide +kernel)) rfl
theorem k_1557 : Cond.instanceMethod y_Mo_about ∈ nz_gd := nz_gm (List.mem_of_getElem? (i := 1649) (by decide +kernel)) rfl
theorem k_1558 : Cond.selects R_Mo y_Mo_about y_Mo_about ∈ nz_gd := nz_gm (List.mem_of_getElem? (i := 1650) (by decide +kernel)) rfl
theorem k_1559 : Cond.code y_Mo_about b_Mo_about 2 (some .int) ∈ nz_gd := nz_gm (List.mem_of_getElem? (i := 1651) (by decide +kernel)) rfl
theorem k_1560 : Cond.methodLink R_law 17 y_Mo_feed ∈ nz_gd := nz_gm (List.mem_of_getElem? (i := 1652) (by decide +kernel)) rfl
theorem k_1561 : Cond.instanceMethod y_Mo_feed ∈ nz_gd := nz_gm (List.mem_of_getElem? (i := 1653) (by decide +kernel)) rfl
theorem k_1562 : Cond.selects R_Mo y_Mo_feed y_Mo_feed ∈ nz_gd := nz_gm (List.mem_of_getElem? (i := 1654) (by decide +kernel)) rfl
theorem k_1563 : Cond.code y_Mo_feed b_Mo_feed 8 (some .int) ∈ nz_gd := nz_gm (List.mem_of_getElem? (i := 1655) (by decide +kernel)) rfl
theorem k_1564 : Cond.methodLink R_law 22 y_Mo_end ∈ nz_gd := nz_gm (List.mem_of_getElem? (i := 1656) (by decide +kernel)) rfl
theorem k_1565 : Cond.instanceMethod y_Mo_end ∈ nz_gd := nz_gm (List.mem_of_getElem? (i := 1657) (by decide +kernel)) rfl
theorem k_1566 : Cond.selects R_Mo y_Mo_end y_Mo_end ∈ nz_gd := nz_gm (List.mem_of_getElem? (i := 1658) (by decide +kernel)) rfl
theorem k_1567 : Cond.code y_Mo_end b_Mo_end 2 (some .int) ∈ nz_gd := nz_gm (List.mem_of_getElem? (i := 1659) (by decide +kernel)) rfl
theorem k_1568 : Cond.fieldLink R_Str 9 "java/lang/String" "value" "[B" ∈ nz_gd := nz_gm (List.mem_of_getElem? (i := 1660) (by decide +kernel)) rfl
theorem k_1569 : Cond.fieldLink R_Str 15 "java/lang/String" "coder" "B" ∈ nz_gd := nz_gm (List.mem_of_getElem? (i := 1661) (by decide +kernel)) rfl
theorem s_0 : Cond.selects R_NF y_NF_putBytes y_NF_putBytes ∈ nz_gd := nz_gm (List.mem_of_getElem? (i := 0) (by decide +kernel)) rfl
theorem s_1 : Cond.selects R_Scanner y_Scanner_skipBlanks y_Scanner_skipBlanks ∈ nz_gd := nz_gm (List.mem_of_getElem? (i := 1) (by decide +kernel)) rfl
theorem s_22 : Cond.selects R_NF y_NF_isPerson y_NF_isPerson ∈ nz_gd := nz_gm (List.mem_of_getElem? (i := 22) (by decide +kernel)) rfl
theorem s_25 : Cond.selects R_NF y_NF_isWord y_NF_isWord ∈ nz_gd := nz_gm (List.mem_of_getElem? (i := 25) (by decide +kernel)) rfl
theorem s_26 : Cond.selects R_NF y_NF_canSpeak y_NF_canSpeak ∈ nz_gd := nz_gm (List.mem_of_getElem? (i := 26) (by decide +kernel)) rfl
theorem s_30 : Cond.selects R_NF y_NF_isMeaning y_NF_isMeaning ∈ nz_gd := nz_gm (List.mem_of_getElem? (i := 30) (by decide +kernel)) rfl
theorem s_32 : Cond.selects R_NF y_NF_isPlace y_NF_isPlace ∈ nz_gd := nz_gm (List.mem_of_getElem? (i := 32) (by decide +kernel)) rfl
theorem s_38 : Cond.selects R_Mo y_Mo_goOn y_Mo_goOn ∈ nz_gd := nz_gm (List.mem_of_getElem? (i := 38) (by decide +kernel)) rfl
theorem s_39 : Cond.selects R_Mo y_Mo_sign y_Mo_sign ∈ nz_gd := nz_gm (List.mem_of_getElem? (i := 39) (by decide +kernel)) rfl
theorem s_40 : Cond.selects R_Mo y_Mo_isGood y_Mo_isGood ∈ nz_gd := nz_gm (List.mem_of_getElem? (i := 40) (by decide +kernel)) rfl
theorem s_59 : Cond.selects R_Mo y_Mo_layNear y_Mo_layNear ∈ nz_gd := nz_gm (List.mem_of_getElem? (i := 59) (by decide +kernel)) rfl
theorem s_61 : Cond.selects R_Mo y_Mo_isPerson y_Mo_isPerson ∈ nz_gd := nz_gm (List.mem_of_getElem? (i := 61) (by decide +kernel)) rfl
theorem s_65 : Cond.selects R_Mo y_Mo_isWordNo y_Mo_isWordNo ∈ nz_gd := nz_gm (List.mem_of_getElem? (i := 65) (by decide +kernel)) rfl
theorem s_69 : Cond.selects R_Mo y_Mo_speak y_Mo_speak ∈ nz_gd := nz_gm (List.mem_of_getElem? (i := 69) (by decide +kernel)) rfl
theorem s_76 : Cond.selects R_Mo y_Mo_isMeaning y_Mo_isMeaning ∈ nz_gd := nz_gm (List.mem_of_getElem? (i := 76) (by decide +kernel)) rfl
theorem s_82 : Cond.selects R_Mo y_Mo_isPlace y_Mo_isPlace ∈ nz_gd := nz_gm (List.mem_of_getElem? (i := 82) (by decide +kernel)) rfl
theorem i_Chances : ∀ w ∈ u_ws R_Chances F_Chances 5, w ∈ nz_gd := by decide +kernel
theorem i_Deaths : ∀ w ∈ u_ws R_Deaths F_Deaths 6, w ∈ nz_gd := by decide +kernel
theorem i_Falls : ∀ w ∈ u_ws R_Falls F_Falls 7, w ∈ nz_gd := by decide +kernel
theorem i_Land : ∀ w ∈ u_ws R_Land F_Land 5, w ∈ nz_gd := by decide +kernel
theorem i_Meanings : ∀ w ∈ u_ws R_Meanings F_Meanings 6, w ∈ nz_gd := by decide +kernel
theorem i_Persons : ∀ w ∈ u_ws R_Persons F_Persons 11, w ∈ nz_gd := by decide +kernel
theorem i_Places : ∀ w ∈ u_ws R_Places F_Places 8, w ∈ nz_gd := by decide +kernel
theorem i_Reader : ∀ w ∈ u_ws R_Reader F_Reader 5, w ∈ nz_gd := by decide +kernel
theorem i_Scanner : ∀ w ∈ u_ws R_Scanner F_Scanner 9, w ∈ nz_gd := by decide +kernel
theorem i_Speech : ∀ w ∈ u_ws R_Speech F_Speech 5, w ∈ nz_gd := by decide +kernel
theorem i_Words : ∀ w ∈ u_ws R_Words F_Words 3, w ∈ nz_gd := by decide +kernel
theorem i_NF : ∀ w ∈ u_ws R_NF F_NF 11, w ∈ nz_gd := by decide +kernel
theorem i_Mo : ∀ w ∈ u_ws R_Mo F_Mo 55, w ∈ nz_gd := by decide +kernel
theorem g_NF_11 : nz_wIN R_NF 11 y_Land_init R_NF b_Land_init 1 0 := ⟨by decide +kernel, k_31, k_2, k_32, rfl, by decide +kernel, by decide +kernel, by decide +kernel⟩
theorem g_NF_14 : nz_wI R_NF 14 y_Falls_init b_Falls_init 2 1 := ⟨k_246, k_247, k_7, k_248, rfl, by decide +kernel, by decide +kernel, by decide +kernel⟩
theorem g_NF_32 : nz_wI R_NF 32 y_Scanner_init b_Scanner_init 5 1 := ⟨k_276, k_277, k_9, k_278, rfl, by decide +kernel, by decide +kernel, by decide +kernel⟩
theorem g_NF_35 : nz_wI R_NF 35 y_Reader_init b_Reader_init 2 1 := ⟨k_365, k_366, k_8, k_367, rfl, by decide +kernel, by decide +kernel, by decide +kernel⟩
theorem g_NF_44 : nz_wIN R_NF 44 y_Deaths_init R_NF b_Deaths_init 1 0 := ⟨by decide +kernel, k_390, k_14, k_391, rfl, by decide +kernel, by decide +kernel, by decide +kernel⟩
theorem g_NF_55 : nz_wI R_NF 55 y_Speech_init b_Speech_init 2 1 := ⟨k_416, k_417, k_15, k_418, rfl, by decide +kernel, by decide +kernel, by decide +kernel⟩
theorem g_NF_64 : nz_wIN R_NF 64 y_Chances_init R_NF b_Chances_init 1 0 := ⟨by decide +kernel, k_439, k_16, k_440, rfl, by decide +kernel, by decide +kernel, by decide +kernel⟩
theorem g_NF_80 : nz_wV R_NF 80 y_NF_putBytes b_NF_putBytes 3 none 1 := ⟨k_498, k_500, s_0, k_1, k_501, by decide +kernel, by decide +kernel, by decide +kernel⟩
theorem g_NF_84 : nz_wV R_NF 84 y_Reader_begin b_Reader_begin 3 none 2 := ⟨k_510, k_511, k_512, k_8, k_513, by decide +kernel, by decide +kernel, by decide +kernel⟩
theorem g_NF_88 : nz_wV R_NF 88 y_Reader_readLine b_Reader_readLine 2 (some .boolean) 1 := ⟨k_569, k_570, k_571, k_8, k_572, by decide +kernel, by decide +kernel, by decide +kernel⟩
theorem g_NF_95 : nz_wV R_NF 95 y_Land_settle b_Land_settle 2 none 0 := ⟨k_650, k_651, k_652, k_2, k_653, by decide +kernel, by decide +kernel, by decide +kernel⟩
theorem g_NF_98 : nz_wV R_NF 98 y_Deaths_forget b_Deaths_forget 1 none 0 := ⟨k_682, k_683, k_684, k_14, k_685, by decide +kernel, by decide +kernel, by decide +kernel⟩
theorem g_NF_104 : nz_wV R_NF 104 y_NF_isPerson b_NF_isPerson 2 (some .boolean) 1 := ⟨k_694, k_696, s_22, k_1, k_697, by decide +kernel, by decide +kernel, by decide +kernel⟩
theorem g_NF_124 : nz_wV R_NF 124 y_Deaths_takeBack b_Deaths_takeBack 2 (some .boolean) 1 := ⟨k_709, k_710, k_711, k_14, k_712, by decide +kernel, by decide +kernel, by decide +kernel⟩
theorem g_NF_127 : nz_wV R_NF 127 y_Deaths_goOn b_Deaths_goOn 2 (some .int) 1 := ⟨k_717, k_718, k_719, k_14, k_720, by decide +kernel, by decide +kernel, by decide +kernel⟩
theorem g_NF_138 : nz_wV R_NF 138 y_NF_isWord b_NF_isWord 2 (some .boolean) 1 := ⟨k_760, k_762, s_25, k_1, k_763, by decide +kernel, by decide +kernel, by decide +kernel⟩
theorem g_NF_161 : nz_wV R_NF 161 y_NF_canSpeak b_NF_canSpeak 5 (some .boolean) 4 := ⟨k_774, k_776, s_26, k_1, k_777, by decide +kernel, by decide +kernel, by decide +kernel⟩
theorem g_NF_176 : nz_wV R_NF 176 y_NF_isMeaning b_NF_isMeaning 2 (some .boolean) 1 := ⟨k_809, k_811, s_30, k_1, k_812, by decide +kernel, by decide +kernel, by decide +kernel⟩
theorem g_NF_190 : nz_wV R_NF 190 y_NF_isPlace b_NF_isPlace 2 (some .boolean) 1 := ⟨k_867, k_869, s_32, k_1, k_870, by decide +kernel, by decide +kernel, by decide +kernel⟩
theorem g_Land_11 : nz_wIN R_Land 11 y_Places_init R_NF b_Places_init 1 0 := ⟨by decide +kernel, k_37, k_3, k_38, rfl, by decide +kernel, by decide +kernel, by decide +kernel⟩
theorem g_Land_20 : nz_wIN R_Land 20 y_Meanings_init R_NF b_Meanings_init 1 0 := ⟨by decide +kernel, k_87, k_4, k_88, rfl, by decide +kernel, by decide +kernel, by decide +kernel⟩
theorem g_Land_27 : nz_wIN R_Land 27 y_Words_init R_NF b_Words_init 1 0 := ⟨by decide +kernel, k_126, k_5, k_127, rfl, by decide +kernel, by decide +kernel, by decide +kernel⟩
theorem g_Land_34 : nz_wIN R_Land 34 y_Persons_init R_NF b_Persons_init 1 0 := ⟨by decide +kernel, k_149, k_6, k_150, rfl, by decide +kernel, by decide +kernel, by decide +kernel⟩
theorem g_Land_43 : nz_wV R_Land 43 y_Places_clear b_Places_clear 2 none 0 := ⟨k_518, k_519, k_520, k_3, k_521, by decide +kernel, by decide +kernel, by decide +kernel⟩
theorem g_Land_46 : nz_wV R_Land 46 y_Meanings_clear b_Meanings_clear 1 none 0 := ⟨k_522, k_523, k_524, k_4, k_525, by decide +kernel, by decide +kernel, by decide +kernel⟩
theorem g_Land_47 : nz_wV R_Land 47 y_Words_clear b_Words_clear 1 none 0 := ⟨k_526, k_527, k_528, k_5, k_529, by decide +kernel, by decide +kernel, by decide +kernel⟩
theorem g_Land_48 : nz_wV R_Land 48 y_Persons_clear b_Persons_clear 2 none 0 := ⟨k_530, k_531, k_532, k_6, k_533, by decide +kernel, by decide +kernel, by decide +kernel⟩
theorem g_Land_49 : nz_wV R_Land 49 y_Persons_findForebears b_Persons_findForebears 4 none 0 := ⟨k_654, k_655, k_656, k_6, k_657, by decide +kernel, by decide +kernel, by decide +kernel⟩
theorem g_Land_52 : nz_wV R_Land 52 y_Persons_findSteps b_Persons_findSteps 5 none 0 := ⟨k_659, k_660, k_661, k_6, k_662, by decide +kernel, by decide +kernel, by decide +kernel⟩
theorem g_Reader_22 : nz_wV R_Reader 22 y_Land_clear b_Land_clear 1 none 0 := ⟨k_514, k_515, k_516, k_2, k_517, by decide +kernel, by decide +kernel, by decide +kernel⟩
theorem g_Reader_27 : nz_wV R_Reader 27 y_Scanner_begin b_Scanner_begin 2 none 1 := ⟨k_534, k_535, k_536, k_9, k_537, by decide +kernel, by decide +kernel, by decide +kernel⟩
theorem g_Scanner_21 : nz_wV R_Scanner 21 y_Str_length b_Str_length 1 (some .int) 0 := ⟨k_281, k_282, k_283, k_10, k_284, by decide +kernel, by decide +kernel, by decide +kernel⟩
theorem g_Scanner_27 : nz_wV R_Scanner 27 y_Str_charAt b_Str_charAt 2 (some .char) 1 := ⟨k_291, k_292, k_293, k_10, k_294, by decide +kernel, by decide +kernel, by decide +kernel⟩
theorem g_Scanner_31 : nz_wS R_Scanner 31 y_Scanner_letterCode b_Scanner_letterCode 2 (some .long) 2 := ⟨k_329, k_330, k_9, k_331, by decide +kernel, by decide +kernel, by decide +kernel⟩
theorem g_Scanner_50 : nz_wV R_Scanner 50 y_Scanner_advance b_Scanner_advance 1 none 0 := ⟨k_544, k_545, k_546, k_9, k_547, by decide +kernel, by decide +kernel, by decide +kernel⟩
theorem g_Scanner_53 : nz_wV R_Scanner 53 y_Scanner_skipBlanks b_Scanner_skipBlanks 3 (some .int) 1 := ⟨k_548, k_550, s_1, k_9, k_551, by decide +kernel, by decide +kernel, by decide +kernel⟩
theorem g_law_9 : nz_wI R_law 9 y_NF_init b_NF_init 4 0 := ⟨k_22, k_23, k_1, k_24, rfl, by decide +kernel, by decide +kernel, by decide +kernel⟩
theorem g_law_12 : nz_wI R_law 12 y_Mo_init b_Mo_init 1 0 := ⟨k_1014, k_1015, k_17, k_1016, rfl, by decide +kernel, by decide +kernel, by decide +kernel⟩
theorem g_law_13 : nz_wV R_law 13 y_NF_feed b_NF_feed 6 (some .int) 5 := ⟨k_494, k_495, k_496, k_1, k_497, by decide +kernel, by decide +kernel, by decide +kernel⟩
theorem g_law_17 : nz_wV R_law 17 y_Mo_feed b_Mo_feed 8 (some .int) 5 := ⟨k_1560, k_1561, k_1562, k_17, k_1563, by decide +kernel, by decide +kernel, by decide +kernel⟩
theorem g_law_18 : nz_wV R_law 18 y_NF_end b_NF_end 2 (some .int) 1 := ⟨k_502, k_503, k_504, k_1, k_505, by decide +kernel, by decide +kernel, by decide +kernel⟩
theorem g_law_22 : nz_wV R_law 22 y_Mo_end b_Mo_end 2 (some .int) 1 := ⟨k_1564, k_1565, k_1566, k_17, k_1567, by decide +kernel, by decide +kernel, by decide +kernel⟩
theorem g_law_23 : nz_wV R_law 23 y_NF_land b_NF_land 3 (some .int) 0 := ⟨k_506, k_507, k_508, k_1, k_509, by decide +kernel, by decide +kernel, by decide +kernel⟩
theorem g_law_27 : nz_wV R_law 27 y_Mo_land b_Mo_land 2 (some .int) 0 := ⟨k_1184, k_1185, k_1186, k_17, k_1187, by decide +kernel, by decide +kernel, by decide +kernel⟩
theorem g_law_28 : nz_wV R_law 28 y_NF_fault b_NF_fault 2 (some .int) 1 := ⟨k_686, k_687, k_688, k_1, k_689, by decide +kernel, by decide +kernel, by decide +kernel⟩
theorem g_law_31 : nz_wV R_law 31 y_Mo_fault b_Mo_fault 2 (some .int) 1 := ⟨k_1314, k_1315, k_1316, k_17, k_1317, by decide +kernel, by decide +kernel, by decide +kernel⟩
theorem g_law_32 : nz_wV R_law 32 y_NF_die b_NF_die 3 (some .int) 2 := ⟨k_690, k_691, k_692, k_1, k_693, by decide +kernel, by decide +kernel, by decide +kernel⟩
theorem g_law_36 : nz_wV R_law 36 y_Mo_die b_Mo_die 3 (some .int) 2 := ⟨k_1318, k_1319, k_1320, k_17, k_1321, by decide +kernel, by decide +kernel, by decide +kernel⟩
theorem g_law_37 : nz_wV R_law 37 y_NF_untell b_NF_untell 2 (some .boolean) 1 := ⟨k_705, k_706, k_707, k_1, k_708, by decide +kernel, by decide +kernel, by decide +kernel⟩
theorem g_law_41 : nz_wV R_law 41 y_Mo_untell b_Mo_untell 2 (some .boolean) 1 := ⟨k_1336, k_1337, k_1338, k_17, k_1339, by decide +kernel, by decide +kernel, by decide +kernel⟩
theorem g_law_42 : nz_wV R_law 42 y_NF_later b_NF_later 2 (some .int) 1 := ⟨k_713, k_714, k_715, k_1, k_716, by decide +kernel, by decide +kernel, by decide +kernel⟩
theorem g_law_45 : nz_wV R_law 45 y_Mo_later b_Mo_later 2 (some .int) 1 := ⟨k_1340, k_1341, k_1342, k_17, k_1343, by decide +kernel, by decide +kernel, by decide +kernel⟩
theorem g_law_46 : nz_wV R_law 46 y_NF_alive b_NF_alive 4 (some .int) 3 := ⟨k_722, k_723, k_724, k_1, k_725, by decide +kernel, by decide +kernel, by decide +kernel⟩
theorem g_law_50 : nz_wV R_law 50 y_Mo_alive b_Mo_alive 4 (some .int) 3 := ⟨k_1345, k_1346, k_1347, k_17, k_1348, by decide +kernel, by decide +kernel, by decide +kernel⟩
theorem g_law_51 : nz_wV R_law 51 y_NF_apart b_NF_apart 3 (some .int) 2 := ⟨k_756, k_757, k_758, k_1, k_759, by decide +kernel, by decide +kernel, by decide +kernel⟩
theorem g_law_54 : nz_wV R_law 54 y_Mo_apart b_Mo_apart 3 (some .int) 2 := ⟨k_1357, k_1358, k_1359, k_17, k_1360, by decide +kernel, by decide +kernel, by decide +kernel⟩
theorem g_law_55 : nz_wV R_law 55 y_NF_near b_NF_near 3 (some .int) 2 := ⟨k_765, k_766, k_767, k_1, k_768, by decide +kernel, by decide +kernel, by decide +kernel⟩
theorem g_law_58 : nz_wV R_law 58 y_Mo_near b_Mo_near 3 (some .int) 2 := ⟨k_1381, k_1382, k_1383, k_17, k_1384, by decide +kernel, by decide +kernel, by decide +kernel⟩
theorem g_law_59 : nz_wV R_law 59 y_NF_may b_NF_may 6 (some .int) 5 := ⟨k_770, k_771, k_772, k_1, k_773, by decide +kernel, by decide +kernel, by decide +kernel⟩
theorem g_law_62 : nz_wV R_law 62 y_Mo_may b_Mo_may 6 (some .int) 5 := ⟨k_1385, k_1386, k_1387, k_17, k_1388, by decide +kernel, by decide +kernel, by decide +kernel⟩
theorem g_law_63 : nz_wV R_law 63 y_NF_judge b_NF_judge 6 (some .int) 5 := ⟨k_796, k_797, k_798, k_1, k_799, by decide +kernel, by decide +kernel, by decide +kernel⟩
theorem g_law_66 : nz_wV R_law 66 y_Mo_judge b_Mo_judge 8 (some .int) 5 := ⟨k_1417, k_1418, k_1419, k_17, k_1420, by decide +kernel, by decide +kernel, by decide +kernel⟩
theorem g_law_67 : nz_wV R_law 67 y_NF_instead b_NF_instead 6 (some .int) 5 := ⟨k_805, k_806, k_807, k_1, k_808, by decide +kernel, by decide +kernel, by decide +kernel⟩
theorem g_law_70 : nz_wV R_law 70 y_Mo_instead b_Mo_instead 6 (some .int) 5 := ⟨k_1422, k_1423, k_1424, k_17, k_1425, by decide +kernel, by decide +kernel, by decide +kernel⟩
theorem g_law_71 : nz_wV R_law 71 y_NF_cost b_NF_cost 6 (some .int) 5 := ⟨k_838, k_839, k_840, k_1, k_841, by decide +kernel, by decide +kernel, by decide +kernel⟩
theorem g_law_74 : nz_wV R_law 74 y_Mo_cost b_Mo_cost 11 (some .int) 5 := ⟨k_1446, k_1447, k_1448, k_17, k_1449, by decide +kernel, by decide +kernel, by decide +kernel⟩
theorem g_law_75 : nz_wV R_law 75 y_NF_grasp b_NF_grasp 5 (some .int) 4 := ⟨k_850, k_851, k_852, k_1, k_853, by decide +kernel, by decide +kernel, by decide +kernel⟩
theorem g_law_79 : nz_wV R_law 79 y_Mo_grasp b_Mo_grasp 5 (some .int) 4 := ⟨k_1450, k_1451, k_1452, k_17, k_1453, by decide +kernel, by decide +kernel, by decide +kernel⟩
theorem g_law_80 : nz_wV R_law 80 y_NF_today b_NF_today 5 (some .int) 4 := ⟨k_863, k_864, k_865, k_1, k_866, by decide +kernel, by decide +kernel, by decide +kernel⟩
theorem g_law_83 : nz_wV R_law 83 y_Mo_today b_Mo_today 5 (some .int) 4 := ⟨k_1458, k_1459, k_1460, k_17, k_1461, by decide +kernel, by decide +kernel, by decide +kernel⟩
theorem g_law_84 : nz_wV R_law 84 y_NF_parted b_NF_parted 11 (some .int) 4 := ⟨k_880, k_881, k_882, k_1, k_883, by decide +kernel, by decide +kernel, by decide +kernel⟩
theorem g_law_87 : nz_wV R_law 87 y_Mo_parted b_Mo_parted 7 (some .int) 4 := ⟨k_1474, k_1475, k_1476, k_17, k_1477, by decide +kernel, by decide +kernel, by decide +kernel⟩
theorem g_law_88 : nz_wV R_law 88 y_NF_changes b_NF_changes 6 (some .int) 5 := ⟨k_884, k_885, k_886, k_1, k_887, by decide +kernel, by decide +kernel, by decide +kernel⟩
theorem g_law_91 : nz_wV R_law 91 y_Mo_changes b_Mo_changes 6 (some .int) 5 := ⟨k_1478, k_1479, k_1480, k_17, k_1481, by decide +kernel, by decide +kernel, by decide +kernel⟩
theorem g_law_92 : nz_wV R_law 92 y_NF_renewed b_NF_renewed 8 (some .int) 4 := ⟨k_896, k_897, k_898, k_1, k_899, by decide +kernel, by decide +kernel, by decide +kernel⟩
theorem g_law_95 : nz_wV R_law 95 y_Mo_renewed b_Mo_renewed 9 (some .int) 4 := ⟨k_1489, k_1490, k_1491, k_17, k_1492, by decide +kernel, by decide +kernel, by decide +kernel⟩
theorem g_law_96 : nz_wV R_law 96 y_NF_tell b_NF_tell 6 (some .int) 5 := ⟨k_900, k_901, k_902, k_1, k_903, by decide +kernel, by decide +kernel, by decide +kernel⟩
theorem g_law_99 : nz_wV R_law 99 y_Mo_tell b_Mo_tell 6 (some .int) 5 := ⟨k_1493, k_1494, k_1495, k_17, k_1496, by decide +kernel, by decide +kernel, by decide +kernel⟩
theorem g_law_100 : nz_wV R_law 100 y_NF_told b_NF_told 8 (some .int) 6 := ⟨k_917, k_918, k_919, k_1, k_920, by decide +kernel, by decide +kernel, by decide +kernel⟩
theorem g_law_104 : nz_wV R_law 104 y_Mo_told b_Mo_told 8 (some .int) 6 := ⟨k_1509, k_1510, k_1511, k_17, k_1512, by decide +kernel, by decide +kernel, by decide +kernel⟩
theorem g_law_105 : nz_wV R_law 105 y_NF_safe b_NF_safe 6 (some .int) 2 := ⟨k_925, k_926, k_927, k_1, k_928, by decide +kernel, by decide +kernel, by decide +kernel⟩
theorem g_law_108 : nz_wV R_law 108 y_Mo_safe b_Mo_safe 4 (some .int) 2 := ⟨k_1514, k_1515, k_1516, k_17, k_1517, by decide +kernel, by decide +kernel, by decide +kernel⟩
theorem g_law_109 : nz_wV R_law 109 y_NF_hurt b_NF_hurt 5 (some .int) 4 := ⟨k_930, k_931, k_932, k_1, k_933, by decide +kernel, by decide +kernel, by decide +kernel⟩
theorem g_law_112 : nz_wV R_law 112 y_Mo_hurt b_Mo_hurt 5 (some .int) 4 := ⟨k_1518, k_1519, k_1520, k_17, k_1521, by decide +kernel, by decide +kernel, by decide +kernel⟩
theorem g_law_113 : nz_wV R_law 113 y_NF_child b_NF_child 9 (some .int) 3 := ⟨k_950, k_951, k_952, k_1, k_953, by decide +kernel, by decide +kernel, by decide +kernel⟩
theorem g_law_116 : nz_wV R_law 116 y_Mo_child b_Mo_child 8 (some .int) 3 := ⟨k_1526, k_1527, k_1528, k_17, k_1529, by decide +kernel, by decide +kernel, by decide +kernel⟩
theorem g_law_117 : nz_wV R_law 117 y_NF_mean b_NF_mean 7 (some .long) 5 := ⟨k_954, k_955, k_956, k_1, k_957, by decide +kernel, by decide +kernel, by decide +kernel⟩
theorem g_law_121 : nz_wV R_law 121 y_Mo_mean b_Mo_mean 16 (some .long) 5 := ⟨k_1530, k_1531, k_1532, k_17, k_1533, by decide +kernel, by decide +kernel, by decide +kernel⟩
theorem g_law_122 : nz_wV R_law 122 y_NF_wish b_NF_wish 9 (some .int) 3 := ⟨k_989, k_990, k_991, k_1, k_992, by decide +kernel, by decide +kernel, by decide +kernel⟩
theorem g_law_125 : nz_wV R_law 125 y_Mo_wish b_Mo_wish 12 (some .int) 3 := ⟨k_1544, k_1545, k_1546, k_17, k_1547, by decide +kernel, by decide +kernel, by decide +kernel⟩
theorem g_law_126 : nz_wV R_law 126 y_NF_old b_NF_old 4 (some .int) 2 := ⟨k_999, k_1000, k_1001, k_1, k_1002, by decide +kernel, by decide +kernel, by decide +kernel⟩
theorem g_law_129 : nz_wV R_law 129 y_Mo_old b_Mo_old 6 (some .int) 2 := ⟨k_1552, k_1553, k_1554, k_17, k_1555, by decide +kernel, by decide +kernel, by decide +kernel⟩
theorem g_law_130 : nz_wV R_law 130 y_NF_about b_NF_about 2 (some .int) 1 := ⟨k_1008, k_1009, k_1010, k_1, k_1011, by decide +kernel, by decide +kernel, by decide +kernel⟩
theorem g_law_133 : nz_wV R_law 133 y_Mo_about b_Mo_about 2 (some .int) 1 := ⟨k_1556, k_1557, k_1558, k_17, k_1559, by decide +kernel, by decide +kernel, by decide +kernel⟩
theorem g_Mo_198 : nz_wV R_Mo 198 y_Mo_sign b_Mo_sign 2 (some .int) 1 := ⟨k_1192, k_1194, s_39, k_17, k_1195, by decide +kernel, by decide +kernel, by decide +kernel⟩
theorem g_Mo_227 : nz_wV R_Mo 227 y_Mo_isGood b_Mo_isGood 1 (some .boolean) 0 := ⟨k_1227, k_1229, s_40, k_17, k_1230, by decide +kernel, by decide +kernel, by decide +kernel⟩
theorem g_Mo_231 : nz_wV R_Mo 231 y_Mo_goOn b_Mo_goOn 3 none 0 := ⟨k_1188, k_1190, s_38, k_17, k_1191, by decide +kernel, by decide +kernel, by decide +kernel⟩
theorem g_Mo_252 : nz_wV R_Mo 252 y_Mo_layNear b_Mo_layNear 5 none 0 := ⟨k_1303, k_1305, s_59, k_17, k_1306, by decide +kernel, by decide +kernel, by decide +kernel⟩
theorem g_Mo_305 : nz_wS R_Mo 305 y_Mo_isIn b_Mo_isIn 3 (some .boolean) 3 := ⟨k_1326, k_1327, k_17, k_1328, by decide +kernel, by decide +kernel, by decide +kernel⟩
theorem g_Mo_309 : nz_wV R_Mo 309 y_Mo_isPerson b_Mo_isPerson 2 (some .boolean) 1 := ⟨k_1322, k_1324, s_61, k_17, k_1325, by decide +kernel, by decide +kernel, by decide +kernel⟩
theorem g_Mo_339 : nz_wV R_Mo 339 y_Mo_isWordNo b_Mo_isWordNo 2 (some .boolean) 1 := ⟨k_1361, k_1363, s_65, k_17, k_1364, by decide +kernel, by decide +kernel, by decide +kernel⟩
theorem g_Mo_370 : nz_wV R_Mo 370 y_Mo_speak b_Mo_speak 5 (some .boolean) 4 := ⟨k_1389, k_1391, s_69, k_17, k_1392, by decide +kernel, by decide +kernel, by decide +kernel⟩
theorem g_Mo_388 : nz_wV R_Mo 388 y_Mo_isMeaning b_Mo_isMeaning 2 (some .boolean) 1 := ⟨k_1426, k_1428, s_76, k_17, k_1429, by decide +kernel, by decide +kernel, by decide +kernel⟩
theorem g_Mo_402 : nz_wV R_Mo 402 y_Mo_isPlace b_Mo_isPlace 2 (some .boolean) 1 := ⟨k_1462, k_1464, s_82, k_17, k_1465, by decide +kernel, by decide +kernel, by decide +kernel⟩
theorem g_Mo_423 : nz_wV R_Mo 423 y_Mo_tell b_Mo_tell 6 (some .int) 5 := ⟨k_1513, k_1494, k_1495, k_17, k_1496, by decide +kernel, by decide +kernel, by decide +kernel⟩
theorem g_Str_335 : nz_wV R_Str 335 y_Str_coder b_Str_coder 1 (some .byte) 0 := ⟨k_285, k_286, k_287, k_10, k_288, by decide +kernel, by decide +kernel, by decide +kernel⟩
theorem g_Str_492 : nz_wV R_Str 492 y_Str_isLatin1 b_Str_isLatin1 1 (some .boolean) 0 := ⟨k_295, k_296, k_297, k_10, k_298, by decide +kernel, by decide +kernel, by decide +kernel⟩
theorem g_Str_495 : nz_wS R_Str 495 y_Lat_charAt b_Lat_charAt 2 (some .char) 2 := ⟨k_299, k_300, k_11, k_301, by decide +kernel, by decide +kernel, by decide +kernel⟩
theorem g_Str_1059 : nz_wS R_Str 1059 y_Pre_checkIndex b_Pre_checkIndex 3 (some .int) 3 := ⟨k_307, k_308, k_12, k_309, by decide +kernel, by decide +kernel, by decide +kernel⟩
theorem g_Lat_9 : nz_wS R_Lat 9 y_Str_checkIndex b_Str_checkIndex 2 none 2 := ⟨k_302, k_303, k_10, k_304, by decide +kernel, by decide +kernel, by decide +kernel⟩
