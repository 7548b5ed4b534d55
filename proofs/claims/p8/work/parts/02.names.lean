def R_Chances : String := "NameFall$Chances"
def F_Chances : u_T := fun k => match k with
  | 0 => ("NameFall$Chances", "upper", "J", false)
  | 1 => ("NameFall$Chances", "lower", "J", false)
  | 2 => ("NameFall$Chances", "mortals", "I", false)
  | 3 => ("NameFall$Chances", "heldByEach", "[I", true)
  | _ => ("NameFall$Chances", "todays", "[J", true)
def t_Chances : Nat → FieldType := fun k => match k with
  | 0 => .long
  | 1 => .long
  | 2 => .int
  | 3 => .array .int
  | _ => .array .long
theorem n_Chances : ∀ a, a < 5 → ∀ b, b < 5 → a ≠ b → (F_Chances a).2.1 ≠ (F_Chances b).2.1 := by decide +kernel
theorem t_Chances_ok : ∀ k, k < 5 → parseFieldDescriptor (F_Chances k).2.2.1 = some (t_Chances k) := by decide +kernel
theorem df_Chances : ∀ j, j < 5 → defaultValue (t_Chances j) = vp_V [.long 0, .long 0, .int 0, .null, .null] j := by decide +kernel
def R_Deaths : String := "NameFall$Deaths"
def F_Deaths : u_T := fun k => match k with
  | 0 => ("NameFall$Deaths", "count", "I", false)
  | 1 => ("NameFall$Deaths", "time", "I", false)
  | 2 => ("NameFall$Deaths", "persons", "[I", true)
  | 3 => ("NameFall$Deaths", "years", "[I", true)
  | 4 => ("NameFall$Deaths", "toldAt", "[I", true)
  | _ => ("NameFall$Deaths", "untoldAt", "[I", true)
def t_Deaths : Nat → FieldType := fun k => match k with
  | 0 => .int
  | 1 => .int
  | 2 => .array .int
  | 3 => .array .int
  | 4 => .array .int
  | _ => .array .int
theorem n_Deaths : ∀ a, a < 6 → ∀ b, b < 6 → a ≠ b → (F_Deaths a).2.1 ≠ (F_Deaths b).2.1 := by decide +kernel
theorem t_Deaths_ok : ∀ k, k < 6 → parseFieldDescriptor (F_Deaths k).2.2.1 = some (t_Deaths k) := by decide +kernel
theorem df_Deaths : ∀ j, j < 6 → defaultValue (t_Deaths j) = vp_V [.int 0, .int 0, .null, .null, .null, .null] j := by decide +kernel
def R_Falls : String := "NameFall$Falls"
def F_Falls : u_T := fun k => match k with
  | 0 => ("NameFall$Falls", "land", "LNameFall$Land;", false)
  | 1 => ("NameFall$Falls", "year", "I", false)
  | 2 => ("NameFall$Falls", "standing", "I", false)
  | 3 => ("NameFall$Falls", "died", "[I", true)
  | 4 => ("NameFall$Falls", "over", "[I", true)
  | 5 => ("NameFall$Falls", "kinds", "[I", true)
  | _ => ("NameFall$Falls", "alikes", "[I", true)
def t_Falls : Nat → FieldType := fun k => match k with
  | 0 => .object "NameFall$Land"
  | 1 => .int
  | 2 => .int
  | 3 => .array .int
  | 4 => .array .int
  | 5 => .array .int
  | _ => .array .int
theorem n_Falls : ∀ a, a < 7 → ∀ b, b < 7 → a ≠ b → (F_Falls a).2.1 ≠ (F_Falls b).2.1 := by decide +kernel
theorem t_Falls_ok : ∀ k, k < 7 → parseFieldDescriptor (F_Falls k).2.2.1 = some (t_Falls k) := by decide +kernel
theorem df_Falls : ∀ j, j < 7 → defaultValue (t_Falls j) = vp_V [.null, .int 0, .int 0, .null, .null, .null, .null] j := by decide +kernel
def R_Land : String := "NameFall$Land"
def F_Land : u_T := fun k => match k with
  | 0 => ("NameFall$Land", "places", "LNameFall$Places;", true)
  | 1 => ("NameFall$Land", "meanings", "LNameFall$Meanings;", true)
  | 2 => ("NameFall$Land", "words", "LNameFall$Words;", true)
  | 3 => ("NameFall$Land", "persons", "LNameFall$Persons;", true)
  | _ => ("NameFall$Land", "changed", "[I", true)
def t_Land : Nat → FieldType := fun k => match k with
  | 0 => .object "NameFall$Places"
  | 1 => .object "NameFall$Meanings"
  | 2 => .object "NameFall$Words"
  | 3 => .object "NameFall$Persons"
  | _ => .array .int
theorem n_Land : ∀ a, a < 5 → ∀ b, b < 5 → a ≠ b → (F_Land a).2.1 ≠ (F_Land b).2.1 := by decide +kernel
theorem t_Land_ok : ∀ k, k < 5 → parseFieldDescriptor (F_Land k).2.2.1 = some (t_Land k) := by decide +kernel
theorem df_Land : ∀ j, j < 5 → defaultValue (t_Land j) = vp_V [.null, .null, .null, .null, .null] j := by decide +kernel
def R_Meanings : String := "NameFall$Meanings"
def F_Meanings : u_T := fun k => match k with
  | 0 => ("NameFall$Meanings", "count", "I", false)
  | 1 => ("NameFall$Meanings", "names", "[J", true)
  | 2 => ("NameFall$Meanings", "turns", "I", false)
  | 3 => ("NameFall$Meanings", "turnOf", "[I", true)
  | 4 => ("NameFall$Meanings", "turnBy", "[I", true)
  | _ => ("NameFall$Meanings", "turnWith", "[I", true)
def t_Meanings : Nat → FieldType := fun k => match k with
  | 0 => .int
  | 1 => .array .long
  | 2 => .int
  | 3 => .array .int
  | 4 => .array .int
  | _ => .array .int
theorem n_Meanings : ∀ a, a < 6 → ∀ b, b < 6 → a ≠ b → (F_Meanings a).2.1 ≠ (F_Meanings b).2.1 := by decide +kernel
theorem t_Meanings_ok : ∀ k, k < 6 → parseFieldDescriptor (F_Meanings k).2.2.1 = some (t_Meanings k) := by decide +kernel
theorem df_Meanings : ∀ j, j < 6 → defaultValue (t_Meanings j) = vp_V [.int 0, .null, .int 0, .null, .null, .null] j := by decide +kernel
def R_Persons : String := "NameFall$Persons"
def F_Persons : u_T := fun k => match k with
  | 0 => ("NameFall$Persons", "count", "I", false)
  | 1 => ("NameFall$Persons", "talks", "I", false)
  | 2 => ("NameFall$Persons", "names", "[J", true)
  | 3 => ("NameFall$Persons", "called", "[J", true)
  | 4 => ("NameFall$Persons", "homes", "[I", true)
  | 5 => ("NameFall$Persons", "born", "[I", true)
  | 6 => ("NameFall$Persons", "parents", "[I", true)
  | 7 => ("NameFall$Persons", "forebears", "[I", true)
  | 8 => ("NameFall$Persons", "partners", "[I", true)
  | 9 => ("NameFall$Persons", "sounding", "[I", true)
  | _ => ("NameFall$Persons", "steps", "[I", true)
def t_Persons : Nat → FieldType := fun k => match k with
  | 0 => .int
  | 1 => .int
  | 2 => .array .long
  | 3 => .array .long
  | 4 => .array .int
  | 5 => .array .int
  | 6 => .array .int
  | 7 => .array .int
  | 8 => .array .int
  | 9 => .array .int
  | _ => .array .int
theorem n_Persons : ∀ a, a < 11 → ∀ b, b < 11 → a ≠ b → (F_Persons a).2.1 ≠ (F_Persons b).2.1 := by decide +kernel
theorem t_Persons_ok : ∀ k, k < 11 → parseFieldDescriptor (F_Persons k).2.2.1 = some (t_Persons k) := by decide +kernel
theorem df_Persons : ∀ j, j < 11 → defaultValue (t_Persons j) = vp_V [.int 0, .int 0, .null, .null, .null, .null, .null, .null, .null, .null, .null] j := by decide +kernel
def R_Places : String := "NameFall$Places"
def F_Places : u_T := fun k => match k with
  | 0 => ("NameFall$Places", "count", "I", false)
  | 1 => ("NameFall$Places", "names", "[J", true)
  | 2 => ("NameFall$Places", "kinds", "[I", true)
  | 3 => ("NameFall$Places", "alikes", "[I", true)
  | 4 => ("NameFall$Places", "nears", "[I", true)
  | 5 => ("NameFall$Places", "years", "[I", true)
  | 6 => ("NameFall$Places", "backs", "[I", true)
  | _ => ("NameFall$Places", "rows", "[I", true)
def t_Places : Nat → FieldType := fun k => match k with
  | 0 => .int
  | 1 => .array .long
  | 2 => .array .int
  | 3 => .array .int
  | 4 => .array .int
  | 5 => .array .int
  | 6 => .array .int
  | _ => .array .int
theorem n_Places : ∀ a, a < 8 → ∀ b, b < 8 → a ≠ b → (F_Places a).2.1 ≠ (F_Places b).2.1 := by decide +kernel
theorem t_Places_ok : ∀ k, k < 8 → parseFieldDescriptor (F_Places k).2.2.1 = some (t_Places k) := by decide +kernel
theorem df_Places : ∀ j, j < 8 → defaultValue (t_Places j) = vp_V [.int 0, .null, .null, .null, .null, .null, .null, .null] j := by decide +kernel
def R_Reader : String := "NameFall$Reader"
def F_Reader : u_T := fun k => match k with
  | 0 => ("NameFall$Reader", "fault", "I", false)
  | 1 => ("NameFall$Reader", "faultPlace", "I", false)
  | 2 => ("NameFall$Reader", "scanner", "LNameFall$Scanner;", true)
  | 3 => ("NameFall$Reader", "name", "J", false)
  | _ => ("NameFall$Reader", "value", "I", false)
def t_Reader : Nat → FieldType := fun k => match k with
  | 0 => .int
  | 1 => .int
  | 2 => .object "NameFall$Scanner"
  | 3 => .long
  | _ => .int
theorem n_Reader : ∀ a, a < 5 → ∀ b, b < 5 → a ≠ b → (F_Reader a).2.1 ≠ (F_Reader b).2.1 := by decide +kernel
theorem t_Reader_ok : ∀ k, k < 5 → parseFieldDescriptor (F_Reader k).2.2.1 = some (t_Reader k) := by decide +kernel
theorem df_Reader : ∀ j, j < 5 → defaultValue (t_Reader j) = vp_V [.int 0, .int 0, .null, .long 0, .int 0] j := by decide +kernel
def R_Scanner : String := "NameFall$Scanner"
def F_Scanner : u_T := fun k => match k with
  | 0 => ("NameFall$Scanner", "kind", "I", false)
  | 1 => ("NameFall$Scanner", "place", "I", false)
  | 2 => ("NameFall$Scanner", "name", "J", false)
  | 3 => ("NameFall$Scanner", "keyword", "I", false)
  | 4 => ("NameFall$Scanner", "number", "I", false)
  | 5 => ("NameFall$Scanner", "text", "[B", true)
  | 6 => ("NameFall$Scanner", "keywords", "[J", true)
  | 7 => ("NameFall$Scanner", "length", "I", false)
  | _ => ("NameFall$Scanner", "at", "I", false)
def t_Scanner : Nat → FieldType := fun k => match k with
  | 0 => .int
  | 1 => .int
  | 2 => .long
  | 3 => .int
  | 4 => .int
  | 5 => .array .byte
  | 6 => .array .long
  | 7 => .int
  | _ => .int
theorem n_Scanner : ∀ a, a < 9 → ∀ b, b < 9 → a ≠ b → (F_Scanner a).2.1 ≠ (F_Scanner b).2.1 := by decide +kernel
theorem t_Scanner_ok : ∀ k, k < 9 → parseFieldDescriptor (F_Scanner k).2.2.1 = some (t_Scanner k) := by decide +kernel
theorem df_Scanner : ∀ j, j < 9 → defaultValue (t_Scanner j) = vp_V [.int 0, .int 0, .long 0, .int 0, .int 0, .null, .null, .int 0, .int 0] j := by decide +kernel
def R_Speech : String := "NameFall$Speech"
def F_Speech : u_T := fun k => match k with
  | 0 => ("NameFall$Speech", "falls", "LNameFall$Falls;", true)
  | 1 => ("NameFall$Speech", "costs", "[I", true)
  | 2 => ("NameFall$Speech", "queue", "[I", true)
  | 3 => ("NameFall$Speech", "toldBy", "[I", true)
  | _ => ("NameFall$Speech", "way", "[I", true)
def t_Speech : Nat → FieldType := fun k => match k with
  | 0 => .object "NameFall$Falls"
  | 1 => .array .int
  | 2 => .array .int
  | 3 => .array .int
  | _ => .array .int
theorem n_Speech : ∀ a, a < 5 → ∀ b, b < 5 → a ≠ b → (F_Speech a).2.1 ≠ (F_Speech b).2.1 := by decide +kernel
theorem t_Speech_ok : ∀ k, k < 5 → parseFieldDescriptor (F_Speech k).2.2.1 = some (t_Speech k) := by decide +kernel
theorem df_Speech : ∀ j, j < 5 → defaultValue (t_Speech j) = vp_V [.null, .null, .null, .null, .null] j := by decide +kernel
def R_Words : String := "NameFall$Words"
def F_Words : u_T := fun k => match k with
  | 0 => ("NameFall$Words", "count", "I", false)
  | 1 => ("NameFall$Words", "names", "[J", true)
  | _ => ("NameFall$Words", "sounding", "[I", true)
def t_Words : Nat → FieldType := fun k => match k with
  | 0 => .int
  | 1 => .array .long
  | _ => .array .int
theorem n_Words : ∀ a, a < 3 → ∀ b, b < 3 → a ≠ b → (F_Words a).2.1 ≠ (F_Words b).2.1 := by decide +kernel
theorem t_Words_ok : ∀ k, k < 3 → parseFieldDescriptor (F_Words k).2.2.1 = some (t_Words k) := by decide +kernel
theorem df_Words : ∀ j, j < 3 → defaultValue (t_Words j) = vp_V [.int 0, .null, .null] j := by decide +kernel
def R_NF : String := "NameFall"
def F_NF : u_T := fun k => match k with
  | 0 => ("NameFall", "tape", "[B", true)
  | 1 => ("NameFall", "taped", "I", false)
  | 2 => ("NameFall", "current", "LNameFall$Land;", false)
  | 3 => ("NameFall", "draft", "LNameFall$Land;", false)
  | 4 => ("NameFall", "reader", "LNameFall$Reader;", true)
  | 5 => ("NameFall", "deaths", "LNameFall$Deaths;", true)
  | 6 => ("NameFall", "falls", "LNameFall$Falls;", true)
  | 7 => ("NameFall", "speech", "LNameFall$Speech;", true)
  | 8 => ("NameFall", "chances", "LNameFall$Chances;", true)
  | 9 => ("NameFall", "latest", "[I", true)
  | _ => ("NameFall", "turned", "[I", true)
def t_NF : Nat → FieldType := fun k => match k with
  | 0 => .array .byte
  | 1 => .int
  | 2 => .object "NameFall$Land"
  | 3 => .object "NameFall$Land"
  | 4 => .object "NameFall$Reader"
  | 5 => .object "NameFall$Deaths"
  | 6 => .object "NameFall$Falls"
  | 7 => .object "NameFall$Speech"
  | 8 => .object "NameFall$Chances"
  | 9 => .array .int
  | _ => .array .int
theorem n_NF : ∀ a, a < 11 → ∀ b, b < 11 → a ≠ b → (F_NF a).2.1 ≠ (F_NF b).2.1 := by decide +kernel
theorem t_NF_ok : ∀ k, k < 11 → parseFieldDescriptor (F_NF k).2.2.1 = some (t_NF k) := by decide +kernel
theorem df_NF : ∀ j, j < 11 → defaultValue (t_NF j) = vp_V [.null, .int 0, .null, .null, .null, .null, .null, .null, .null, .null, .null] j := by decide +kernel
def R_Mo : String := "NameFallModel"
def F_Mo : u_T := fun k => match k with
  | 0 => ("NameFallModel", "tape", "[B", true)
  | 1 => ("NameFallModel", "text", "[B", true)
  | 2 => ("NameFallModel", "taped", "I", false)
  | 3 => ("NameFallModel", "size", "I", false)
  | 4 => ("NameFallModel", "faultKind", "I", false)
  | 5 => ("NameFallModel", "faultPlace", "I", false)
  | 6 => ("NameFallModel", "at", "I", false)
  | 7 => ("NameFallModel", "end", "I", false)
  | 8 => ("NameFallModel", "token", "I", false)
  | 9 => ("NameFallModel", "number", "I", false)
  | 10 => ("NameFallModel", "name", "J", false)
  | 11 => ("NameFallModel", "places", "[I", true)
  | 12 => ("NameFallModel", "meanings", "[I", true)
  | 13 => ("NameFallModel", "words", "[I", true)
  | 14 => ("NameFallModel", "turns", "[I", true)
  | 15 => ("NameFallModel", "persons", "[I", true)
  | 16 => ("NameFallModel", "talks", "[I", true)
  | 17 => ("NameFallModel", "lines", "[I", true)
  | 18 => ("NameFallModel", "pName", "[J", true)
  | 19 => ("NameFallModel", "mName", "[J", true)
  | 20 => ("NameFallModel", "wName", "[J", true)
  | 21 => ("NameFallModel", "hName", "[J", true)
  | 22 => ("NameFallModel", "called", "[J", true)
  | 23 => ("NameFallModel", "custom", "[I", true)
  | 24 => ("NameFallModel", "alike", "[I", true)
  | 25 => ("NameFallModel", "near", "[I", true)
  | 26 => ("NameFallModel", "lasts", "[I", true)
  | 27 => ("NameFallModel", "back", "[I", true)
  | 28 => ("NameFallModel", "wMeaning", "[I", true)
  | 29 => ("NameFallModel", "wPlaces", "[I", true)
  | 30 => ("NameFallModel", "turnOf", "[I", true)
  | 31 => ("NameFallModel", "turnOne", "[I", true)
  | 32 => ("NameFallModel", "turnTwo", "[I", true)
  | 33 => ("NameFallModel", "home", "[I", true)
  | 34 => ("NameFallModel", "born", "[I", true)
  | 35 => ("NameFallModel", "parentOne", "[I", true)
  | 36 => ("NameFallModel", "parentTwo", "[I", true)
  | 37 => ("NameFallModel", "talkOne", "[I", true)
  | 38 => ("NameFallModel", "talkTwo", "[I", true)
  | 39 => ("NameFallModel", "bank", "I", false)
  | 40 => ("NameFallModel", "rb", "I", false)
  | 41 => ("NameFallModel", "dPerson", "[I", true)
  | 42 => ("NameFallModel", "dYear", "[I", true)
  | 43 => ("NameFallModel", "dTold", "[I", true)
  | 44 => ("NameFallModel", "dUntold", "[I", true)
  | 45 => ("NameFallModel", "deaths", "I", false)
  | 46 => ("NameFallModel", "time", "I", false)
  | 47 => ("NameFallModel", "died", "[I", true)
  | 48 => ("NameFallModel", "steps", "[I", true)
  | 49 => ("NameFallModel", "ways", "[I", true)
  | 50 => ("NameFallModel", "costs", "[I", true)
  | 51 => ("NameFallModel", "foundFrom", "[I", true)
  | 52 => ("NameFallModel", "line", "[I", true)
  | 53 => ("NameFallModel", "way", "[I", true)
  | _ => ("NameFallModel", "living", "[I", true)
def t_Mo : Nat → FieldType := fun k => match k with
  | 0 => .array .byte
  | 1 => .array .byte
  | 2 => .int
  | 3 => .int
  | 4 => .int
  | 5 => .int
  | 6 => .int
  | 7 => .int
  | 8 => .int
  | 9 => .int
  | 10 => .long
  | 11 => .array .int
  | 12 => .array .int
  | 13 => .array .int
  | 14 => .array .int
  | 15 => .array .int
  | 16 => .array .int
  | 17 => .array .int
  | 18 => .array .long
  | 19 => .array .long
  | 20 => .array .long
  | 21 => .array .long
  | 22 => .array .long
  | 23 => .array .int
  | 24 => .array .int
  | 25 => .array .int
  | 26 => .array .int
  | 27 => .array .int
  | 28 => .array .int
  | 29 => .array .int
  | 30 => .array .int
  | 31 => .array .int
  | 32 => .array .int
  | 33 => .array .int
  | 34 => .array .int
  | 35 => .array .int
  | 36 => .array .int
  | 37 => .array .int
  | 38 => .array .int
  | 39 => .int
  | 40 => .int
  | 41 => .array .int
  | 42 => .array .int
  | 43 => .array .int
  | 44 => .array .int
  | 45 => .int
  | 46 => .int
  | 47 => .array .int
  | 48 => .array .int
  | 49 => .array .int
  | 50 => .array .int
  | 51 => .array .int
  | 52 => .array .int
  | 53 => .array .int
  | _ => .array .int
theorem n_Mo : ∀ a, a < 55 → ∀ b, b < 55 → a ≠ b → (F_Mo a).2.1 ≠ (F_Mo b).2.1 := by decide +kernel
theorem t_Mo_ok : ∀ k, k < 55 → parseFieldDescriptor (F_Mo k).2.2.1 = some (t_Mo k) := by decide +kernel
theorem df_Mo : ∀ j, j < 55 → defaultValue (t_Mo j) = vp_V [.null, .null, .int 0, .int 0, .int 0, .int 0, .int 0, .int 0, .int 0, .int 0, .long 0, .null, .null, .null, .null, .null, .null, .null, .null, .null, .null, .null, .null, .null, .null, .null, .null, .null, .null, .null, .null, .null, .null, .null, .null, .null, .null, .null, .null, .int 0, .int 0, .null, .null, .null, .null, .int 0, .int 0, .null, .null, .null, .null, .null, .null, .null, .null] j := by decide +kernel
def R_law : String := "NameFallLaw"
abbrev nz_cl : List vw_C := [(R_Chances, F_Chances, 5), (R_Deaths, F_Deaths, 6), (R_Falls, F_Falls, 7), (R_Land, F_Land, 5), (R_Meanings, F_Meanings, 6), (R_Persons, F_Persons, 11), (R_Places, F_Places, 8), (R_Reader, F_Reader, 5), (R_Scanner, F_Scanner, 9), (R_Speech, F_Speech, 5), (R_Words, F_Words, 3), (R_NF, F_NF, 11), (R_Mo, F_Mo, 55)]
abbrev b_NF_find : ByteArray := prog_1_method_43_code
def y_NF_find : MethodName := ⟨R_NF, "find", "([JIJ)I"⟩
abbrev b_NF_has : ByteArray := prog_1_method_41_code
def y_NF_has : MethodName := ⟨R_NF, "has", "(II)Z"⟩
abbrev b_NF_later : ByteArray := prog_1_method_8_code
def y_NF_later : MethodName := ⟨R_NF, "later", "(I)I"⟩
abbrev b_NF_lowest : ByteArray := prog_1_method_42_code
def y_NF_lowest : MethodName := ⟨R_NF, "lowest", "(I)I"⟩
abbrev b_Chances_init : ByteArray := prog_2_method_1_code
def y_Chances_init : MethodName := ⟨R_Chances, "<init>", "()V"⟩
abbrev b_Deaths_init : ByteArray := prog_3_method_1_code
def y_Deaths_init : MethodName := ⟨R_Deaths, "<init>", "()V"⟩
abbrev b_Deaths_goOn : ByteArray := prog_3_method_5_code
def y_Deaths_goOn : MethodName := ⟨R_Deaths, "goOn", "(I)I"⟩
abbrev b_Land_init : ByteArray := prog_5_method_1_code
def y_Land_init : MethodName := ⟨R_Land, "<init>", "()V"⟩
abbrev b_Meanings_init : ByteArray := prog_6_method_1_code
def y_Meanings_init : MethodName := ⟨R_Meanings, "<init>", "()V"⟩
abbrev b_Persons_init : ByteArray := prog_7_method_1_code
def y_Persons_init : MethodName := ⟨R_Persons, "<init>", "()V"⟩
abbrev b_Places_init : ByteArray := prog_8_method_1_code
def y_Places_init : MethodName := ⟨R_Places, "<init>", "()V"⟩
abbrev b_Words_init : ByteArray := prog_12_method_1_code
def y_Words_init : MethodName := ⟨R_Words, "<init>", "()V"⟩
abbrev b_Mo_alive : ByteArray := prog_14_method_44_code
def y_Mo_alive : MethodName := ⟨R_Mo, "alive", "(III)I"⟩
abbrev b_Mo_bornOf : ByteArray := prog_14_method_35_code
def y_Mo_bornOf : MethodName := ⟨R_Mo, "bornOf", "(I)I"⟩
abbrev b_Mo_die : ByteArray := prog_14_method_39_code
def y_Mo_die : MethodName := ⟨R_Mo, "die", "(II)I"⟩
abbrev b_Mo_isAlive : ByteArray := prog_14_method_43_code
def y_Mo_isAlive : MethodName := ⟨R_Mo, "isAlive", "(II)Z"⟩
abbrev b_Mo_isIn : ByteArray := prog_14_method_28_code
def y_Mo_isIn : MethodName := ⟨R_Mo, "isIn", "(III)Z"⟩
abbrev b_Mo_isPerson : ByteArray := prog_14_method_32_code
def y_Mo_isPerson : MethodName := ⟨R_Mo, "isPerson", "(I)Z"⟩
abbrev b_Mo_isYear : ByteArray := prog_14_method_33_code
def y_Mo_isYear : MethodName := ⟨R_Mo, "isYear", "(I)Z"⟩
abbrev b_Mo_know : ByteArray := prog_14_method_42_code
def y_Mo_know : MethodName := ⟨R_Mo, "know", "(I)V"⟩
abbrev b_Mo_later : ByteArray := prog_14_method_41_code
def y_Mo_later : MethodName := ⟨R_Mo, "later", "(I)I"⟩
def nz_nst : List (String × Nat × MethodName × String) := [(R_NF, 11, y_Land_init, R_NF), (R_Land, 11, y_Places_init, R_NF), (R_Land, 20, y_Meanings_init, R_NF), (R_Land, 27, y_Words_init, R_NF), (R_Land, 34, y_Persons_init, R_NF), (R_NF, 44, y_Deaths_init, R_NF), (R_NF, 64, y_Chances_init, R_NF), (R_Scanner, 80, y_NF_find, R_NF), (R_Reader, 201, y_NF_find, R_NF), (R_Reader, 205, y_NF_has, R_NF), (R_Persons, 47, y_NF_has, R_NF), (R_Falls, 100, y_NF_has, R_NF), (R_Places, 42, y_NF_lowest, R_NF), (R_Speech, 93, y_NF_has, R_NF), (R_Chances, 47, y_NF_has, R_NF)]
