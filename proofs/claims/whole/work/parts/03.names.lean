def R_AW : String := "AddressWords"
def T_AW : u_T := fun k => match k with
  | 0 => ("AddressWords", "streets", "[LAddressWords$Street;", true)
  | 1 => ("AddressWords", "streetCount", "I", false)
  | 2 => ("AddressWords", "landmarks", "[LAddressWords$Landmark;", true)
  | 3 => ("AddressWords", "landmarkCount", "I", false)
  | 4 => ("AddressWords", "corners", "[LAddressWords$Corner;", true)
  | 5 => ("AddressWords", "cornerCount", "I", false)
  | 6 => ("AddressWords", "said", "LAddressWords$Said;", true)
  | 7 => ("AddressWords", "edits", "LAddressWords$Edits;", true)
  | 8 => ("AddressWords", "ranking", "LAddressWords$Ranking;", true)
  | 9 => ("AddressWords", "places", "[LAddressWords$Place;", true)
  | _ => ("AddressWords", "placeCount", "I", false)
def ty_AW : Nat → FieldType := fun k => match k with
  | 0 => .array (.object "AddressWords$Street")
  | 1 => .int
  | 2 => .array (.object "AddressWords$Landmark")
  | 3 => .int
  | 4 => .array (.object "AddressWords$Corner")
  | 5 => .int
  | 6 => .object "AddressWords$Said"
  | 7 => .object "AddressWords$Edits"
  | 8 => .object "AddressWords$Ranking"
  | 9 => .array (.object "AddressWords$Place")
  | _ => .int
def R_Co : String := "AddressWords$Corner"
def T_Co : u_T := fun k => match k with
  | 0 => ("AddressWords$Corner", "street", "I", true)
  | 1 => ("AddressWords$Corner", "other", "I", true)
  | 2 => ("AddressWords$Corner", "metres", "I", true)
  | _ => ("AddressWords$Corner", "otherMetres", "I", true)
def ty_Co : Nat → FieldType := fun k => match k with
  | 0 => .int
  | 1 => .int
  | 2 => .int
  | _ => .int
def R_Ed : String := "AddressWords$Edits"
def T_Ed : u_T := fun k => match k with
  | 0 => ("AddressWords$Edits", "beforeLast", "[I", false)
  | 1 => ("AddressWords$Edits", "last", "[I", false)
  | _ => ("AddressWords$Edits", "row", "[I", false)
def ty_Ed : Nat → FieldType := fun k => match k with
  | 0 => .array .int
  | 1 => .array .int
  | _ => .array .int
def R_HR : String := "AddressWords$HouseRange"
def T_HR : u_T := fun k => match k with
  | 0 => ("AddressWords$HouseRange", "side", "I", true)
  | 1 => ("AddressWords$HouseRange", "first", "I", true)
  | _ => ("AddressWords$HouseRange", "last", "I", true)
def ty_HR : Nat → FieldType := fun k => match k with
  | 0 => .int
  | 1 => .int
  | _ => .int
def R_LM : String := "AddressWords$Landmark"
def T_LM : u_T := fun k => match k with
  | 0 => ("AddressWords$Landmark", "street", "I", true)
  | 1 => ("AddressWords$Landmark", "house", "I", true)
  | _ => ("AddressWords$Landmark", "name", "LAddressWords$Name;", true)
def ty_LM : Nat → FieldType := fun k => match k with
  | 0 => .int
  | 1 => .int
  | _ => .object "AddressWords$Name"
def R_Na : String := "AddressWords$Name"
def T_Na : u_T := fun k => match k with
  | 0 => ("AddressWords$Name", "letters", "[C", true)
  | _ => ("AddressWords$Name", "length", "I", false)
def ty_Na : Nat → FieldType := fun k => match k with
  | 0 => .array .char
  | _ => .int
def R_Pl : String := "AddressWords$Place"
def T_Pl : u_T := fun k => match k with
  | 0 => ("AddressWords$Place", "street", "I", false)
  | 1 => ("AddressWords$Place", "house", "I", false)
  | 2 => ("AddressWords$Place", "reason", "I", false)
  | 3 => ("AddressWords$Place", "distance", "I", false)
  | 4 => ("AddressWords$Place", "area", "I", false)
  | _ => ("AddressWords$Place", "landmark", "I", false)
def ty_Pl : Nat → FieldType := fun k => match k with
  | 0 => .int
  | 1 => .int
  | 2 => .int
  | 3 => .int
  | 4 => .int
  | _ => .int
def R_Ra : String := "AddressWords$Ranking"
def T_Ra : u_T := fun k => match k with
  | 0 => ("AddressWords$Ranking", "candidates", "[I", true)
  | 1 => ("AddressWords$Ranking", "distances", "[I", true)
  | 2 => ("AddressWords$Ranking", "wanted", "I", false)
  | _ => ("AddressWords$Ranking", "size", "I", false)
def ty_Ra : Nat → FieldType := fun k => match k with
  | 0 => .array .int
  | 1 => .array .int
  | 2 => .int
  | _ => .int
def R_Sa : String := "AddressWords$Said"
def T_Sa : u_T := fun k => match k with
  | 0 => ("AddressWords$Said", "signs", "[C", true)
  | 1 => ("AddressWords$Said", "length", "I", false)
  | 2 => ("AddressWords$Said", "wordStarts", "[I", true)
  | 3 => ("AddressWords$Said", "wordLengths", "[I", true)
  | 4 => ("AddressWords$Said", "wordCount", "I", false)
  | 5 => ("AddressWords$Said", "numberCount", "I", false)
  | 6 => ("AddressWords$Said", "digitCount", "I", false)
  | _ => ("AddressWords$Said", "house", "I", false)
def ty_Sa : Nat → FieldType := fun k => match k with
  | 0 => .array .char
  | 1 => .int
  | 2 => .array .int
  | 3 => .array .int
  | 4 => .int
  | 5 => .int
  | 6 => .int
  | _ => .int
def R_St : String := "AddressWords$Street"
def T_St : u_T := fun k => match k with
  | 0 => ("AddressWords$Street", "area", "I", true)
  | 1 => ("AddressWords$Street", "names", "[LAddressWords$Name;", true)
  | 2 => ("AddressWords$Street", "nameCount", "I", false)
  | 3 => ("AddressWords$Street", "ranges", "[LAddressWords$HouseRange;", true)
  | 4 => ("AddressWords$Street", "rangeCount", "I", false)
  | 5 => ("AddressWords$Street", "x", "I", false)
  | 6 => ("AddressWords$Street", "y", "I", false)
  | 7 => ("AddressWords$Street", "toX", "I", false)
  | 8 => ("AddressWords$Street", "toY", "I", false)
  | 9 => ("AddressWords$Street", "length", "I", false)
  | _ => ("AddressWords$Street", "closed", "Z", false)
def ty_St : Nat → FieldType := fun k => match k with
  | 0 => .int
  | 1 => .array (.object "AddressWords$Name")
  | 2 => .int
  | 3 => .array (.object "AddressWords$HouseRange")
  | 4 => .int
  | 5 => .int
  | 6 => .int
  | 7 => .int
  | 8 => .int
  | 9 => .int
  | _ => .boolean
def R_Mo : String := "AddressWordsModel"
def T_Mo : u_T := fun k => match k with
  | 0 => ("AddressWordsModel", "thrown", "I", false)
  | 1 => ("AddressWordsModel", "streets", "I", false)
  | 2 => ("AddressWordsModel", "area", "[I", true)
  | 3 => ("AddressWordsModel", "closed", "[Z", true)
  | 4 => ("AddressWordsModel", "names", "[I", true)
  | 5 => ("AddressWordsModel", "length", "[I", true)
  | 6 => ("AddressWordsModel", "letter", "[I", true)
  | 7 => ("AddressWordsModel", "ranges", "[I", true)
  | 8 => ("AddressWordsModel", "side", "[I", true)
  | 9 => ("AddressWordsModel", "low", "[I", true)
  | 10 => ("AddressWordsModel", "high", "[I", true)
  | 11 => ("AddressWordsModel", "x", "[I", true)
  | 12 => ("AddressWordsModel", "y", "[I", true)
  | 13 => ("AddressWordsModel", "dx", "[I", true)
  | 14 => ("AddressWordsModel", "dy", "[I", true)
  | 15 => ("AddressWordsModel", "metres", "[I", true)
  | 16 => ("AddressWordsModel", "landmarks", "I", false)
  | 17 => ("AddressWordsModel", "onStreet", "[I", true)
  | 18 => ("AddressWordsModel", "house", "[I", true)
  | 19 => ("AddressWordsModel", "markLength", "[I", true)
  | 20 => ("AddressWordsModel", "mark", "[I", true)
  | 21 => ("AddressWordsModel", "corners", "I", false)
  | 22 => ("AddressWordsModel", "one", "[I", true)
  | 23 => ("AddressWordsModel", "two", "[I", true)
  | 24 => ("AddressWordsModel", "oneAt", "[I", true)
  | 25 => ("AddressWordsModel", "twoAt", "[I", true)
  | 26 => ("AddressWordsModel", "said", "I", false)
  | 27 => ("AddressWordsModel", "sign", "[I", true)
  | 28 => ("AddressWordsModel", "found", "I", false)
  | 29 => ("AddressWordsModel", "place", "[I", true)
  | 30 => ("AddressWordsModel", "apart", "[I", true)
  | 31 => ("AddressWordsModel", "asked", "I", false)
  | 32 => ("AddressWordsModel", "a", "[I", true)
  | 33 => ("AddressWordsModel", "b", "[I", true)
  | _ => ("AddressWordsModel", "table", "[I", true)
def ty_Mo : Nat → FieldType := fun k => match k with
  | 0 => .int
  | 1 => .int
  | 2 => .array .int
  | 3 => .array .boolean
  | 4 => .array .int
  | 5 => .array .int
  | 6 => .array .int
  | 7 => .array .int
  | 8 => .array .int
  | 9 => .array .int
  | 10 => .array .int
  | 11 => .array .int
  | 12 => .array .int
  | 13 => .array .int
  | 14 => .array .int
  | 15 => .array .int
  | 16 => .int
  | 17 => .array .int
  | 18 => .array .int
  | 19 => .array .int
  | 20 => .array .int
  | 21 => .int
  | 22 => .array .int
  | 23 => .array .int
  | 24 => .array .int
  | 25 => .array .int
  | 26 => .int
  | 27 => .array .int
  | 28 => .int
  | 29 => .array .int
  | 30 => .array .int
  | 31 => .int
  | 32 => .array .int
  | 33 => .array .int
  | _ => .array .int
def R_La : String := "AddressWordsLaw"
def kcl : List vw_C := [(R_AW, T_AW, 11), (R_Co, T_Co, 4), (R_Ed, T_Ed, 3), (R_HR, T_HR, 3), (R_LM, T_LM, 3), (R_Na, T_Na, 2), (R_Pl, T_Pl, 6), (R_Ra, T_Ra, 4), (R_Sa, T_Sa, 8), (R_St, T_St, 11), (R_Mo, T_Mo, 35)]
def kty : List FieldType := [.int, .char, .boolean, .long, .object R_St, .object R_LM, .object R_Co, .object R_Pl, .object R_Na, .object R_HR]
def x_IA : String := "java/lang/IllegalArgumentException"
def x_IO : String := "java/lang/IndexOutOfBoundsException"
def x_IS : String := "java/lang/IllegalStateException"
def x_UO : String := "java/lang/UnsupportedOperationException"
def x_up : List String := ["java/lang/RuntimeException", "java/lang/Exception"]
def knc : List (String × String) := [(x_IA, x_IO), (x_IA, x_IS), (x_IA, x_UO), (x_IO, x_IA), (x_IO, x_IS), (x_IO, x_UO), (x_IS, x_IA), (x_IS, x_IO), (x_IS, x_UO), (x_UO, x_IA), (x_UO, x_IO), (x_UO, x_IS)]
theorem nm_AW : ∀ a, a < 11 → ∀ b, b < 11 → a ≠ b → (T_AW a).2.1 ≠ (T_AW b).2.1 := by decide +kernel
theorem tyok_AW : ∀ k, k < 11 → parseFieldDescriptor (T_AW k).2.2.1 = some (ty_AW k) := by decide +kernel
theorem in_AW : ∀ w ∈ u_ws R_AW T_AW 11, w ∈ lw_tbl := by decide +kernel
theorem ins_AW : Cond.instantiable R_AW 11 ∈ lw_tbl := List.mem_of_getElem? (i := 54) (by decide +kernel)
theorem ini_AW : Cond.initialized R_AW ∈ lw_tbl := List.mem_of_getElem? (i := 34) (by decide +kernel)
theorem nm_Co : ∀ a, a < 4 → ∀ b, b < 4 → a ≠ b → (T_Co a).2.1 ≠ (T_Co b).2.1 := by decide +kernel
theorem tyok_Co : ∀ k, k < 4 → parseFieldDescriptor (T_Co k).2.2.1 = some (ty_Co k) := by decide +kernel
theorem in_Co : ∀ w ∈ u_ws R_Co T_Co 4, w ∈ lw_tbl := by decide +kernel
theorem ins_Co : Cond.instantiable R_Co 4 ∈ lw_tbl := List.mem_of_getElem? (i := 598) (by decide +kernel)
theorem ini_Co : Cond.initialized R_Co ∈ lw_tbl := List.mem_of_getElem? (i := 51) (by decide +kernel)
theorem nm_Ed : ∀ a, a < 3 → ∀ b, b < 3 → a ≠ b → (T_Ed a).2.1 ≠ (T_Ed b).2.1 := by decide +kernel
theorem tyok_Ed : ∀ k, k < 3 → parseFieldDescriptor (T_Ed k).2.2.1 = some (ty_Ed k) := by decide +kernel
theorem in_Ed : ∀ w ∈ u_ws R_Ed T_Ed 3, w ∈ lw_tbl := by decide +kernel
theorem ins_Ed : Cond.instantiable R_Ed 3 ∈ lw_tbl := List.mem_of_getElem? (i := 107) (by decide +kernel)
theorem ini_Ed : Cond.initialized R_Ed ∈ lw_tbl := List.mem_of_getElem? (i := 36) (by decide +kernel)
theorem nm_HR : ∀ a, a < 3 → ∀ b, b < 3 → a ≠ b → (T_HR a).2.1 ≠ (T_HR b).2.1 := by decide +kernel
theorem tyok_HR : ∀ k, k < 3 → parseFieldDescriptor (T_HR k).2.2.1 = some (ty_HR k) := by decide +kernel
theorem in_HR : ∀ w ∈ u_ws R_HR T_HR 3, w ∈ lw_tbl := by decide +kernel
theorem ins_HR : Cond.instantiable R_HR 3 ∈ lw_tbl := List.mem_of_getElem? (i := 501) (by decide +kernel)
theorem ini_HR : Cond.initialized R_HR ∈ lw_tbl := List.mem_of_getElem? (i := 49) (by decide +kernel)
theorem nm_LM : ∀ a, a < 3 → ∀ b, b < 3 → a ≠ b → (T_LM a).2.1 ≠ (T_LM b).2.1 := by decide +kernel
theorem tyok_LM : ∀ k, k < 3 → parseFieldDescriptor (T_LM k).2.2.1 = some (ty_LM k) := by decide +kernel
theorem in_LM : ∀ w ∈ u_ws R_LM T_LM 3, w ∈ lw_tbl := by decide +kernel
theorem ins_LM : Cond.instantiable R_LM 3 ∈ lw_tbl := List.mem_of_getElem? (i := 553) (by decide +kernel)
theorem ini_LM : Cond.initialized R_LM ∈ lw_tbl := List.mem_of_getElem? (i := 50) (by decide +kernel)
theorem nm_Na : ∀ a, a < 2 → ∀ b, b < 2 → a ≠ b → (T_Na a).2.1 ≠ (T_Na b).2.1 := by decide +kernel
theorem tyok_Na : ∀ k, k < 2 → parseFieldDescriptor (T_Na k).2.2.1 = some (ty_Na k) := by decide +kernel
theorem in_Na : ∀ w ∈ u_ws R_Na T_Na 2, w ∈ lw_tbl := by decide +kernel
theorem ins_Na : Cond.instantiable R_Na 2 ∈ lw_tbl := List.mem_of_getElem? (i := 331) (by decide +kernel)
theorem ini_Na : Cond.initialized R_Na ∈ lw_tbl := List.mem_of_getElem? (i := 46) (by decide +kernel)
theorem nm_Pl : ∀ a, a < 6 → ∀ b, b < 6 → a ≠ b → (T_Pl a).2.1 ≠ (T_Pl b).2.1 := by decide +kernel
theorem tyok_Pl : ∀ k, k < 6 → parseFieldDescriptor (T_Pl k).2.2.1 = some (ty_Pl k) := by decide +kernel
theorem in_Pl : ∀ w ∈ u_ws R_Pl T_Pl 6, w ∈ lw_tbl := by decide +kernel
theorem ins_Pl : Cond.instantiable R_Pl 6 ∈ lw_tbl := List.mem_of_getElem? (i := 146) (by decide +kernel)
theorem ini_Pl : Cond.initialized R_Pl ∈ lw_tbl := List.mem_of_getElem? (i := 38) (by decide +kernel)
theorem nm_Ra : ∀ a, a < 4 → ∀ b, b < 4 → a ≠ b → (T_Ra a).2.1 ≠ (T_Ra b).2.1 := by decide +kernel
theorem tyok_Ra : ∀ k, k < 4 → parseFieldDescriptor (T_Ra k).2.2.1 = some (ty_Ra k) := by decide +kernel
theorem in_Ra : ∀ w ∈ u_ws R_Ra T_Ra 4, w ∈ lw_tbl := by decide +kernel
theorem ins_Ra : Cond.instantiable R_Ra 4 ∈ lw_tbl := List.mem_of_getElem? (i := 123) (by decide +kernel)
theorem ini_Ra : Cond.initialized R_Ra ∈ lw_tbl := List.mem_of_getElem? (i := 37) (by decide +kernel)
theorem nm_Sa : ∀ a, a < 8 → ∀ b, b < 8 → a ≠ b → (T_Sa a).2.1 ≠ (T_Sa b).2.1 := by decide +kernel
theorem tyok_Sa : ∀ k, k < 8 → parseFieldDescriptor (T_Sa k).2.2.1 = some (ty_Sa k) := by decide +kernel
theorem in_Sa : ∀ w ∈ u_ws R_Sa T_Sa 8, w ∈ lw_tbl := by decide +kernel
theorem ins_Sa : Cond.instantiable R_Sa 8 ∈ lw_tbl := List.mem_of_getElem? (i := 68) (by decide +kernel)
theorem ini_Sa : Cond.initialized R_Sa ∈ lw_tbl := List.mem_of_getElem? (i := 35) (by decide +kernel)
theorem nm_St : ∀ a, a < 11 → ∀ b, b < 11 → a ≠ b → (T_St a).2.1 ≠ (T_St b).2.1 := by decide +kernel
theorem tyok_St : ∀ k, k < 11 → parseFieldDescriptor (T_St k).2.2.1 = some (ty_St k) := by decide +kernel
theorem in_St : ∀ w ∈ u_ws R_St T_St 11, w ∈ lw_tbl := by decide +kernel
theorem ins_St : Cond.instantiable R_St 11 ∈ lw_tbl := List.mem_of_getElem? (i := 219) (by decide +kernel)
theorem ini_St : Cond.initialized R_St ∈ lw_tbl := List.mem_of_getElem? (i := 45) (by decide +kernel)
theorem nm_Mo : ∀ a, a < 35 → ∀ b, b < 35 → a ≠ b → (T_Mo a).2.1 ≠ (T_Mo b).2.1 := by decide +kernel
theorem tyok_Mo : ∀ k, k < 35 → parseFieldDescriptor (T_Mo k).2.2.1 = some (ty_Mo k) := by decide +kernel
theorem in_Mo : ∀ w ∈ u_ws R_Mo T_Mo 35, w ∈ lw_tbl := by decide +kernel
theorem ins_Mo : Cond.instantiable R_Mo 35 ∈ lw_tbl := List.mem_of_getElem? (i := 783) (by decide +kernel)
theorem ini_Mo : Cond.initialized R_Mo ∈ lw_tbl := List.mem_of_getElem? (i := 39) (by decide +kernel)
theorem ini_La : Cond.initialized R_La ∈ lw_tbl := List.mem_of_getElem? (i := 33) (by decide +kernel)
abbrev c_AW_init : ByteArray := prog_1_method_1_code
def y_AW_init : MethodName := ⟨R_AW, "<init>", "()V"⟩
abbrev c_AW_street : ByteArray := prog_1_method_2_code
def y_AW_street : MethodName := ⟨R_AW, "street", "(I)I"⟩
abbrev c_AW_sign : ByteArray := prog_1_method_3_code
def y_AW_sign : MethodName := ⟨R_AW, "sign", "(IJI)I"⟩
abbrev c_AW_alias : ByteArray := prog_1_method_4_code
def y_AW_alias : MethodName := ⟨R_AW, "alias", "(I)I"⟩
abbrev c_AW_range : ByteArray := prog_1_method_5_code
def y_AW_range : MethodName := ⟨R_AW, "range", "(IIII)I"⟩
abbrev c_AW_line : ByteArray := prog_1_method_6_code
def y_AW_line : MethodName := ⟨R_AW, "line", "(IIIII)I"⟩
abbrev c_AW_close : ByteArray := prog_1_method_7_code
def y_AW_close : MethodName := ⟨R_AW, "close", "(IZ)V"⟩
abbrev c_AW_landmark : ByteArray := prog_1_method_8_code
def y_AW_landmark : MethodName := ⟨R_AW, "landmark", "(IIJI)I"⟩
abbrev c_AW_meet : ByteArray := prog_1_method_9_code
def y_AW_meet : MethodName := ⟨R_AW, "meet", "(IIII)V"⟩
abbrev c_AW_corner : ByteArray := prog_1_method_10_code
def y_AW_corner : MethodName := ⟨R_AW, "corner", "(II)I"⟩
abbrev c_AW_post : ByteArray := prog_1_method_11_code
def y_AW_post : MethodName := ⟨R_AW, "post", "(II)I"⟩
abbrev c_AW_near : ByteArray := prog_1_method_12_code
def y_AW_near : MethodName := ⟨R_AW, "near", "(II)I"⟩
abbrev c_AW_word : ByteArray := prog_1_method_13_code
def y_AW_word : MethodName := ⟨R_AW, "word", "(JI)I"⟩
abbrev c_AW_find : ByteArray := prog_1_method_14_code
def y_AW_find : MethodName := ⟨R_AW, "find", "(I)I"⟩
abbrev c_AW_place : ByteArray := prog_1_method_15_code
def y_AW_place : MethodName := ⟨R_AW, "place", "(II)I"⟩
abbrev c_AW_twice : ByteArray := prog_1_method_16_code
def y_AW_twice : MethodName := ⟨R_AW, "twice", "()I"⟩
abbrev c_AW_knownStreet : ByteArray := prog_1_method_17_code
def y_AW_knownStreet : MethodName := ⟨R_AW, "knownStreet", "(I)LAddressWords$Street;"⟩
abbrev c_AW_forgetPlaces : ByteArray := prog_1_method_18_code
def y_AW_forgetPlaces : MethodName := ⟨R_AW, "forgetPlaces", "()V"⟩
abbrev c_AW_hasLandmarkNamed : ByteArray := prog_1_method_19_code
def y_AW_hasLandmarkNamed : MethodName := ⟨R_AW, "hasLandmarkNamed", "(LAddressWords$Name;)Z"⟩
abbrev c_AW_metresOfCorner : ByteArray := prog_1_method_20_code
def y_AW_metresOfCorner : MethodName := ⟨R_AW, "metresOfCorner", "(II)I"⟩
abbrev c_AW_sharesName : ByteArray := prog_1_method_21_code
def y_AW_sharesName : MethodName := ⟨R_AW, "sharesName", "(I)Z"⟩
abbrev c_AW_rank : ByteArray := prog_1_method_22_code
def y_AW_rank : MethodName := ⟨R_AW, "rank", "(I)V"⟩
abbrev c_AW_distanceOfStreet : ByteArray := prog_1_method_23_code
def y_AW_distanceOfStreet : MethodName := ⟨R_AW, "distanceOfStreet", "(LAddressWords$Street;)I"⟩
abbrev c_AW_nearerDistance : ByteArray := prog_1_method_24_code
def y_AW_nearerDistance : MethodName := ⟨R_AW, "nearerDistance", "(LAddressWords$Name;I)I"⟩
abbrev c_AW_tellCandidate : ByteArray := prog_1_method_25_code
def y_AW_tellCandidate : MethodName := ⟨R_AW, "tellCandidate", "(LAddressWords$Place;II)V"⟩
abbrev c_AW_tellLandmark : ByteArray := prog_1_method_26_code
def y_AW_tellLandmark : MethodName := ⟨R_AW, "tellLandmark", "(LAddressWords$Place;I)V"⟩
abbrev c_AW_tellStreet : ByteArray := prog_1_method_27_code
def y_AW_tellStreet : MethodName := ⟨R_AW, "tellStreet", "(LAddressWords$Place;I)V"⟩
abbrev c_AW_tellWhere : ByteArray := prog_1_method_28_code
def y_AW_tellWhere : MethodName := ⟨R_AW, "tellWhere", "(LAddressWords$Place;II)V"⟩
abbrev c_AW_requireLetters : ByteArray := prog_1_method_29_code
def y_AW_requireLetters : MethodName := ⟨R_AW, "requireLetters", "(JI)V"⟩
abbrev c_AW_requireSigns : ByteArray := prog_1_method_30_code
def y_AW_requireSigns : MethodName := ⟨R_AW, "requireSigns", "(JI)V"⟩
abbrev c_AW_requireHouses : ByteArray := prog_1_method_31_code
def y_AW_requireHouses : MethodName := ⟨R_AW, "requireHouses", "(III)V"⟩
abbrev c_AW_requireHouse : ByteArray := prog_1_method_32_code
def y_AW_requireHouse : MethodName := ⟨R_AW, "requireHouse", "(I)V"⟩
abbrev c_AW_requirePoint : ByteArray := prog_1_method_33_code
def y_AW_requirePoint : MethodName := ⟨R_AW, "requirePoint", "(II)V"⟩
abbrev c_AW_requireMetres : ByteArray := prog_1_method_34_code
def y_AW_requireMetres : MethodName := ⟨R_AW, "requireMetres", "(LAddressWords$Street;I)V"⟩
abbrev c_AW_signAt : ByteArray := prog_1_method_35_code
def y_AW_signAt : MethodName := ⟨R_AW, "signAt", "(JII)C"⟩
abbrev c_AW_isLetter : ByteArray := prog_1_method_36_code
def y_AW_isLetter : MethodName := ⟨R_AW, "isLetter", "(C)Z"⟩
abbrev c_AW_isDigit : ByteArray := prog_1_method_37_code
def y_AW_isDigit : MethodName := ⟨R_AW, "isDigit", "(C)Z"⟩
abbrev c_AW_squareOfWay : ByteArray := prog_1_method_38_code
def y_AW_squareOfWay : MethodName := ⟨R_AW, "squareOfWay", "(IIII)I"⟩
abbrev c_AW_wholeRoot : ByteArray := prog_1_method_39_code
def y_AW_wholeRoot : MethodName := ⟨R_AW, "wholeRoot", "(I)I"⟩
abbrev c_Mo_init : ByteArray := prog_12_method_1_code
def y_Mo_init : MethodName := ⟨R_Mo, "<init>", "()V"⟩
abbrev c_Mo_thrown : ByteArray := prog_12_method_2_code
def y_Mo_thrown : MethodName := ⟨R_Mo, "thrown", "()I"⟩
abbrev c_Mo_in : ByteArray := prog_12_method_3_code
def y_Mo_in : MethodName := ⟨R_Mo, "in", "(III)Z"⟩
abbrev c_Mo_goes : ByteArray := prog_12_method_4_code
def y_Mo_goes : MethodName := ⟨R_Mo, "goes", "(IZZZZ)Z"⟩
abbrev c_Mo_isStreet : ByteArray := prog_12_method_5_code
def y_Mo_isStreet : MethodName := ⟨R_Mo, "isStreet", "(I)Z"⟩
abbrev c_Mo_byteOf : ByteArray := prog_12_method_6_code
def y_Mo_byteOf : MethodName := ⟨R_Mo, "byteOf", "(JII)I"⟩
abbrev c_Mo_areLetters : ByteArray := prog_12_method_7_code
def y_Mo_areLetters : MethodName := ⟨R_Mo, "areLetters", "(JI)Z"⟩
abbrev c_Mo_street : ByteArray := prog_12_method_8_code
def y_Mo_street : MethodName := ⟨R_Mo, "street", "(I)I"⟩
abbrev c_Mo_sign : ByteArray := prog_12_method_9_code
def y_Mo_sign : MethodName := ⟨R_Mo, "sign", "(IJI)I"⟩
abbrev c_Mo_alias : ByteArray := prog_12_method_10_code
def y_Mo_alias : MethodName := ⟨R_Mo, "alias", "(I)I"⟩
abbrev c_Mo_isOf : ByteArray := prog_12_method_11_code
def y_Mo_isOf : MethodName := ⟨R_Mo, "isOf", "(II)Z"⟩
abbrev c_Mo_range : ByteArray := prog_12_method_12_code
def y_Mo_range : MethodName := ⟨R_Mo, "range", "(IIII)I"⟩
abbrev c_Mo_isPlace : ByteArray := prog_12_method_13_code
def y_Mo_isPlace : MethodName := ⟨R_Mo, "isPlace", "(I)Z"⟩
abbrev c_Mo_line : ByteArray := prog_12_method_14_code
def y_Mo_line : MethodName := ⟨R_Mo, "line", "(IIIII)I"⟩
abbrev c_Mo_close : ByteArray := prog_12_method_15_code
def y_Mo_close : MethodName := ⟨R_Mo, "close", "(IZ)V"⟩
abbrev c_Mo_hasMark : ByteArray := prog_12_method_16_code
def y_Mo_hasMark : MethodName := ⟨R_Mo, "hasMark", "(JI)Z"⟩
abbrev c_Mo_landmark : ByteArray := prog_12_method_17_code
def y_Mo_landmark : MethodName := ⟨R_Mo, "landmark", "(IIJI)I"⟩
abbrev c_Mo_cornerOf : ByteArray := prog_12_method_18_code
def y_Mo_cornerOf : MethodName := ⟨R_Mo, "cornerOf", "(II)I"⟩
abbrev c_Mo_meet : ByteArray := prog_12_method_19_code
def y_Mo_meet : MethodName := ⟨R_Mo, "meet", "(IIII)V"⟩
abbrev c_Mo_corner : ByteArray := prog_12_method_20_code
def y_Mo_corner : MethodName := ⟨R_Mo, "corner", "(II)I"⟩
abbrev c_Mo_part : ByteArray := prog_12_method_21_code
def y_Mo_part : MethodName := ⟨R_Mo, "part", "(III)I"⟩
abbrev c_Mo_post : ByteArray := prog_12_method_22_code
def y_Mo_post : MethodName := ⟨R_Mo, "post", "(II)I"⟩
abbrev c_Mo_near : ByteArray := prog_12_method_23_code
def y_Mo_near : MethodName := ⟨R_Mo, "near", "(II)I"⟩
abbrev c_Mo_isSign : ByteArray := prog_12_method_24_code
def y_Mo_isSign : MethodName := ⟨R_Mo, "isSign", "(I)Z"⟩
abbrev c_Mo_word : ByteArray := prog_12_method_25_code
def y_Mo_word : MethodName := ⟨R_Mo, "word", "(JI)I"⟩
abbrev c_Mo_houseSaid : ByteArray := prog_12_method_26_code
def y_Mo_houseSaid : MethodName := ⟨R_Mo, "houseSaid", "()I"⟩
abbrev c_Mo_least : ByteArray := prog_12_method_27_code
def y_Mo_least : MethodName := ⟨R_Mo, "least", "(II)I"⟩
abbrev c_Mo_distance : ByteArray := prog_12_method_28_code
def y_Mo_distance : MethodName := ⟨R_Mo, "distance", "(II)I"⟩
abbrev c_Mo_nearest : ByteArray := prog_12_method_29_code
def y_Mo_nearest : MethodName := ⟨R_Mo, "nearest", "(I)I"⟩
abbrev c_Mo_apartStreet : ByteArray := prog_12_method_30_code
def y_Mo_apartStreet : MethodName := ⟨R_Mo, "apartStreet", "(I)I"⟩
abbrev c_Mo_apartMark : ByteArray := prog_12_method_31_code
def y_Mo_apartMark : MethodName := ⟨R_Mo, "apartMark", "(I)I"⟩
abbrev c_Mo_find : ByteArray := prog_12_method_32_code
def y_Mo_find : MethodName := ⟨R_Mo, "find", "(I)I"⟩
abbrev c_Mo_isFound : ByteArray := prog_12_method_33_code
def y_Mo_isFound : MethodName := ⟨R_Mo, "isFound", "(I)Z"⟩
abbrev c_Mo_isHouse : ByteArray := prog_12_method_34_code
def y_Mo_isHouse : MethodName := ⟨R_Mo, "isHouse", "(II)Z"⟩
abbrev c_Mo_nearestHouse : ByteArray := prog_12_method_35_code
def y_Mo_nearestHouse : MethodName := ⟨R_Mo, "nearestHouse", "(II)I"⟩
abbrev c_Mo_reason : ByteArray := prog_12_method_36_code
def y_Mo_reason : MethodName := ⟨R_Mo, "reason", "(I)I"⟩
abbrev c_Mo_place : ByteArray := prog_12_method_37_code
def y_Mo_place : MethodName := ⟨R_Mo, "place", "(II)I"⟩
abbrev c_Mo_isSame : ByteArray := prog_12_method_38_code
def y_Mo_isSame : MethodName := ⟨R_Mo, "isSame", "(II)Z"⟩
abbrev c_Mo_share : ByteArray := prog_12_method_39_code
def y_Mo_share : MethodName := ⟨R_Mo, "share", "(II)Z"⟩
abbrev c_Mo_twice : ByteArray := prog_12_method_40_code
def y_Mo_twice : MethodName := ⟨R_Mo, "twice", "()I"⟩
abbrev c_Co_init : ByteArray := prog_2_method_1_code
def y_Co_init : MethodName := ⟨R_Co, "<init>", "(IIII)V"⟩
abbrev c_Ed_init : ByteArray := prog_3_method_1_code
def y_Ed_init : MethodName := ⟨R_Ed, "<init>", "()V"⟩
abbrev c_Ed_count : ByteArray := prog_3_method_2_code
def y_Ed_count : MethodName := ⟨R_Ed, "count", "([CIILAddressWords$Name;)I"⟩
abbrev c_Ed_turnRows : ByteArray := prog_3_method_3_code
def y_Ed_turnRows : MethodName := ⟨R_Ed, "turnRows", "()V"⟩
abbrev c_Ed_fillRow : ByteArray := prog_3_method_4_code
def y_Ed_fillRow : MethodName := ⟨R_Ed, "fillRow", "(ICCLAddressWords$Name;)V"⟩
abbrev c_HR_init : ByteArray := prog_4_method_1_code
def y_HR_init : MethodName := ⟨R_HR, "<init>", "(III)V"⟩
abbrev c_HR_firstFrom : ByteArray := prog_4_method_2_code
def y_HR_firstFrom : MethodName := ⟨R_HR, "firstFrom", "(II)I"⟩
abbrev c_HR_lastTo : ByteArray := prog_4_method_3_code
def y_HR_lastTo : MethodName := ⟨R_HR, "lastTo", "(II)I"⟩
abbrev c_HR_isOnSide : ByteArray := prog_4_method_4_code
def y_HR_isOnSide : MethodName := ⟨R_HR, "isOnSide", "(II)Z"⟩
abbrev c_HR_nearestTo : ByteArray := prog_4_method_5_code
def y_HR_nearestTo : MethodName := ⟨R_HR, "nearestTo", "(I)I"⟩
abbrev c_LM_init : ByteArray := prog_5_method_1_code
def y_LM_init : MethodName := ⟨R_LM, "<init>", "(II)V"⟩
abbrev c_Na_init : ByteArray := prog_6_method_1_code
def y_Na_init : MethodName := ⟨R_Na, "<init>", "()V"⟩
abbrev c_Na_isEmpty : ByteArray := prog_6_method_2_code
def y_Na_isEmpty : MethodName := ⟨R_Na, "isEmpty", "()Z"⟩
abbrev c_Na_hasRoomFor : ByteArray := prog_6_method_3_code
def y_Na_hasRoomFor : MethodName := ⟨R_Na, "hasRoomFor", "(I)Z"⟩
abbrev c_Na_append : ByteArray := prog_6_method_4_code
def y_Na_append : MethodName := ⟨R_Na, "append", "(JI)V"⟩
abbrev c_Na_isSameAs : ByteArray := prog_6_method_5_code
def y_Na_isSameAs : MethodName := ⟨R_Na, "isSameAs", "(LAddressWords$Name;)Z"⟩
abbrev c_Pl_init : ByteArray := prog_7_method_1_code
def y_Pl_init : MethodName := ⟨R_Pl, "<init>", "()V"⟩
abbrev c_Ra_init : ByteArray := prog_8_method_1_code
def y_Ra_init : MethodName := ⟨R_Ra, "<init>", "()V"⟩
abbrev c_Ra_begin : ByteArray := prog_8_method_2_code
def y_Ra_begin : MethodName := ⟨R_Ra, "begin", "(I)V"⟩
abbrev c_Ra_offer : ByteArray := prog_8_method_3_code
def y_Ra_offer : MethodName := ⟨R_Ra, "offer", "(II)V"⟩
abbrev c_Sa_init : ByteArray := prog_9_method_1_code
def y_Sa_init : MethodName := ⟨R_Sa, "<init>", "()V"⟩
abbrev c_Sa_hasRoomFor : ByteArray := prog_9_method_2_code
def y_Sa_hasRoomFor : MethodName := ⟨R_Sa, "hasRoomFor", "(I)Z"⟩
abbrev c_Sa_clear : ByteArray := prog_9_method_3_code
def y_Sa_clear : MethodName := ⟨R_Sa, "clear", "()V"⟩
abbrev c_Sa_append : ByteArray := prog_9_method_4_code
def y_Sa_append : MethodName := ⟨R_Sa, "append", "(JI)V"⟩
abbrev c_Sa_lookThrough : ByteArray := prog_9_method_5_code
def y_Sa_lookThrough : MethodName := ⟨R_Sa, "lookThrough", "()V"⟩
abbrev c_Sa_takeLetter : ByteArray := prog_9_method_6_code
def y_Sa_takeLetter : MethodName := ⟨R_Sa, "takeLetter", "(I)V"⟩
abbrev c_Sa_takeDigit : ByteArray := prog_9_method_7_code
def y_Sa_takeDigit : MethodName := ⟨R_Sa, "takeDigit", "(I)V"⟩
abbrev c_St_init : ByteArray := prog_10_method_1_code
def y_St_init : MethodName := ⟨R_St, "<init>", "(I)V"⟩
abbrev c_St_latestName : ByteArray := prog_10_method_2_code
def y_St_latestName : MethodName := ⟨R_St, "latestName", "()LAddressWords$Name;"⟩
abbrev c_St_draw : ByteArray := prog_10_method_3_code
def y_St_draw : MethodName := ⟨R_St, "draw", "(IIII)V"⟩
abbrev c_St_between : ByteArray := prog_10_method_4_code
def y_St_between : MethodName := ⟨R_St, "between", "(III)I"⟩
abbrev c_St_hasHouse : ByteArray := prog_10_method_5_code
def y_St_hasHouse : MethodName := ⟨R_St, "hasHouse", "(I)Z"⟩
abbrev c_St_nearestHouse : ByteArray := prog_10_method_6_code
def y_St_nearestHouse : MethodName := ⟨R_St, "nearestHouse", "(I)I"⟩
abbrev c_St_isNearer : ByteArray := prog_10_method_7_code
def y_St_isNearer : MethodName := ⟨R_St, "isNearer", "(III)Z"⟩
abbrev c_St_sharesNameWith : ByteArray := prog_10_method_8_code
def y_St_sharesNameWith : MethodName := ⟨R_St, "sharesNameWith", "(LAddressWords$Street;)Z"⟩
abbrev c_St_hasName : ByteArray := prog_10_method_9_code
def y_St_hasName : MethodName := ⟨R_St, "hasName", "(LAddressWords$Name;)Z"⟩
abbrev c_La_street : ByteArray := method_3_code
def y_La_street : MethodName := ⟨R_La, "street", "(LAddressWords;I[J)I"⟩
abbrev c_La_sign : ByteArray := method_4_code
def y_La_sign : MethodName := ⟨R_La, "sign", "(LAddressWords;IJI[J)I"⟩
abbrev c_La_alias : ByteArray := method_5_code
def y_La_alias : MethodName := ⟨R_La, "alias", "(LAddressWords;I[J)I"⟩
abbrev c_La_range : ByteArray := method_6_code
def y_La_range : MethodName := ⟨R_La, "range", "(LAddressWords;IIII[J)I"⟩
abbrev c_La_line : ByteArray := method_7_code
def y_La_line : MethodName := ⟨R_La, "line", "(LAddressWords;IIIII[J)I"⟩
abbrev c_La_close : ByteArray := method_8_code
def y_La_close : MethodName := ⟨R_La, "close", "(LAddressWords;IZ)I"⟩
abbrev c_La_landmark : ByteArray := method_9_code
def y_La_landmark : MethodName := ⟨R_La, "landmark", "(LAddressWords;IIJI[J)I"⟩
abbrev c_La_meet : ByteArray := method_10_code
def y_La_meet : MethodName := ⟨R_La, "meet", "(LAddressWords;IIII)I"⟩
abbrev c_La_corner : ByteArray := method_11_code
def y_La_corner : MethodName := ⟨R_La, "corner", "(LAddressWords;II[J)I"⟩
abbrev c_La_post : ByteArray := method_12_code
def y_La_post : MethodName := ⟨R_La, "post", "(LAddressWords;II[J)I"⟩
abbrev c_La_near : ByteArray := method_13_code
def y_La_near : MethodName := ⟨R_La, "near", "(LAddressWords;II[J)I"⟩
abbrev c_La_word : ByteArray := method_14_code
def y_La_word : MethodName := ⟨R_La, "word", "(LAddressWords;JI[J)I"⟩
abbrev c_La_find : ByteArray := method_15_code
def y_La_find : MethodName := ⟨R_La, "find", "(LAddressWords;I[J)I"⟩
abbrev c_La_place : ByteArray := method_16_code
def y_La_place : MethodName := ⟨R_La, "place", "(LAddressWords;II[J)I"⟩
abbrev c_La_law : ByteArray := code
def y_La_law : MethodName := ⟨R_La, "law", "([I)Z"⟩
