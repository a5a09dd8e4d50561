def R_GoodbyeAll : String := "GoodbyeAll"
def F_GoodbyeAll : u_T := fun k => match k with
  | 0 => ("GoodbyeAll", "house", "LGoodbyeAll$House;", true)
  | 1 => ("GoodbyeAll", "law", "LGoodbyeAll$Law;", true)
  | 2 => ("GoodbyeAll", "tape", "LGoodbyeAll$Tape;", true)
  | 3 => ("GoodbyeAll", "leaver", "LGoodbyeAll$Leaver;", true)
  | 4 => ("GoodbyeAll", "search", "LGoodbyeAll$Search;", true)
  | 5 => ("GoodbyeAll", "two", "LGoodbyeAll$Pair;", true)
  | 6 => ("GoodbyeAll", "party", "LGoodbyeAll$Party;", true)
  | 7 => ("GoodbyeAll", "evening", "LGoodbyeAll$Evening;", true)
  | 8 => ("GoodbyeAll", "changes", "LGoodbyeAll$Changes;", true)
  | 9 => ("GoodbyeAll", "bodies", "LGoodbyeAll$Bodies;", true)
  | _ => ("GoodbyeAll", "shelves", "[LGoodbyeAll$Shelf;", true)
def t_GoodbyeAll : Nat → FieldType := fun k => match k with
  | 0 => .object "GoodbyeAll$House"
  | 1 => .object "GoodbyeAll$Law"
  | 2 => .object "GoodbyeAll$Tape"
  | 3 => .object "GoodbyeAll$Leaver"
  | 4 => .object "GoodbyeAll$Search"
  | 5 => .object "GoodbyeAll$Pair"
  | 6 => .object "GoodbyeAll$Party"
  | 7 => .object "GoodbyeAll$Evening"
  | 8 => .object "GoodbyeAll$Changes"
  | 9 => .object "GoodbyeAll$Bodies"
  | _ => .array (.object "GoodbyeAll$Shelf")
theorem n_GoodbyeAll : ∀ a, a < 11 → ∀ b, b < 11 → a ≠ b → (F_GoodbyeAll a).2.1 ≠ (F_GoodbyeAll b).2.1 := by decide +kernel
theorem t_GoodbyeAll_ok : ∀ k, k < 11 → parseFieldDescriptor (F_GoodbyeAll k).2.2.1 = some (t_GoodbyeAll k) := by decide +kernel
theorem i_GoodbyeAll : ∀ w ∈ u_ws R_GoodbyeAll F_GoodbyeAll 11, w ∈ lw_tbl := by decide +kernel
theorem ig_GoodbyeAll : (u_ws R_GoodbyeAll F_GoodbyeAll 11).all goodWord = true := by decide +kernel
def R_House : String := "GoodbyeAll$House"
def F_House : u_T := fun k => match k with
  | 0 => ("GoodbyeAll$House", "facts", "[[I", true)
  | 1 => ("GoodbyeAll$House", "ways", "[I", true)
  | 2 => ("GoodbyeAll$House", "present", "[[I", true)
  | 3 => ("GoodbyeAll$House", "guests", "I", false)
  | 4 => ("GoodbyeAll$House", "mustBits", "I", false)
  | _ => ("GoodbyeAll$House", "hostBits", "I", false)
def t_House : Nat → FieldType := fun k => match k with
  | 0 => .array (.array .int)
  | 1 => .array .int
  | 2 => .array (.array .int)
  | 3 => .int
  | 4 => .int
  | _ => .int
theorem n_House : ∀ a, a < 6 → ∀ b, b < 6 → a ≠ b → (F_House a).2.1 ≠ (F_House b).2.1 := by decide +kernel
theorem t_House_ok : ∀ k, k < 6 → parseFieldDescriptor (F_House k).2.2.1 = some (t_House k) := by decide +kernel
theorem i_House : ∀ w ∈ u_ws R_House F_House 6, w ∈ lw_tbl := by decide +kernel
theorem ig_House : (u_ws R_House F_House 6).all goodWord = true := by decide +kernel
def R_Law : String := "GoodbyeAll$Law"
def F_Law : u_T := fun k => match k with
  | 0 => ("GoodbyeAll$Law", "steps", "[I", true)
  | 1 => ("GoodbyeAll$Law", "values", "[I", true)
  | 2 => ("GoodbyeAll$Law", "names", "[I", true)
  | 3 => ("GoodbyeAll$Law", "stack", "[I", true)
  | 4 => ("GoodbyeAll$Law", "size", "I", false)
  | _ => ("GoodbyeAll$Law", "top", "I", false)
def t_Law : Nat → FieldType := fun k => match k with
  | 0 => .array .int
  | 1 => .array .int
  | 2 => .array .int
  | 3 => .array .int
  | 4 => .int
  | _ => .int
theorem n_Law : ∀ a, a < 6 → ∀ b, b < 6 → a ≠ b → (F_Law a).2.1 ≠ (F_Law b).2.1 := by decide +kernel
theorem t_Law_ok : ∀ k, k < 6 → parseFieldDescriptor (F_Law k).2.2.1 = some (t_Law k) := by decide +kernel
theorem i_Law : ∀ w ∈ u_ws R_Law F_Law 6, w ∈ lw_tbl := by decide +kernel
theorem ig_Law : (u_ws R_Law F_Law 6).all goodWord = true := by decide +kernel
def R_Tape : String := "GoodbyeAll$Tape"
def F_Tape : u_T := fun k => match k with
  | 0 => ("GoodbyeAll$Tape", "bytes", "[I", true)
  | 1 => ("GoodbyeAll$Tape", "steps", "[I", true)
  | 2 => ("GoodbyeAll$Tape", "values", "[I", true)
  | 3 => ("GoodbyeAll$Tape", "length", "I", false)
  | 4 => ("GoodbyeAll$Tape", "place", "I", false)
  | _ => ("GoodbyeAll$Tape", "size", "I", false)
def t_Tape : Nat → FieldType := fun k => match k with
  | 0 => .array .int
  | 1 => .array .int
  | 2 => .array .int
  | 3 => .int
  | 4 => .int
  | _ => .int
theorem n_Tape : ∀ a, a < 6 → ∀ b, b < 6 → a ≠ b → (F_Tape a).2.1 ≠ (F_Tape b).2.1 := by decide +kernel
theorem t_Tape_ok : ∀ k, k < 6 → parseFieldDescriptor (F_Tape k).2.2.1 = some (t_Tape k) := by decide +kernel
theorem i_Tape : ∀ w ∈ u_ws R_Tape F_Tape 6, w ∈ lw_tbl := by decide +kernel
theorem ig_Tape : (u_ws R_Tape F_Tape 6).all goodWord = true := by decide +kernel
def R_Leaver : String := "GoodbyeAll$Leaver"
def F_Leaver : u_T := fun k => match k with
  | 0 => ("GoodbyeAll$Leaver", "house", "LGoodbyeAll$House;", true)
  | 1 => ("GoodbyeAll$Leaver", "law", "LGoodbyeAll$Law;", true)
  | 2 => ("GoodbyeAll$Leaver", "room", "I", false)
  | 3 => ("GoodbyeAll$Leaver", "minute", "I", false)
  | _ => ("GoodbyeAll$Leaver", "told", "I", false)
def t_Leaver : Nat → FieldType := fun k => match k with
  | 0 => .object "GoodbyeAll$House"
  | 1 => .object "GoodbyeAll$Law"
  | 2 => .int
  | 3 => .int
  | _ => .int
theorem n_Leaver : ∀ a, a < 5 → ∀ b, b < 5 → a ≠ b → (F_Leaver a).2.1 ≠ (F_Leaver b).2.1 := by decide +kernel
theorem t_Leaver_ok : ∀ k, k < 5 → parseFieldDescriptor (F_Leaver k).2.2.1 = some (t_Leaver k) := by decide +kernel
theorem i_Leaver : ∀ w ∈ u_ws R_Leaver F_Leaver 5, w ∈ lw_tbl := by decide +kernel
theorem ig_Leaver : (u_ws R_Leaver F_Leaver 5).all goodWord = true := by decide +kernel
def R_Search : String := "GoodbyeAll$Search"
def F_Search : u_T := fun k => match k with
  | 0 => ("GoodbyeAll$Search", "house", "LGoodbyeAll$House;", true)
  | 1 => ("GoodbyeAll$Search", "law", "LGoodbyeAll$Law;", true)
  | 2 => ("GoodbyeAll$Search", "row", "[I", true)
  | 3 => ("GoodbyeAll$Search", "best", "[I", true)
  | 4 => ("GoodbyeAll$Search", "bestLength", "I", false)
  | 5 => ("GoodbyeAll$Search", "bestHome", "I", false)
  | _ => ("GoodbyeAll$Search", "found", "Z", false)
def t_Search : Nat → FieldType := fun k => match k with
  | 0 => .object "GoodbyeAll$House"
  | 1 => .object "GoodbyeAll$Law"
  | 2 => .array .int
  | 3 => .array .int
  | 4 => .int
  | 5 => .int
  | _ => .boolean
theorem n_Search : ∀ a, a < 7 → ∀ b, b < 7 → a ≠ b → (F_Search a).2.1 ≠ (F_Search b).2.1 := by decide +kernel
theorem t_Search_ok : ∀ k, k < 7 → parseFieldDescriptor (F_Search k).2.2.1 = some (t_Search k) := by decide +kernel
theorem i_Search : ∀ w ∈ u_ws R_Search F_Search 7, w ∈ lw_tbl := by decide +kernel
theorem ig_Search : (u_ws R_Search F_Search 7).all goodWord = true := by decide +kernel
def R_Pair : String := "GoodbyeAll$Pair"
def F_Pair : u_T := fun k => match k with
  | 0 => ("GoodbyeAll$Pair", "house", "LGoodbyeAll$House;", true)
  | 1 => ("GoodbyeAll$Pair", "one", "LGoodbyeAll$Leaver;", true)
  | 2 => ("GoodbyeAll$Pair", "other", "LGoodbyeAll$Leaver;", true)
  | 3 => ("GoodbyeAll$Pair", "ends", "[[I", true)
  | 4 => ("GoodbyeAll$Pair", "whoms", "[[I", true)
  | 5 => ("GoodbyeAll$Pair", "said", "I", false)
  | _ => ("GoodbyeAll$Pair", "otherSaid", "I", false)
def t_Pair : Nat → FieldType := fun k => match k with
  | 0 => .object "GoodbyeAll$House"
  | 1 => .object "GoodbyeAll$Leaver"
  | 2 => .object "GoodbyeAll$Leaver"
  | 3 => .array (.array .int)
  | 4 => .array (.array .int)
  | 5 => .int
  | _ => .int
theorem n_Pair : ∀ a, a < 7 → ∀ b, b < 7 → a ≠ b → (F_Pair a).2.1 ≠ (F_Pair b).2.1 := by decide +kernel
theorem t_Pair_ok : ∀ k, k < 7 → parseFieldDescriptor (F_Pair k).2.2.1 = some (t_Pair k) := by decide +kernel
theorem i_Pair : ∀ w ∈ u_ws R_Pair F_Pair 7, w ∈ lw_tbl := by decide +kernel
theorem ig_Pair : (u_ws R_Pair F_Pair 7).all goodWord = true := by decide +kernel
def R_Party : String := "GoodbyeAll$Party"
def F_Party : u_T := fun k => match k with
  | 0 => ("GoodbyeAll$Party", "house", "LGoodbyeAll$House;", true)
  | 1 => ("GoodbyeAll$Party", "leaving", "[I", true)
  | _ => ("GoodbyeAll$Party", "waves", "I", false)
def t_Party : Nat → FieldType := fun k => match k with
  | 0 => .object "GoodbyeAll$House"
  | 1 => .array .int
  | _ => .int
theorem n_Party : ∀ a, a < 3 → ∀ b, b < 3 → a ≠ b → (F_Party a).2.1 ≠ (F_Party b).2.1 := by decide +kernel
theorem t_Party_ok : ∀ k, k < 3 → parseFieldDescriptor (F_Party k).2.2.1 = some (t_Party k) := by decide +kernel
theorem i_Party : ∀ w ∈ u_ws R_Party F_Party 3, w ∈ lw_tbl := by decide +kernel
theorem ig_Party : (u_ws R_Party F_Party 3).all goodWord = true := by decide +kernel
def R_Evening : String := "GoodbyeAll$Evening"
def F_Evening : u_T := fun k => match k with
  | 0 => ("GoodbyeAll$Evening", "house", "LGoodbyeAll$House;", true)
  | 1 => ("GoodbyeAll$Evening", "leaver", "LGoodbyeAll$Leaver;", true)
  | 2 => ("GoodbyeAll$Evening", "kept", "[I", true)
  | 3 => ("GoodbyeAll$Evening", "imageKept", "Z", false)
  | 4 => ("GoodbyeAll$Evening", "goodbyes", "I", false)
  | 5 => ("GoodbyeAll$Evening", "done", "I", false)
  | _ => ("GoodbyeAll$Evening", "evenings", "I", false)
def t_Evening : Nat → FieldType := fun k => match k with
  | 0 => .object "GoodbyeAll$House"
  | 1 => .object "GoodbyeAll$Leaver"
  | 2 => .array .int
  | 3 => .boolean
  | 4 => .int
  | 5 => .int
  | _ => .int
theorem n_Evening : ∀ a, a < 7 → ∀ b, b < 7 → a ≠ b → (F_Evening a).2.1 ≠ (F_Evening b).2.1 := by decide +kernel
theorem t_Evening_ok : ∀ k, k < 7 → parseFieldDescriptor (F_Evening k).2.2.1 = some (t_Evening k) := by decide +kernel
theorem i_Evening : ∀ w ∈ u_ws R_Evening F_Evening 7, w ∈ lw_tbl := by decide +kernel
theorem ig_Evening : (u_ws R_Evening F_Evening 7).all goodWord = true := by decide +kernel
def R_Changes : String := "GoodbyeAll$Changes"
def F_Changes : u_T := fun k => match k with
  | 0 => ("GoodbyeAll$Changes", "house", "LGoodbyeAll$House;", true)
  | 1 => ("GoodbyeAll$Changes", "numbers", "[I", true)
  | 2 => ("GoodbyeAll$Changes", "whats", "[I", true)
  | 3 => ("GoodbyeAll$Changes", "befores", "[I", true)
  | 4 => ("GoodbyeAll$Changes", "afters", "[I", true)
  | 5 => ("GoodbyeAll$Changes", "done", "I", false)
  | _ => ("GoodbyeAll$Changes", "known", "I", false)
def t_Changes : Nat → FieldType := fun k => match k with
  | 0 => .object "GoodbyeAll$House"
  | 1 => .array .int
  | 2 => .array .int
  | 3 => .array .int
  | 4 => .array .int
  | 5 => .int
  | _ => .int
theorem n_Changes : ∀ a, a < 7 → ∀ b, b < 7 → a ≠ b → (F_Changes a).2.1 ≠ (F_Changes b).2.1 := by decide +kernel
theorem t_Changes_ok : ∀ k, k < 7 → parseFieldDescriptor (F_Changes k).2.2.1 = some (t_Changes k) := by decide +kernel
theorem i_Changes : ∀ w ∈ u_ws R_Changes F_Changes 7, w ∈ lw_tbl := by decide +kernel
theorem ig_Changes : (u_ws R_Changes F_Changes 7).all goodWord = true := by decide +kernel
def R_Bodies : String := "GoodbyeAll$Bodies"
def F_Bodies : u_T := fun k => match k with
  | 0 => ("GoodbyeAll$Bodies", "kinds", "[I", true)
  | 1 => ("GoodbyeAll$Bodies", "ran", "[I", true)
  | 2 => ("GoodbyeAll$Bodies", "bodies", "I", false)
  | _ => ("GoodbyeAll$Bodies", "runs", "I", false)
def t_Bodies : Nat → FieldType := fun k => match k with
  | 0 => .array .int
  | 1 => .array .int
  | 2 => .int
  | _ => .int
theorem n_Bodies : ∀ a, a < 4 → ∀ b, b < 4 → a ≠ b → (F_Bodies a).2.1 ≠ (F_Bodies b).2.1 := by decide +kernel
theorem t_Bodies_ok : ∀ k, k < 4 → parseFieldDescriptor (F_Bodies k).2.2.1 = some (t_Bodies k) := by decide +kernel
theorem i_Bodies : ∀ w ∈ u_ws R_Bodies F_Bodies 4, w ∈ lw_tbl := by decide +kernel
theorem ig_Bodies : (u_ws R_Bodies F_Bodies 4).all goodWord = true := by decide +kernel
def R_Shelf : String := "GoodbyeAll$Shelf"
def F_Shelf : u_T := fun k => match k with
  | 0 => ("GoodbyeAll$Shelf", "elements", "[J", true)
  | 1 => ("GoodbyeAll$Shelf", "holding", "I", false)
  | 2 => ("GoodbyeAll$Shelf", "body", "I", false)
  | 3 => ("GoodbyeAll$Shelf", "sort", "I", false)
  | _ => ("GoodbyeAll$Shelf", "size", "I", false)
def t_Shelf : Nat → FieldType := fun k => match k with
  | 0 => .array .long
  | 1 => .int
  | 2 => .int
  | 3 => .int
  | _ => .int
theorem n_Shelf : ∀ a, a < 5 → ∀ b, b < 5 → a ≠ b → (F_Shelf a).2.1 ≠ (F_Shelf b).2.1 := by decide +kernel
theorem t_Shelf_ok : ∀ k, k < 5 → parseFieldDescriptor (F_Shelf k).2.2.1 = some (t_Shelf k) := by decide +kernel
theorem i_Shelf : ∀ w ∈ u_ws R_Shelf F_Shelf 5, w ∈ lw_tbl := by decide +kernel
theorem ig_Shelf : (u_ws R_Shelf F_Shelf 5).all goodWord = true := by decide +kernel
def R_Model : String := "GoodbyeAllModel"
def F_Model : u_T := fun k => match k with
  | 0 => ("GoodbyeAllModel", "code", "I", false)
  | 1 => ("GoodbyeAllModel", "guests", "I", false)
  | 2 => ("GoodbyeAllModel", "first1", "[I", true)
  | 3 => ("GoodbyeAllModel", "second1", "[I", true)
  | 4 => ("GoodbyeAllModel", "changes1", "[I", true)
  | 5 => ("GoodbyeAllModel", "talk", "[I", true)
  | 6 => ("GoodbyeAllModel", "must", "[I", true)
  | 7 => ("GoodbyeAllModel", "host", "[I", true)
  | 8 => ("GoodbyeAllModel", "leaves", "[I", true)
  | 9 => ("GoodbyeAllModel", "ways", "[I", true)
  | 10 => ("GoodbyeAllModel", "doneMany", "I", false)
  | 11 => ("GoodbyeAllModel", "undoneMany", "I", false)
  | 12 => ("GoodbyeAllModel", "changeOf", "[I", true)
  | 13 => ("GoodbyeAllModel", "changeAt", "[I", true)
  | 14 => ("GoodbyeAllModel", "before", "[I", true)
  | 15 => ("GoodbyeAllModel", "behind", "[I", true)
  | 16 => ("GoodbyeAllModel", "tape", "[B", true)
  | 17 => ("GoodbyeAllModel", "taped", "I", false)
  | 18 => ("GoodbyeAllModel", "here", "I", false)
  | 19 => ("GoodbyeAllModel", "fault", "I", false)
  | 20 => ("GoodbyeAllModel", "open", "I", false)
  | 21 => ("GoodbyeAllModel", "laid", "I", false)
  | 22 => ("GoodbyeAllModel", "act", "[B", true)
  | 23 => ("GoodbyeAllModel", "with", "[I", true)
  | 24 => ("GoodbyeAllModel", "lineMany", "[I", true)
  | 25 => ("GoodbyeAllModel", "testEnd", "[S", true)
  | 26 => ("GoodbyeAllModel", "lineEnd", "[S", true)
  | 27 => ("GoodbyeAllModel", "facts", "[I", true)
  | 28 => ("GoodbyeAllModel", "pile", "[I", true)
  | 29 => ("GoodbyeAllModel", "hasLaw", "Z", false)
  | 30 => ("GoodbyeAllModel", "room1", "I", false)
  | 31 => ("GoodbyeAllModel", "minute1", "I", false)
  | 32 => ("GoodbyeAllModel", "told1", "I", false)
  | 33 => ("GoodbyeAllModel", "row", "[I", true)
  | 34 => ("GoodbyeAllModel", "bestRow", "[I", true)
  | 35 => ("GoodbyeAllModel", "bestMany", "I", false)
  | 36 => ("GoodbyeAllModel", "bestHome", "I", false)
  | 37 => ("GoodbyeAllModel", "pairRoom", "[I", true)
  | 38 => ("GoodbyeAllModel", "pairMinute", "[I", true)
  | 39 => ("GoodbyeAllModel", "pairAt", "[I", true)
  | 40 => ("GoodbyeAllModel", "saidMany", "[I", true)
  | 41 => ("GoodbyeAllModel", "said", "[I", true)
  | 42 => ("GoodbyeAllModel", "saidEnd", "[I", true)
  | 43 => ("GoodbyeAllModel", "heap", "[I", true)
  | 44 => ("GoodbyeAllModel", "piled", "I", false)
  | 45 => ("GoodbyeAllModel", "waves", "I", false)
  | 46 => ("GoodbyeAllModel", "deed", "[I", true)
  | 47 => ("GoodbyeAllModel", "kept", "[I", true)
  | 48 => ("GoodbyeAllModel", "hasImage", "Z", false)
  | 49 => ("GoodbyeAllModel", "bodies", "I", false)
  | 50 => ("GoodbyeAllModel", "kind", "[I", true)
  | 51 => ("GoodbyeAllModel", "traces", "I", false)
  | 52 => ("GoodbyeAllModel", "traced", "[I", true)
  | 53 => ("GoodbyeAllModel", "holds", "[I", true)
  | 54 => ("GoodbyeAllModel", "size", "[I", true)
  | 55 => ("GoodbyeAllModel", "elements", "[J", true)
  | _ => ("GoodbyeAllModel", "shifted", "[J", true)
def t_Model : Nat → FieldType := fun k => match k with
  | 0 => .int
  | 1 => .int
  | 2 => .array .int
  | 3 => .array .int
  | 4 => .array .int
  | 5 => .array .int
  | 6 => .array .int
  | 7 => .array .int
  | 8 => .array .int
  | 9 => .array .int
  | 10 => .int
  | 11 => .int
  | 12 => .array .int
  | 13 => .array .int
  | 14 => .array .int
  | 15 => .array .int
  | 16 => .array .byte
  | 17 => .int
  | 18 => .int
  | 19 => .int
  | 20 => .int
  | 21 => .int
  | 22 => .array .byte
  | 23 => .array .int
  | 24 => .array .int
  | 25 => .array .short
  | 26 => .array .short
  | 27 => .array .int
  | 28 => .array .int
  | 29 => .boolean
  | 30 => .int
  | 31 => .int
  | 32 => .int
  | 33 => .array .int
  | 34 => .array .int
  | 35 => .int
  | 36 => .int
  | 37 => .array .int
  | 38 => .array .int
  | 39 => .array .int
  | 40 => .array .int
  | 41 => .array .int
  | 42 => .array .int
  | 43 => .array .int
  | 44 => .int
  | 45 => .int
  | 46 => .array .int
  | 47 => .array .int
  | 48 => .boolean
  | 49 => .int
  | 50 => .array .int
  | 51 => .int
  | 52 => .array .int
  | 53 => .array .int
  | 54 => .array .int
  | 55 => .array .long
  | _ => .array .long
theorem n_Model : ∀ a, a < 57 → ∀ b, b < 57 → a ≠ b → (F_Model a).2.1 ≠ (F_Model b).2.1 := by decide +kernel
theorem t_Model_ok : ∀ k, k < 57 → parseFieldDescriptor (F_Model k).2.2.1 = some (t_Model k) := by decide +kernel
theorem i_Model : ∀ w ∈ u_ws R_Model F_Model 57, w ∈ lw_tbl := by decide +kernel
theorem ig_Model : (u_ws R_Model F_Model 57).all goodWord = true := by decide +kernel
/-- the classes whose objects the worlds hold -/
abbrev CL : List vw_C := [(R_GoodbyeAll, F_GoodbyeAll, 11), (R_House, F_House, 6), (R_Law, F_Law, 6), (R_Tape, F_Tape, 6), (R_Leaver, F_Leaver, 5), (R_Search, F_Search, 7), (R_Pair, F_Pair, 7), (R_Party, F_Party, 3), (R_Evening, F_Evening, 7), (R_Changes, F_Changes, 7), (R_Bodies, F_Bodies, 4), (R_Shelf, F_Shelf, 5), (R_Model, F_Model, 57)]
def tyOf : Nat → Nat → FieldType := fun c => match c with
  | 0 => t_GoodbyeAll
  | 1 => t_House
  | 2 => t_Law
  | 3 => t_Tape
  | 4 => t_Leaver
  | 5 => t_Search
  | 6 => t_Pair
  | 7 => t_Party
  | 8 => t_Evening
  | 9 => t_Changes
  | 10 => t_Bodies
  | 11 => t_Shelf
  | _ => t_Model
/-- what is known of a class of the list -/
theorem CL_ok : ∀ (ci : Nat) (C : String) (T : u_T) (N : Nat), CL[ci]? = some (C, T, N) → (∀ a, a < N → ∀ b, b < N → a ≠ b → (T a).2.1 ≠ (T b).2.1) ∧ (∀ k, k < N → parseFieldDescriptor (T k).2.2.1 = some (tyOf ci k)) ∧ (∀ w ∈ u_ws C T N, w ∈ gw_tbl) := by
  intro ci C T N h
  match ci, h with
  | 0, h => cases h; exact ⟨n_GoodbyeAll, t_GoodbyeAll_ok, fun w hw => gw_of (i_GoodbyeAll w hw) (List.all_eq_true.mp ig_GoodbyeAll w hw)⟩
  | 1, h => cases h; exact ⟨n_House, t_House_ok, fun w hw => gw_of (i_House w hw) (List.all_eq_true.mp ig_House w hw)⟩
  | 2, h => cases h; exact ⟨n_Law, t_Law_ok, fun w hw => gw_of (i_Law w hw) (List.all_eq_true.mp ig_Law w hw)⟩
  | 3, h => cases h; exact ⟨n_Tape, t_Tape_ok, fun w hw => gw_of (i_Tape w hw) (List.all_eq_true.mp ig_Tape w hw)⟩
  | 4, h => cases h; exact ⟨n_Leaver, t_Leaver_ok, fun w hw => gw_of (i_Leaver w hw) (List.all_eq_true.mp ig_Leaver w hw)⟩
  | 5, h => cases h; exact ⟨n_Search, t_Search_ok, fun w hw => gw_of (i_Search w hw) (List.all_eq_true.mp ig_Search w hw)⟩
  | 6, h => cases h; exact ⟨n_Pair, t_Pair_ok, fun w hw => gw_of (i_Pair w hw) (List.all_eq_true.mp ig_Pair w hw)⟩
  | 7, h => cases h; exact ⟨n_Party, t_Party_ok, fun w hw => gw_of (i_Party w hw) (List.all_eq_true.mp ig_Party w hw)⟩
  | 8, h => cases h; exact ⟨n_Evening, t_Evening_ok, fun w hw => gw_of (i_Evening w hw) (List.all_eq_true.mp ig_Evening w hw)⟩
  | 9, h => cases h; exact ⟨n_Changes, t_Changes_ok, fun w hw => gw_of (i_Changes w hw) (List.all_eq_true.mp ig_Changes w hw)⟩
  | 10, h => cases h; exact ⟨n_Bodies, t_Bodies_ok, fun w hw => gw_of (i_Bodies w hw) (List.all_eq_true.mp ig_Bodies w hw)⟩
  | 11, h => cases h; exact ⟨n_Shelf, t_Shelf_ok, fun w hw => gw_of (i_Shelf w hw) (List.all_eq_true.mp ig_Shelf w hw)⟩
  | 12, h => cases h; exact ⟨n_Model, t_Model_ok, fun w hw => gw_of (i_Model w hw) (List.all_eq_true.mp ig_Model w hw)⟩
  | k + 13, h => simp [CL] at h
