/-! the words that all methods share: the good ones of the tables -/
def TBL : List Cond := lw_tbl.filter goodWord
theorem TBL_in {w : Cond} (h : w ∈ lw_tbl) (hg : goodWord w = true) : w ∈ TBL := List.mem_filter.mpr ⟨h, hg⟩
theorem TBL_good {w : Cond} (h : w ∈ TBL) : (w.onTables && w.keeps) = true ∨ ∃ ty, w = .arrayClass ty := good_of_word (List.mem_filter.mp h).2
theorem TBL_all {args : Array Value} {s : State} (hts : ∀ w ∈ lw_tbl, w.before args s = true) : ∀ w ∈ TBL, w.before args s = true := fun w h => hts w (List.mem_filter.mp h).1
theorem TBL_gi {x c : Cond} (hc : c ∈ TBL) : GoodIn (x :: TBL) (c :: TBL) := fun w h => by
  rcases List.mem_cons.mp h with rfl | h
  · exact ⟨List.mem_cons_of_mem _ hc, TBL_good hc⟩
  · exact ⟨List.mem_cons_of_mem _ h, TBL_good h⟩
theorem TBL_gi0 {c : Cond} (hc : c ∈ TBL) : GoodIn TBL (c :: TBL) := fun w h => by
  rcases List.mem_cons.mp h with rfl | h
  · exact ⟨hc, TBL_good hc⟩
  · exact ⟨h, TBL_good h⟩
def R_Pile : String := "MailQueries$Pile"
def T_Pile : u_T := fun k => match k with
  | 0 => ("MailQueries$Pile", "held", "[J", true)
  | _ => ("MailQueries$Pile", "top", "I", false)
def ty_Pile : Nat → FieldType := fun k => match k with
  | 0 => .array .long
  | _ => .int
theorem nm_Pile : ∀ a, a < 2 → ∀ b, b < 2 → a ≠ b → (T_Pile a).2.1 ≠ (T_Pile b).2.1 := by decide +kernel
theorem ty_Pile_ok : ∀ k, k < 2 → parseFieldDescriptor (T_Pile k).2.2.1 = some (ty_Pile k) := by decide +kernel
theorem in_Pile : ∀ w ∈ u_ws R_Pile T_Pile 2, w ∈ TBL := by
  intro w hw
  have h : ∀ w ∈ u_ws R_Pile T_Pile 2, w ∈ lw_tbl ∧ goodWord w = true := by decide +kernel
  exact TBL_in (h w hw).1 (h w hw).2
def R_Query : String := "MailQueries$Query"
def T_Query : u_T := fun k => match k with
  | 0 => ("MailQueries$Query", "text", "[C", true)
  | 1 => ("MailQueries$Query", "length", "I", false)
  | 2 => ("MailQueries$Query", "taken", "I", false)
  | 3 => ("MailQueries$Query", "different", "I", false)
  | 4 => ("MailQueries$Query", "field", "[I", true)
  | 5 => ("MailQueries$Query", "phrase", "[Z", true)
  | 6 => ("MailQueries$Query", "textFrom", "[I", true)
  | 7 => ("MailQueries$Query", "textLength", "[I", true)
  | 8 => ("MailQueries$Query", "star", "[I", true)
  | 9 => ("MailQueries$Query", "least", "[I", true)
  | 10 => ("MailQueries$Query", "greatest", "[I", true)
  | 11 => ("MailQueries$Query", "often", "[I", true)
  | 12 => ("MailQueries$Query", "entries", "[I", true)
  | _ => ("MailQueries$Query", "treeSize", "I", false)
def ty_Query : Nat → FieldType := fun k => match k with
  | 0 => .array .char
  | 1 => .int
  | 2 => .int
  | 3 => .int
  | 4 => .array .int
  | 5 => .array .boolean
  | 6 => .array .int
  | 7 => .array .int
  | 8 => .array .int
  | 9 => .array .int
  | 10 => .array .int
  | 11 => .array .int
  | 12 => .array .int
  | _ => .int
theorem nm_Query : ∀ a, a < 14 → ∀ b, b < 14 → a ≠ b → (T_Query a).2.1 ≠ (T_Query b).2.1 := by decide +kernel
theorem ty_Query_ok : ∀ k, k < 14 → parseFieldDescriptor (T_Query k).2.2.1 = some (ty_Query k) := by decide +kernel
theorem in_Query : ∀ w ∈ u_ws R_Query T_Query 14, w ∈ TBL := by
  intro w hw
  have h : ∀ w ∈ u_ws R_Query T_Query 14, w ∈ lw_tbl ∧ goodWord w = true := by decide +kernel
  exact TBL_in (h w hw).1 (h w hw).2
def R_Span : String := "MailQueries$Span"
def T_Span : u_T := fun k => match k with
  | 0 => ("MailQueries$Span", "least", "I", false)
  | _ => ("MailQueries$Span", "greatest", "I", false)
def ty_Span : Nat → FieldType := fun k => match k with
  | 0 => .int
  | _ => .int
theorem nm_Span : ∀ a, a < 2 → ∀ b, b < 2 → a ≠ b → (T_Span a).2.1 ≠ (T_Span b).2.1 := by decide +kernel
theorem ty_Span_ok : ∀ k, k < 2 → parseFieldDescriptor (T_Span k).2.2.1 = some (ty_Span k) := by decide +kernel
theorem in_Span : ∀ w ∈ u_ws R_Span T_Span 2, w ∈ TBL := by
  intro w hw
  have h : ∀ w ∈ u_ws R_Span T_Span 2, w ∈ lw_tbl ∧ goodWord w = true := by decide +kernel
  exact TBL_in (h w hw).1 (h w hw).2
def R_Reader : String := "MailQueries$Reader"
def T_Reader : u_T := fun k => match k with
  | 0 => ("MailQueries$Reader", "query", "LMailQueries$Query;", false)
  | 1 => ("MailQueries$Reader", "span", "LMailQueries$Span;", true)
  | 2 => ("MailQueries$Reader", "faultKind", "I", false)
  | 3 => ("MailQueries$Reader", "faultPlace", "I", false)
  | 4 => ("MailQueries$Reader", "operandDue", "Z", false)
  | 5 => ("MailQueries$Reader", "open", "I", false)
  | 6 => ("MailQueries$Reader", "orFrom", "[I", true)
  | 7 => ("MailQueries$Reader", "xorFrom", "[I", true)
  | _ => ("MailQueries$Reader", "andFrom", "[I", true)
def ty_Reader : Nat → FieldType := fun k => match k with
  | 0 => .object "MailQueries$Query"
  | 1 => .object "MailQueries$Span"
  | 2 => .int
  | 3 => .int
  | 4 => .boolean
  | 5 => .int
  | 6 => .array .int
  | 7 => .array .int
  | _ => .array .int
theorem nm_Reader : ∀ a, a < 9 → ∀ b, b < 9 → a ≠ b → (T_Reader a).2.1 ≠ (T_Reader b).2.1 := by decide +kernel
theorem ty_Reader_ok : ∀ k, k < 9 → parseFieldDescriptor (T_Reader k).2.2.1 = some (ty_Reader k) := by decide +kernel
theorem in_Reader : ∀ w ∈ u_ws R_Reader T_Reader 9, w ∈ TBL := by
  intro w hw
  have h : ∀ w ∈ u_ws R_Reader T_Reader 9, w ∈ lw_tbl ∧ goodWord w = true := by decide +kernel
  exact TBL_in (h w hw).1 (h w hw).2
def R_Printer : String := "MailQueries$Printer"
def T_Printer : u_T := fun k => match k with
  | 0 => ("MailQueries$Printer", "bytes", "[C", true)
  | 1 => ("MailQueries$Printer", "length", "I", false)
  | 2 => ("MailQueries$Printer", "wordBefore", "Z", false)
  | _ => ("MailQueries$Printer", "due", "LMailQueries$Pile;", true)
def ty_Printer : Nat → FieldType := fun k => match k with
  | 0 => .array .char
  | 1 => .int
  | 2 => .boolean
  | _ => .object "MailQueries$Pile"
theorem nm_Printer : ∀ a, a < 4 → ∀ b, b < 4 → a ≠ b → (T_Printer a).2.1 ≠ (T_Printer b).2.1 := by decide +kernel
theorem ty_Printer_ok : ∀ k, k < 4 → parseFieldDescriptor (T_Printer k).2.2.1 = some (ty_Printer k) := by decide +kernel
theorem in_Printer : ∀ w ∈ u_ws R_Printer T_Printer 4, w ∈ TBL := by
  intro w hw
  have h : ∀ w ∈ u_ws R_Printer T_Printer 4, w ∈ lw_tbl ∧ goodWord w = true := by decide +kernel
  exact TBL_in (h w hw).1 (h w hw).2
def R_Judge : String := "MailQueries$Judge"
def T_Judge : u_T := fun k => match k with
  | 0 => ("MailQueries$Judge", "values", "[J", true)
  | _ => ("MailQueries$Judge", "pile", "LMailQueries$Pile;", true)
def ty_Judge : Nat → FieldType := fun k => match k with
  | 0 => .array .long
  | _ => .object "MailQueries$Pile"
theorem nm_Judge : ∀ a, a < 2 → ∀ b, b < 2 → a ≠ b → (T_Judge a).2.1 ≠ (T_Judge b).2.1 := by decide +kernel
theorem ty_Judge_ok : ∀ k, k < 2 → parseFieldDescriptor (T_Judge k).2.2.1 = some (ty_Judge k) := by decide +kernel
theorem in_Judge : ∀ w ∈ u_ws R_Judge T_Judge 2, w ∈ TBL := by
  intro w hw
  have h : ∀ w ∈ u_ws R_Judge T_Judge 2, w ∈ lw_tbl ∧ goodWord w = true := by decide +kernel
  exact TBL_in (h w hw).1 (h w hw).2
def R_Rows : String := "MailQueries$Rows"
def T_Rows : u_T := fun k => match k with
  | 0 => ("MailQueries$Rows", "plain", "[J", true)
  | 1 => ("MailQueries$Rows", "negated", "[J", true)
  | 2 => ("MailQueries$Rows", "top", "I", false)
  | 3 => ("MailQueries$Rows", "setFrom", "[I", true)
  | 4 => ("MailQueries$Rows", "setMiddle", "[I", true)
  | 5 => ("MailQueries$Rows", "sets", "I", false)
  | 6 => ("MailQueries$Rows", "asked", "[I", true)
  | 7 => ("MailQueries$Rows", "pile", "LMailQueries$Pile;", true)
  | 8 => ("MailQueries$Rows", "keptPlain", "[J", true)
  | 9 => ("MailQueries$Rows", "keptNegated", "[J", true)
  | _ => ("MailQueries$Rows", "kept", "I", false)
def ty_Rows : Nat → FieldType := fun k => match k with
  | 0 => .array .long
  | 1 => .array .long
  | 2 => .int
  | 3 => .array .int
  | 4 => .array .int
  | 5 => .int
  | 6 => .array .int
  | 7 => .object "MailQueries$Pile"
  | 8 => .array .long
  | 9 => .array .long
  | _ => .int
theorem nm_Rows : ∀ a, a < 11 → ∀ b, b < 11 → a ≠ b → (T_Rows a).2.1 ≠ (T_Rows b).2.1 := by decide +kernel
theorem ty_Rows_ok : ∀ k, k < 11 → parseFieldDescriptor (T_Rows k).2.2.1 = some (ty_Rows k) := by decide +kernel
theorem in_Rows : ∀ w ∈ u_ws R_Rows T_Rows 11, w ∈ TBL := by
  intro w hw
  have h : ∀ w ∈ u_ws R_Rows T_Rows 11, w ∈ lw_tbl ∧ goodWord w = true := by decide +kernel
  exact TBL_in (h w hw).1 (h w hw).2
def R_MQ : String := "MailQueries"
def T_MQ : u_T := fun k => match k with
  | 0 => ("MailQueries", "ready", "[C", true)
  | 1 => ("MailQueries", "hand", "[C", true)
  | 2 => ("MailQueries", "handLength", "I", false)
  | 3 => ("MailQueries", "query", "LMailQueries$Query;", false)
  | 4 => ("MailQueries", "reader", "LMailQueries$Reader;", true)
  | 5 => ("MailQueries", "printer", "LMailQueries$Printer;", true)
  | 6 => ("MailQueries", "rows", "LMailQueries$Rows;", true)
  | _ => ("MailQueries", "judge", "LMailQueries$Judge;", true)
def ty_MQ : Nat → FieldType := fun k => match k with
  | 0 => .array .char
  | 1 => .array .char
  | 2 => .int
  | 3 => .object "MailQueries$Query"
  | 4 => .object "MailQueries$Reader"
  | 5 => .object "MailQueries$Printer"
  | 6 => .object "MailQueries$Rows"
  | _ => .object "MailQueries$Judge"
theorem nm_MQ : ∀ a, a < 8 → ∀ b, b < 8 → a ≠ b → (T_MQ a).2.1 ≠ (T_MQ b).2.1 := by decide +kernel
theorem ty_MQ_ok : ∀ k, k < 8 → parseFieldDescriptor (T_MQ k).2.2.1 = some (ty_MQ k) := by decide +kernel
theorem in_MQ : ∀ w ∈ u_ws R_MQ T_MQ 8, w ∈ TBL := by
  intro w hw
  have h : ∀ w ∈ u_ws R_MQ T_MQ 8, w ∈ lw_tbl ∧ goodWord w = true := by decide +kernel
  exact TBL_in (h w hw).1 (h w hw).2
def R_Mo : String := "MailQueriesModel"
def T_Mo : u_T := fun k => match k with
  | 0 => ("MailQueriesModel", "thrown", "I", false)
  | 1 => ("MailQueriesModel", "ready", "[B", true)
  | 2 => ("MailQueriesModel", "hand", "[B", true)
  | 3 => ("MailQueriesModel", "handSize", "I", false)
  | 4 => ("MailQueriesModel", "src", "[B", true)
  | 5 => ("MailQueriesModel", "query", "[B", true)
  | 6 => ("MailQueriesModel", "size", "I", false)
  | 7 => ("MailQueriesModel", "querySize", "I", false)
  | 8 => ("MailQueriesModel", "at", "I", false)
  | 9 => ("MailQueriesModel", "fault", "I", false)
  | 10 => ("MailQueriesModel", "place", "I", false)
  | 11 => ("MailQueriesModel", "toldFault", "I", false)
  | 12 => ("MailQueriesModel", "toldPlace", "I", false)
  | 13 => ("MailQueriesModel", "fieldNames", "[J", true)
  | 14 => ("MailQueriesModel", "word", "I", false)
  | 15 => ("MailQueriesModel", "from", "I", false)
  | 16 => ("MailQueriesModel", "field", "I", false)
  | 17 => ("MailQueriesModel", "textFrom", "I", false)
  | 18 => ("MailQueriesModel", "textTo", "I", false)
  | 19 => ("MailQueriesModel", "phrase", "Z", false)
  | 20 => ("MailQueriesModel", "atoms", "I", false)
  | 21 => ("MailQueriesModel", "came", "I", false)
  | 22 => ("MailQueriesModel", "atomField", "[I", true)
  | 23 => ("MailQueriesModel", "atomFrom", "[I", true)
  | 24 => ("MailQueriesModel", "atomSize", "[I", true)
  | 25 => ("MailQueriesModel", "atomStar", "[I", true)
  | 26 => ("MailQueriesModel", "atomTimes", "[I", true)
  | 27 => ("MailQueriesModel", "low", "[I", true)
  | 28 => ("MailQueriesModel", "high", "[I", true)
  | 29 => ("MailQueriesModel", "atomPhrase", "[Z", true)
  | 30 => ("MailQueriesModel", "nodes", "I", false)
  | 31 => ("MailQueriesModel", "root", "I", false)
  | 32 => ("MailQueriesModel", "kind", "[I", true)
  | 33 => ("MailQueriesModel", "left", "[I", true)
  | 34 => ("MailQueriesModel", "right", "[I", true)
  | 35 => ("MailQueriesModel", "values", "I", false)
  | 36 => ("MailQueriesModel", "waits", "I", false)
  | 37 => ("MailQueriesModel", "opened", "I", false)
  | 38 => ("MailQueriesModel", "value", "[I", true)
  | 39 => ("MailQueriesModel", "wait", "[I", true)
  | 40 => ("MailQueriesModel", "todo", "I", false)
  | 41 => ("MailQueriesModel", "task", "[I", true)
  | 42 => ("MailQueriesModel", "with", "[I", true)
  | 43 => ("MailQueriesModel", "more", "[I", true)
  | 44 => ("MailQueriesModel", "told", "I", false)
  | 45 => ("MailQueriesModel", "tree", "[I", true)
  | 46 => ("MailQueriesModel", "printed", "I", false)
  | 47 => ("MailQueriesModel", "print", "[B", true)
  | 48 => ("MailQueriesModel", "rows", "I", false)
  | 49 => ("MailQueriesModel", "as", "[J", true)
  | 50 => ("MailQueriesModel", "not", "[J", true)
  | 51 => ("MailQueriesModel", "over", "Z", false)
  | 52 => ("MailQueriesModel", "normals", "I", false)
  | 53 => ("MailQueriesModel", "normalAs", "[J", true)
  | 54 => ("MailQueriesModel", "normalNot", "[J", true)
  | 55 => ("MailQueriesModel", "truth", "[Z", true)
  | 56 => ("MailQueriesModel", "bound", "I", false)
  | 57 => ("MailQueriesModel", "wide", "J", false)
  | 58 => ("MailQueriesModel", "least", "I", false)
  | 59 => ("MailQueriesModel", "greatest", "I", false)
  | 60 => ("MailQueriesModel", "listAt", "[I", true)
  | 61 => ("MailQueriesModel", "listEnd", "[I", true)
  | 62 => ("MailQueriesModel", "wanted", "[Z", true)
  | _ => ("MailQueriesModel", "isOut", "[Z", true)
def ty_Mo : Nat → FieldType := fun k => match k with
  | 0 => .int
  | 1 => .array .byte
  | 2 => .array .byte
  | 3 => .int
  | 4 => .array .byte
  | 5 => .array .byte
  | 6 => .int
  | 7 => .int
  | 8 => .int
  | 9 => .int
  | 10 => .int
  | 11 => .int
  | 12 => .int
  | 13 => .array .long
  | 14 => .int
  | 15 => .int
  | 16 => .int
  | 17 => .int
  | 18 => .int
  | 19 => .boolean
  | 20 => .int
  | 21 => .int
  | 22 => .array .int
  | 23 => .array .int
  | 24 => .array .int
  | 25 => .array .int
  | 26 => .array .int
  | 27 => .array .int
  | 28 => .array .int
  | 29 => .array .boolean
  | 30 => .int
  | 31 => .int
  | 32 => .array .int
  | 33 => .array .int
  | 34 => .array .int
  | 35 => .int
  | 36 => .int
  | 37 => .int
  | 38 => .array .int
  | 39 => .array .int
  | 40 => .int
  | 41 => .array .int
  | 42 => .array .int
  | 43 => .array .int
  | 44 => .int
  | 45 => .array .int
  | 46 => .int
  | 47 => .array .byte
  | 48 => .int
  | 49 => .array .long
  | 50 => .array .long
  | 51 => .boolean
  | 52 => .int
  | 53 => .array .long
  | 54 => .array .long
  | 55 => .array .boolean
  | 56 => .int
  | 57 => .long
  | 58 => .int
  | 59 => .int
  | 60 => .array .int
  | 61 => .array .int
  | 62 => .array .boolean
  | _ => .array .boolean
theorem nm_Mo : ∀ a, a < 64 → ∀ b, b < 64 → a ≠ b → (T_Mo a).2.1 ≠ (T_Mo b).2.1 := by decide +kernel
theorem ty_Mo_ok : ∀ k, k < 64 → parseFieldDescriptor (T_Mo k).2.2.1 = some (ty_Mo k) := by decide +kernel
theorem in_Mo : ∀ w ∈ u_ws R_Mo T_Mo 64, w ∈ TBL := by
  intro w hw
  have h : ∀ w ∈ u_ws R_Mo T_Mo 64, w ∈ lw_tbl ∧ goodWord w = true := by decide +kernel
  exact TBL_in (h w hw).1 (h w hw).2
abbrev vwCl : List vw_C := [(R_Pile, T_Pile, 2), (R_Query, T_Query, 14), (R_Span, T_Span, 2), (R_Reader, T_Reader, 9), (R_Printer, T_Printer, 4), (R_Judge, T_Judge, 2), (R_Rows, T_Rows, 11), (R_MQ, T_MQ, 8), (R_Mo, T_Mo, 64)]
def nwF : List (String × Nat × String × String × String × String) := [(R_Span, 64, "MailQueries$Query", "text", "[C", "MailQueries"), (R_Reader, 60, "MailQueries$Query", "length", "I", "MailQueries"), (R_Span, 61, "MailQueries$Query", "length", "I", "MailQueries"), (R_Judge, 28, "MailQueries$Query", "different", "I", "MailQueries"), (R_MQ, 84, "MailQueries$Query", "different", "I", "MailQueries"), (R_Printer, 93, "MailQueries$Query", "field", "[I", "MailQueries"), (R_MQ, 97, "MailQueries$Query", "field", "[I", "MailQueries"), (R_Printer, 101, "MailQueries$Query", "phrase", "[Z", "MailQueries"), (R_MQ, 101, "MailQueries$Query", "phrase", "[Z", "MailQueries"), (R_Printer, 108, "MailQueries$Query", "textFrom", "[I", "MailQueries"), (R_MQ, 114, "MailQueries$Query", "textFrom", "[I", "MailQueries"), (R_Printer, 105, "MailQueries$Query", "textLength", "[I", "MailQueries"), (R_MQ, 105, "MailQueries$Query", "textLength", "[I", "MailQueries"), (R_MQ, 108, "MailQueries$Query", "star", "[I", "MailQueries"), (R_MQ, 121, "MailQueries$Query", "least", "[I", "MailQueries"), (R_MQ, 124, "MailQueries$Query", "greatest", "[I", "MailQueries"), (R_MQ, 111, "MailQueries$Query", "often", "[I", "MailQueries"), (R_Rows, 53, "MailQueries$Query", "treeSize", "I", "MailQueries"), (R_Printer, 35, "MailQueries$Query", "treeSize", "I", "MailQueries"), (R_Judge, 49, "MailQueries$Query", "treeSize", "I", "MailQueries"), (R_Reader, 131, "MailQueries$Query", "treeSize", "I", "MailQueries"), (R_Query, 97, "MailQueries$Span", "least", "I", "MailQueries"), (R_Query, 101, "MailQueries$Span", "greatest", "I", "MailQueries"), (R_MQ, 87, "MailQueries$Reader", "faultKind", "I", "MailQueries"), (R_MQ, 90, "MailQueries$Reader", "faultPlace", "I", "MailQueries")]
theorem N_Span_64 : ((R_Span, 64, "MailQueries$Query", "text", "[C", "MailQueries") : String × Nat × String × String × String × String) ∈ nwF := List.mem_of_getElem? (i := 0) rfl
theorem N_Reader_60 : ((R_Reader, 60, "MailQueries$Query", "length", "I", "MailQueries") : String × Nat × String × String × String × String) ∈ nwF := List.mem_of_getElem? (i := 1) rfl
theorem N_Span_61 : ((R_Span, 61, "MailQueries$Query", "length", "I", "MailQueries") : String × Nat × String × String × String × String) ∈ nwF := List.mem_of_getElem? (i := 2) rfl
theorem N_Judge_28 : ((R_Judge, 28, "MailQueries$Query", "different", "I", "MailQueries") : String × Nat × String × String × String × String) ∈ nwF := List.mem_of_getElem? (i := 3) rfl
theorem N_MQ_84 : ((R_MQ, 84, "MailQueries$Query", "different", "I", "MailQueries") : String × Nat × String × String × String × String) ∈ nwF := List.mem_of_getElem? (i := 4) rfl
theorem N_Printer_93 : ((R_Printer, 93, "MailQueries$Query", "field", "[I", "MailQueries") : String × Nat × String × String × String × String) ∈ nwF := List.mem_of_getElem? (i := 5) rfl
theorem N_MQ_97 : ((R_MQ, 97, "MailQueries$Query", "field", "[I", "MailQueries") : String × Nat × String × String × String × String) ∈ nwF := List.mem_of_getElem? (i := 6) rfl
theorem N_Printer_101 : ((R_Printer, 101, "MailQueries$Query", "phrase", "[Z", "MailQueries") : String × Nat × String × String × String × String) ∈ nwF := List.mem_of_getElem? (i := 7) rfl
theorem N_MQ_101 : ((R_MQ, 101, "MailQueries$Query", "phrase", "[Z", "MailQueries") : String × Nat × String × String × String × String) ∈ nwF := List.mem_of_getElem? (i := 8) rfl
theorem N_Printer_108 : ((R_Printer, 108, "MailQueries$Query", "textFrom", "[I", "MailQueries") : String × Nat × String × String × String × String) ∈ nwF := List.mem_of_getElem? (i := 9) rfl
theorem N_MQ_114 : ((R_MQ, 114, "MailQueries$Query", "textFrom", "[I", "MailQueries") : String × Nat × String × String × String × String) ∈ nwF := List.mem_of_getElem? (i := 10) rfl
theorem N_Printer_105 : ((R_Printer, 105, "MailQueries$Query", "textLength", "[I", "MailQueries") : String × Nat × String × String × String × String) ∈ nwF := List.mem_of_getElem? (i := 11) rfl
theorem N_MQ_105 : ((R_MQ, 105, "MailQueries$Query", "textLength", "[I", "MailQueries") : String × Nat × String × String × String × String) ∈ nwF := List.mem_of_getElem? (i := 12) rfl
theorem N_MQ_108 : ((R_MQ, 108, "MailQueries$Query", "star", "[I", "MailQueries") : String × Nat × String × String × String × String) ∈ nwF := List.mem_of_getElem? (i := 13) rfl
theorem N_MQ_121 : ((R_MQ, 121, "MailQueries$Query", "least", "[I", "MailQueries") : String × Nat × String × String × String × String) ∈ nwF := List.mem_of_getElem? (i := 14) rfl
theorem N_MQ_124 : ((R_MQ, 124, "MailQueries$Query", "greatest", "[I", "MailQueries") : String × Nat × String × String × String × String) ∈ nwF := List.mem_of_getElem? (i := 15) rfl
theorem N_MQ_111 : ((R_MQ, 111, "MailQueries$Query", "often", "[I", "MailQueries") : String × Nat × String × String × String × String) ∈ nwF := List.mem_of_getElem? (i := 16) rfl
theorem N_Rows_53 : ((R_Rows, 53, "MailQueries$Query", "treeSize", "I", "MailQueries") : String × Nat × String × String × String × String) ∈ nwF := List.mem_of_getElem? (i := 17) rfl
theorem N_Printer_35 : ((R_Printer, 35, "MailQueries$Query", "treeSize", "I", "MailQueries") : String × Nat × String × String × String × String) ∈ nwF := List.mem_of_getElem? (i := 18) rfl
theorem N_Judge_49 : ((R_Judge, 49, "MailQueries$Query", "treeSize", "I", "MailQueries") : String × Nat × String × String × String × String) ∈ nwF := List.mem_of_getElem? (i := 19) rfl
theorem N_Reader_131 : ((R_Reader, 131, "MailQueries$Query", "treeSize", "I", "MailQueries") : String × Nat × String × String × String × String) ∈ nwF := List.mem_of_getElem? (i := 20) rfl
theorem N_Query_97 : ((R_Query, 97, "MailQueries$Span", "least", "I", "MailQueries") : String × Nat × String × String × String × String) ∈ nwF := List.mem_of_getElem? (i := 21) rfl
theorem N_Query_101 : ((R_Query, 101, "MailQueries$Span", "greatest", "I", "MailQueries") : String × Nat × String × String × String × String) ∈ nwF := List.mem_of_getElem? (i := 22) rfl
theorem N_MQ_87 : ((R_MQ, 87, "MailQueries$Reader", "faultKind", "I", "MailQueries") : String × Nat × String × String × String × String) ∈ nwF := List.mem_of_getElem? (i := 23) rfl
theorem N_MQ_90 : ((R_MQ, 90, "MailQueries$Reader", "faultPlace", "I", "MailQueries") : String × Nat × String × String × String × String) ∈ nwF := List.mem_of_getElem? (i := 24) rfl
def nwM : List (String × Nat × MethodName × String) := [(R_MQ, 22, ⟨"MailQueries$Query", "<init>", "()V"⟩, "MailQueries"), (R_MQ, 29, ⟨"MailQueries$Reader", "<init>", "()V"⟩, "MailQueries"), (R_Reader, 11, ⟨"MailQueries$Query", "<init>", "()V"⟩, "MailQueries"), (R_Reader, 20, ⟨"MailQueries$Span", "<init>", "()V"⟩, "MailQueries"), (R_MQ, 36, ⟨"MailQueries$Printer", "<init>", "()V"⟩, "MailQueries"), (R_MQ, 43, ⟨"MailQueries$Rows", "<init>", "()V"⟩, "MailQueries"), (R_MQ, 50, ⟨"MailQueries$Judge", "<init>", "()V"⟩, "MailQueries"), (R_Printer, 97, ⟨"MailQueries", "nameOf", "(I)Ljava/lang/String;"⟩, "MailQueries"), (R_Reader, 188, ⟨"MailQueries", "isSpace", "(I)Z"⟩, "MailQueries"), (R_Reader, 79, ⟨"MailQueries", "isTextByte", "(I)Z"⟩, "MailQueries"), (R_Reader, 158, ⟨"MailQueries", "isSmallLetter", "(I)Z"⟩, "MailQueries"), (R_Reader, 176, ⟨"MailQueries", "nameOf", "(I)Ljava/lang/String;"⟩, "MailQueries"), (R_Reader, 161, ⟨"MailQueries", "isDigit", "(I)Z"⟩, "MailQueries"), (R_Span, 42, ⟨"MailQueries", "isDigit", "(I)Z"⟩, "MailQueries"), (R_Query, 111, ⟨"MailQueries", "small", "(I)I"⟩, "MailQueries")]
theorem N_MQ_22 : ((R_MQ, 22, ⟨"MailQueries$Query", "<init>", "()V"⟩, "MailQueries") : String × Nat × MethodName × String) ∈ nwM := List.mem_of_getElem? (i := 0) rfl
theorem N_MQ_29 : ((R_MQ, 29, ⟨"MailQueries$Reader", "<init>", "()V"⟩, "MailQueries") : String × Nat × MethodName × String) ∈ nwM := List.mem_of_getElem? (i := 1) rfl
theorem N_Reader_11 : ((R_Reader, 11, ⟨"MailQueries$Query", "<init>", "()V"⟩, "MailQueries") : String × Nat × MethodName × String) ∈ nwM := List.mem_of_getElem? (i := 2) rfl
theorem N_Reader_20 : ((R_Reader, 20, ⟨"MailQueries$Span", "<init>", "()V"⟩, "MailQueries") : String × Nat × MethodName × String) ∈ nwM := List.mem_of_getElem? (i := 3) rfl
theorem N_MQ_36 : ((R_MQ, 36, ⟨"MailQueries$Printer", "<init>", "()V"⟩, "MailQueries") : String × Nat × MethodName × String) ∈ nwM := List.mem_of_getElem? (i := 4) rfl
theorem N_MQ_43 : ((R_MQ, 43, ⟨"MailQueries$Rows", "<init>", "()V"⟩, "MailQueries") : String × Nat × MethodName × String) ∈ nwM := List.mem_of_getElem? (i := 5) rfl
theorem N_MQ_50 : ((R_MQ, 50, ⟨"MailQueries$Judge", "<init>", "()V"⟩, "MailQueries") : String × Nat × MethodName × String) ∈ nwM := List.mem_of_getElem? (i := 6) rfl
theorem N_Printer_97 : ((R_Printer, 97, ⟨"MailQueries", "nameOf", "(I)Ljava/lang/String;"⟩, "MailQueries") : String × Nat × MethodName × String) ∈ nwM := List.mem_of_getElem? (i := 7) rfl
theorem N_Reader_188 : ((R_Reader, 188, ⟨"MailQueries", "isSpace", "(I)Z"⟩, "MailQueries") : String × Nat × MethodName × String) ∈ nwM := List.mem_of_getElem? (i := 8) rfl
theorem N_Reader_79 : ((R_Reader, 79, ⟨"MailQueries", "isTextByte", "(I)Z"⟩, "MailQueries") : String × Nat × MethodName × String) ∈ nwM := List.mem_of_getElem? (i := 9) rfl
theorem N_Reader_158 : ((R_Reader, 158, ⟨"MailQueries", "isSmallLetter", "(I)Z"⟩, "MailQueries") : String × Nat × MethodName × String) ∈ nwM := List.mem_of_getElem? (i := 10) rfl
theorem N_Reader_176 : ((R_Reader, 176, ⟨"MailQueries", "nameOf", "(I)Ljava/lang/String;"⟩, "MailQueries") : String × Nat × MethodName × String) ∈ nwM := List.mem_of_getElem? (i := 11) rfl
theorem N_Reader_161 : ((R_Reader, 161, ⟨"MailQueries", "isDigit", "(I)Z"⟩, "MailQueries") : String × Nat × MethodName × String) ∈ nwM := List.mem_of_getElem? (i := 12) rfl
theorem N_Span_42 : ((R_Span, 42, ⟨"MailQueries", "isDigit", "(I)Z"⟩, "MailQueries") : String × Nat × MethodName × String) ∈ nwM := List.mem_of_getElem? (i := 13) rfl
theorem N_Query_111 : ((R_Query, 111, ⟨"MailQueries", "small", "(I)I"⟩, "MailQueries") : String × Nat × MethodName × String) ∈ nwM := List.mem_of_getElem? (i := 14) rfl
def strL : List (String × Nat × String × Nat) := [("MailQueries", 149, "from", 0), ("MailQueries", 151, "to", 1), ("MailQueries", 153, "subject", 2), ("MailQueries", 155, "body", 3), ("MailQueries", 157, "tag", 4), ("MailQueries", 159, "id", 5), ("MailQueries", 161, "path", 6), ("MailQueries", 163, "type", 7), ("MailQueries", 165, "attachment", 8), ("MailQueries", 167, "is", 9), ("MailQueries", 169, "date", 10), ("MailQueries", 171, "size", 11), ("MailQueries", 173, "", 12), ("MailQueries$Printer", 70, "not", 13), ("MailQueries$Printer", 81, "(", 14), ("MailQueries$Printer", 85, "or", 15), ("MailQueries$Printer", 87, "xor", 16), ("MailQueries$Reader", 164, "unread", 17), ("MailQueries$Reader", 170, "flagged", 18), ("MailQueries$Reader", 172, "replied", 19), ("MailQueries$Reader", 174, "encrypted", 20), ("MailQueries$Reader", 180, "and", 21), ("MailQueries$Reader", 182, "or", 15), ("MailQueries$Reader", 184, "xor", 16), ("MailQueries$Reader", 186, "not", 13), ("MailQueries", 75, "the text has a fault", 22)]
theorem M_str_MQ_149 : ((R_MQ, 149, "from", 0) : String × Nat × String × Nat) ∈ strL := List.mem_of_getElem? (i := 0) rfl
theorem M_str_MQ_151 : ((R_MQ, 151, "to", 1) : String × Nat × String × Nat) ∈ strL := List.mem_of_getElem? (i := 1) rfl
theorem M_str_MQ_153 : ((R_MQ, 153, "subject", 2) : String × Nat × String × Nat) ∈ strL := List.mem_of_getElem? (i := 2) rfl
theorem M_str_MQ_155 : ((R_MQ, 155, "body", 3) : String × Nat × String × Nat) ∈ strL := List.mem_of_getElem? (i := 3) rfl
theorem M_str_MQ_157 : ((R_MQ, 157, "tag", 4) : String × Nat × String × Nat) ∈ strL := List.mem_of_getElem? (i := 4) rfl
theorem M_str_MQ_159 : ((R_MQ, 159, "id", 5) : String × Nat × String × Nat) ∈ strL := List.mem_of_getElem? (i := 5) rfl
theorem M_str_MQ_161 : ((R_MQ, 161, "path", 6) : String × Nat × String × Nat) ∈ strL := List.mem_of_getElem? (i := 6) rfl
theorem M_str_MQ_163 : ((R_MQ, 163, "type", 7) : String × Nat × String × Nat) ∈ strL := List.mem_of_getElem? (i := 7) rfl
theorem M_str_MQ_165 : ((R_MQ, 165, "attachment", 8) : String × Nat × String × Nat) ∈ strL := List.mem_of_getElem? (i := 8) rfl
theorem M_str_MQ_167 : ((R_MQ, 167, "is", 9) : String × Nat × String × Nat) ∈ strL := List.mem_of_getElem? (i := 9) rfl
theorem M_str_MQ_169 : ((R_MQ, 169, "date", 10) : String × Nat × String × Nat) ∈ strL := List.mem_of_getElem? (i := 10) rfl
theorem M_str_MQ_171 : ((R_MQ, 171, "size", 11) : String × Nat × String × Nat) ∈ strL := List.mem_of_getElem? (i := 11) rfl
theorem M_str_MQ_173 : ((R_MQ, 173, "", 12) : String × Nat × String × Nat) ∈ strL := List.mem_of_getElem? (i := 12) rfl
theorem M_str_Printer_70 : ((R_Printer, 70, "not", 13) : String × Nat × String × Nat) ∈ strL := List.mem_of_getElem? (i := 13) rfl
theorem M_str_Printer_81 : ((R_Printer, 81, "(", 14) : String × Nat × String × Nat) ∈ strL := List.mem_of_getElem? (i := 14) rfl
theorem M_str_Printer_85 : ((R_Printer, 85, "or", 15) : String × Nat × String × Nat) ∈ strL := List.mem_of_getElem? (i := 15) rfl
theorem M_str_Printer_87 : ((R_Printer, 87, "xor", 16) : String × Nat × String × Nat) ∈ strL := List.mem_of_getElem? (i := 16) rfl
theorem M_str_Reader_164 : ((R_Reader, 164, "unread", 17) : String × Nat × String × Nat) ∈ strL := List.mem_of_getElem? (i := 17) rfl
theorem M_str_Reader_170 : ((R_Reader, 170, "flagged", 18) : String × Nat × String × Nat) ∈ strL := List.mem_of_getElem? (i := 18) rfl
theorem M_str_Reader_172 : ((R_Reader, 172, "replied", 19) : String × Nat × String × Nat) ∈ strL := List.mem_of_getElem? (i := 19) rfl
theorem M_str_Reader_174 : ((R_Reader, 174, "encrypted", 20) : String × Nat × String × Nat) ∈ strL := List.mem_of_getElem? (i := 20) rfl
theorem M_str_Reader_180 : ((R_Reader, 180, "and", 21) : String × Nat × String × Nat) ∈ strL := List.mem_of_getElem? (i := 21) rfl
theorem M_str_Reader_182 : ((R_Reader, 182, "or", 15) : String × Nat × String × Nat) ∈ strL := List.mem_of_getElem? (i := 22) rfl
theorem M_str_Reader_184 : ((R_Reader, 184, "xor", 16) : String × Nat × String × Nat) ∈ strL := List.mem_of_getElem? (i := 23) rfl
theorem M_str_Reader_186 : ((R_Reader, 186, "not", 13) : String × Nat × String × Nat) ∈ strL := List.mem_of_getElem? (i := 24) rfl
theorem M_str_MQ_75 : ((R_MQ, 75, "the text has a fault", 22) : String × Nat × String × Nat) ∈ strL := List.mem_of_getElem? (i := 25) rfl
def nStr : Nat := 23
def lenStr : List Nat := [4, 2, 7, 4, 3, 2, 4, 4, 10, 2, 4, 4, 0, 3, 1, 2, 3, 6, 7, 7, 9, 3, 20]
def bytStr : List (List Int32) := [[102, 114, 111, 109], [116, 111], [115, 117, 98, 106, 101, 99, 116], [98, 111, 100, 121], [116, 97, 103], [105, 100], [112, 97, 116, 104], [116, 121, 112, 101], [97, 116, 116, 97, 99, 104, 109, 101, 110, 116], [105, 115], [100, 97, 116, 101], [115, 105, 122, 101], [], [110, 111, 116], [40], [111, 114], [120, 111, 114], [117, 110, 114, 101, 97, 100], [102, 108, 97, 103, 103, 101, 100], [114, 101, 112, 108, 105, 101, 100], [101, 110, 99, 114, 121, 112, 116, 101, 100], [97, 110, 100], [116, 104, 101, 32, 116, 101, 120, 116, 32, 104, 97, 115, 32, 97, 32, 102, 97, 117, 108, 116]]
def tabDAYS : Nat → Int32 := fun i => ([(0), (31), (59), (90), (120), (151), (181), (212), (243), (273), (304), (334), (365)] : List Int32).getD i 0
def tabPATT : Nat → Int64 := fun i => ([(-6148914691236517206), (-3689348814741910324), (-1085102592571150096), (-71777214294589696), (-281470681808896), (-4294967296)] : List Int64).getD i 0
def tabL : List (String × String × String × Nat × FieldType × Nat × (Nat → Value)) := [("MailQueries$Span", "DAYS_BEFORE", "[I", 0, .int, 13, fun i => .int (tabDAYS i)), ("MailQueries$Judge", "PATTERNS", "[J", 1, .long, 6, fun i => .long (tabPATT i))]
theorem M_tab_DAYS : (("MailQueries$Span", "DAYS_BEFORE", "[I", 0, .int, 13, fun i => .int (tabDAYS i)) : String × String × String × Nat × FieldType × Nat × (Nat → Value)) ∈ tabL := List.mem_of_getElem? (i := 0) rfl
theorem M_tab_PATT : (("MailQueries$Judge", "PATTERNS", "[J", 1, .long, 6, fun i => .long (tabPATT i)) : String × String × String × Nat × FieldType × Nat × (Nat → Value)) ∈ tabL := List.mem_of_getElem? (i := 1) rfl
