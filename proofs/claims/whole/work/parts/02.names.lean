/-! classes, their fields -/
def bp_T0 : u_T := fun k => match k with
  | 0 => ("BracedPages", "in", "LBracedPages$Row;", true)
  | 1 => ("BracedPages", "written", "LBracedPages$Row;", true)
  | 2 => ("BracedPages", "page", "LBracedPages$Page;", true)
  | 3 => ("BracedPages", "draft", "LBracedPages$Page;", true)
  | 4 => ("BracedPages", "bracedReader", "LBracedPages$Reader;", true)
  | 5 => ("BracedPages", "taggedReader", "LBracedPages$Reader;", true)
  | 6 => ("BracedPages", "bracedWriter", "LBracedPages$Writer;", true)
  | 7 => ("BracedPages", "taggedWriter", "LBracedPages$Writer;", true)
  | _ => ("BracedPages", "met", "I", false)
def bp_y0 : Nat → FieldType := fun k => match k with
  | 0 => .object "BracedPages$Row"
  | 1 => .object "BracedPages$Row"
  | 2 => .object "BracedPages$Page"
  | 3 => .object "BracedPages$Page"
  | 4 => .object "BracedPages$Reader"
  | 5 => .object "BracedPages$Reader"
  | 6 => .object "BracedPages$Writer"
  | 7 => .object "BracedPages$Writer"
  | _ => .int
def bp_T1 : u_T := fun k => match k with
  | 0 => ("BracedPages$Row", "items", "[I", false)
  | _ => ("BracedPages$Row", "size", "I", false)
def bp_y1 : Nat → FieldType := fun k => match k with
  | 0 => .array (.int)
  | _ => .int
def bp_T2 : u_T := fun k => match k with
  | 0 => ("BracedPages$Page", "alignments", "[I", true)
  | 1 => ("BracedPages$Page", "indents", "[I", true)
  | 2 => ("BracedPages$Page", "ends", "[I", true)
  | 3 => ("BracedPages$Page", "codes", "LBracedPages$Row;", true)
  | 4 => ("BracedPages$Page", "looks", "LBracedPages$Row;", true)
  | _ => ("BracedPages$Page", "size", "I", false)
def bp_y2 : Nat → FieldType := fun k => match k with
  | 0 => .array (.int)
  | 1 => .array (.int)
  | 2 => .array (.int)
  | 3 => .object "BracedPages$Row"
  | 4 => .object "BracedPages$Row"
  | _ => .int
def bp_T3 : u_T := fun k => match k with
  | 0 => ("BracedPages$BracedReader", "state", "LBracedPages$State;", true)
  | 1 => ("BracedPages$BracedReader", "noted", "[LBracedPages$State;", true)
  | 2 => ("BracedPages$BracedReader", "table", "LBracedPages$ColourTable;", true)
  | 3 => ("BracedPages$BracedReader", "openGroups", "I", false)
  | 4 => ("BracedPages$BracedReader", "ended", "Z", false)
  | 5 => ("BracedPages$BracedReader", "rightBehindBrace", "Z", false)
  | 6 => ("BracedPages$BracedReader", "toLeaveOut", "I", false)
  | 7 => ("BracedPages$BracedReader", "inTable", "Z", false)
  | 8 => ("BracedPages$BracedReader", "word", "I", false)
  | 9 => ("BracedPages$BracedReader", "number", "I", false)
  | 10 => ("BracedPages$BracedReader", "digits", "I", false)
  | 11 => ("BracedPages$Reader", "text", "LBracedPages$Row;", true)
  | 12 => ("BracedPages$Reader", "page", "LBracedPages$Page;", true)
  | 13 => ("BracedPages$Reader", "next", "I", false)
  | 14 => ("BracedPages$Reader", "thing", "I", false)
  | 15 => ("BracedPages$Reader", "fault", "I", false)
  | _ => ("BracedPages$Reader", "met", "I", false)
def bp_y3 : Nat → FieldType := fun k => match k with
  | 0 => .object "BracedPages$State"
  | 1 => .array (.object "BracedPages$State")
  | 2 => .object "BracedPages$ColourTable"
  | 3 => .int
  | 4 => .boolean
  | 5 => .boolean
  | 6 => .int
  | 7 => .boolean
  | 8 => .int
  | 9 => .int
  | 10 => .int
  | 11 => .object "BracedPages$Row"
  | 12 => .object "BracedPages$Page"
  | 13 => .int
  | 14 => .int
  | 15 => .int
  | _ => .int
def bp_T4 : u_T := fun k => match k with
  | 0 => ("BracedPages$State", "style", "I", false)
  | 1 => ("BracedPages$State", "size", "I", false)
  | 2 => ("BracedPages$State", "colour", "I", false)
  | 3 => ("BracedPages$State", "alignment", "I", false)
  | 4 => ("BracedPages$State", "indent", "I", false)
  | _ => ("BracedPages$State", "skip", "I", false)
def bp_y4 : Nat → FieldType := fun k => match k with
  | 0 => .int
  | 1 => .int
  | 2 => .int
  | 3 => .int
  | 4 => .int
  | _ => .int
def bp_T5 : u_T := fun k => match k with
  | 0 => ("BracedPages$ColourTable", "colours", "[I", true)
  | 1 => ("BracedPages$ColourTable", "name", "LBracedPages$Row;", true)
  | _ => ("BracedPages$ColourTable", "size", "I", false)
def bp_y5 : Nat → FieldType := fun k => match k with
  | 0 => .array (.int)
  | 1 => .object "BracedPages$Row"
  | _ => .int
def bp_T6 : u_T := fun k => match k with
  | 0 => ("BracedPages$TaggedReader", "inParagraph", "Z", false)
  | 1 => ("BracedPages$TaggedReader", "openTags", "I", false)
  | 2 => ("BracedPages$TaggedReader", "runStart", "I", false)
  | 3 => ("BracedPages$TaggedReader", "hasLetter", "Z", false)
  | 4 => ("BracedPages$TaggedReader", "isEnding", "Z", false)
  | 5 => ("BracedPages$TaggedReader", "style", "I", false)
  | 6 => ("BracedPages$TaggedReader", "size", "I", false)
  | 7 => ("BracedPages$TaggedReader", "colour", "I", false)
  | 8 => ("BracedPages$TaggedReader", "number", "I", false)
  | 9 => ("BracedPages$TaggedReader", "numberEnd", "I", false)
  | 10 => ("BracedPages$Reader", "text", "LBracedPages$Row;", true)
  | 11 => ("BracedPages$Reader", "page", "LBracedPages$Page;", true)
  | 12 => ("BracedPages$Reader", "next", "I", false)
  | 13 => ("BracedPages$Reader", "thing", "I", false)
  | 14 => ("BracedPages$Reader", "fault", "I", false)
  | _ => ("BracedPages$Reader", "met", "I", false)
def bp_y6 : Nat → FieldType := fun k => match k with
  | 0 => .boolean
  | 1 => .int
  | 2 => .int
  | 3 => .boolean
  | 4 => .boolean
  | 5 => .int
  | 6 => .int
  | 7 => .int
  | 8 => .int
  | 9 => .int
  | 10 => .object "BracedPages$Row"
  | 11 => .object "BracedPages$Page"
  | 12 => .int
  | 13 => .int
  | 14 => .int
  | _ => .int
def bp_T7 : u_T := fun k => match k with
  | 0 => ("BracedPages$BracedWriter", "entries", "[I", true)
  | 1 => ("BracedPages$Writer", "page", "LBracedPages$Page;", true)
  | _ => ("BracedPages$Writer", "target", "LBracedPages$Row;", true)
def bp_y7 : Nat → FieldType := fun k => match k with
  | 0 => .array (.int)
  | 1 => .object "BracedPages$Page"
  | _ => .object "BracedPages$Row"
def bp_T8 : u_T := fun k => match k with
  | 0 => ("BracedPages$Writer", "page", "LBracedPages$Page;", true)
  | _ => ("BracedPages$Writer", "target", "LBracedPages$Row;", true)
def bp_y8 : Nat → FieldType := fun k => match k with
  | 0 => .object "BracedPages$Page"
  | _ => .object "BracedPages$Row"
def bp_T9 : u_T := fun k => match k with
  | 0 => ("BracedPagesModel", "thrown", "I", false)
  | 1 => ("BracedPagesModel", "inSize", "I", false)
  | 2 => ("BracedPagesModel", "in", "[C", true)
  | 3 => ("BracedPagesModel", "outSize", "I", false)
  | 4 => ("BracedPagesModel", "outRow", "[B", true)
  | 5 => ("BracedPagesModel", "many", "[I", true)
  | 6 => ("BracedPagesModel", "paras", "[I", true)
  | 7 => ("BracedPagesModel", "code", "[I", true)
  | 8 => ("BracedPagesModel", "look", "[I", true)
  | 9 => ("BracedPagesModel", "para", "[I", true)
  | 10 => ("BracedPagesModel", "align", "[I", true)
  | 11 => ("BracedPagesModel", "indents", "[I", true)
  | 12 => ("BracedPagesModel", "at", "I", false)
  | 13 => ("BracedPagesModel", "fault", "I", false)
  | 14 => ("BracedPagesModel", "faultAt", "I", false)
  | 15 => ("BracedPagesModel", "told", "I", false)
  | 16 => ("BracedPagesModel", "lookNow", "I", false)
  | 17 => ("BracedPagesModel", "alignNow", "I", false)
  | 18 => ("BracedPagesModel", "indentNow", "I", false)
  | 19 => ("BracedPagesModel", "skipNow", "I", false)
  | 20 => ("BracedPagesModel", "depth", "I", false)
  | 21 => ("BracedPagesModel", "noted", "[I", true)
  | 22 => ("BracedPagesModel", "leaving", "I", false)
  | 23 => ("BracedPagesModel", "fresh", "Z", false)
  | 24 => ("BracedPagesModel", "entries", "I", false)
  | 25 => ("BracedPagesModel", "table", "[I", true)
  | 26 => ("BracedPagesModel", "found", "[I", true)
  | 27 => ("BracedPagesModel", "nameFrom", "I", false)
  | 28 => ("BracedPagesModel", "nameTo", "I", false)
  | 29 => ("BracedPagesModel", "digits", "I", false)
  | 30 => ("BracedPagesModel", "number", "I", false)
  | 31 => ("BracedPagesModel", "kind", "I", false)
  | 32 => ("BracedPagesModel", "partNumber", "I", false)
  | _ => ("BracedPagesModel", "partEnd", "I", false)
def bp_y9 : Nat → FieldType := fun k => match k with
  | 0 => .int
  | 1 => .int
  | 2 => .array (.char)
  | 3 => .int
  | 4 => .array (.byte)
  | 5 => .array (.int)
  | 6 => .array (.int)
  | 7 => .array (.int)
  | 8 => .array (.int)
  | 9 => .array (.int)
  | 10 => .array (.int)
  | 11 => .array (.int)
  | 12 => .int
  | 13 => .int
  | 14 => .int
  | 15 => .int
  | 16 => .int
  | 17 => .int
  | 18 => .int
  | 19 => .int
  | 20 => .int
  | 21 => .array (.int)
  | 22 => .int
  | 23 => .boolean
  | 24 => .int
  | 25 => .array (.int)
  | 26 => .array (.int)
  | 27 => .int
  | 28 => .int
  | 29 => .int
  | 30 => .int
  | 31 => .int
  | 32 => .int
  | _ => .int
def bp_T10 : u_T := fun k => match k with
  | _ => ("", "", "", false)
def bp_y10 : Nat → FieldType := fun k => match k with
  | _ => .int
def bp_T11 : u_T := fun k => match k with
  | _ => ("", "", "", false)
def bp_y11 : Nat → FieldType := fun k => match k with
  | _ => .int
def bp_T12 : u_T := fun k => match k with
  | _ => ("", "", "", false)
def bp_y12 : Nat → FieldType := fun k => match k with
  | _ => .int
def bp_T13 : u_T := fun k => match k with
  | _ => ("", "", "", false)
def bp_y13 : Nat → FieldType := fun k => match k with
  | _ => .int
abbrev bp_cl : List vw_C := [("BracedPages", bp_T0, 9), ("BracedPages$Row", bp_T1, 2), ("BracedPages$Page", bp_T2, 6), ("BracedPages$BracedReader", bp_T3, 17), ("BracedPages$State", bp_T4, 6), ("BracedPages$ColourTable", bp_T5, 3), ("BracedPages$TaggedReader", bp_T6, 16), ("BracedPages$BracedWriter", bp_T7, 3), ("BracedPages$TaggedWriter", bp_T8, 2), ("BracedPagesModel", bp_T9, 34), ("java/lang/IllegalArgumentException", bp_T10, 0), ("java/lang/UnsupportedOperationException", bp_T11, 0), ("java/lang/IllegalStateException", bp_T12, 0), ("java/util/NoSuchElementException", bp_T13, 0)]
def bp_ty (n : Nat) : Nat → FieldType := match n with
  | 0 => bp_y0
  | 1 => bp_y1
  | 2 => bp_y2
  | 3 => bp_y3
  | 4 => bp_y4
  | 5 => bp_y5
  | 6 => bp_y6
  | 7 => bp_y7
  | 8 => bp_y8
  | 9 => bp_y9
  | 10 => bp_y10
  | 11 => bp_y11
  | 12 => bp_y12
  | 13 => bp_y13
  | _ => fun _ => .int
/-! String constants: class, place in its pool, text, bytes -/
def bp_S : List (String × Nat × String × List Int32) := [("BracedPages", 220, "red", [114, 101, 100]), ("BracedPages", 222, "green", [103, 114, 101, 101, 110]), ("BracedPages", 224, "blue", [98, 108, 117, 101]), ("BracedPages", 226, "cyan", [99, 121, 97, 110]), ("BracedPages", 228, "magenta", [109, 97, 103, 101, 110, 116, 97]), ("BracedPages", 230, "yellow", [121, 101, 108, 108, 111, 119]), ("BracedPages", 232, "white", [119, 104, 105, 116, 101]), ("BracedPages", 234, "black", [98, 108, 97, 99, 107]), ("BracedPages$BracedReader", 175, "b", [98]), ("BracedPages$BracedReader", 177, "i", [105]), ("BracedPages$BracedReader", 179, "ul", [117, 108]), ("BracedPages$BracedReader", 181, "fs", [102, 115]), ("BracedPages$BracedReader", 183, "cf", [99, 102]), ("BracedPages$BracedReader", 185, "plain", [112, 108, 97, 105, 110]), ("BracedPages$BracedReader", 187, "ql", [113, 108]), ("BracedPages$BracedReader", 189, "qc", [113, 99]), ("BracedPages$BracedReader", 191, "qr", [113, 114]), ("BracedPages$BracedReader", 193, "li", [108, 105]), ("BracedPages$BracedReader", 195, "pard", [112, 97, 114, 100]), ("BracedPages$BracedReader", 197, "par", [112, 97, 114]), ("BracedPages$BracedReader", 199, "uc", [117, 99]), ("BracedPages$BracedReader", 201, "u", [117]), ("BracedPages$BracedReader", 203, "colortbl", [99, 111, 108, 111, 114, 116, 98, 108]), ("BracedPages$BracedReader", 205, "", []), ("BracedPages$TaggedReader", 137, "&lt;", [38, 108, 116, 59]), ("BracedPages$TaggedReader", 143, "&gt;", [38, 103, 116, 59]), ("BracedPages$TaggedReader", 145, "&amp;", [38, 97, 109, 112, 59]), ("BracedPages$BracedWriter", 49, "{\\colortbl;", [123, 92, 99, 111, 108, 111, 114, 116, 98, 108, 59]), ("BracedPages$BracedWriter", 59, "\\pard", [92, 112, 97, 114, 100]), ("BracedPages$BracedWriter", 61, "\\qc", [92, 113, 99]), ("BracedPages$BracedWriter", 63, "\\qr", [92, 113, 114]), ("BracedPages$BracedWriter", 65, "\\li", [92, 108, 105]), ("BracedPages$TaggedWriter", 15, "<p", [60, 112]), ("BracedPages$BracedWriter", 74, "\\b", [92, 98]), ("BracedPages$BracedWriter", 79, "\\i", [92, 105]), ("BracedPages$BracedWriter", 81, "\\ul", [92, 117, 108]), ("BracedPages$BracedWriter", 83, "\\fs", [92, 102, 115]), ("BracedPages$BracedWriter", 88, "\\cf", [92, 99, 102]), ("BracedPages$TaggedWriter", 30, "<b>", [60, 98, 62]), ("BracedPages$TaggedWriter", 36, "<i>", [60, 105, 62]), ("BracedPages$TaggedWriter", 38, "<u>", [60, 117, 62]), ("BracedPages$TaggedWriter", 40, "<s ", [60, 115, 32]), ("BracedPages$TaggedWriter", 49, "<c ", [60, 99, 32]), ("BracedPages$BracedWriter", 96, "\\'", [92, 39]), ("BracedPages$TaggedWriter", 67, "&lt;", [38, 108, 116, 59]), ("BracedPages$TaggedWriter", 69, "&gt;", [38, 103, 116, 59]), ("BracedPages$TaggedWriter", 71, "&amp;", [38, 97, 109, 112, 59]), ("BracedPages$TaggedWriter", 54, "</c>", [60, 47, 99, 62]), ("BracedPages$TaggedWriter", 56, "</s>", [60, 47, 115, 62]), ("BracedPages$TaggedWriter", 58, "</u>", [60, 47, 117, 62]), ("BracedPages$TaggedWriter", 60, "</i>", [60, 47, 105, 62]), ("BracedPages$TaggedWriter", 62, "</b>", [60, 47, 98, 62]), ("BracedPages$BracedWriter", 101, "\\par", [92, 112, 97, 114]), ("BracedPages$TaggedWriter", 73, "</p>", [60, 47, 112, 62]), ("BracedPages", 75, "not a character of IN", [110, 111, 116, 32, 97, 32, 99, 104, 97, 114, 97, 99, 116, 101, 114, 32, 111, 102, 32, 73, 78]), ("BracedPages", 86, "IN would be too long", [73, 78, 32, 119, 111, 117, 108, 100, 32, 98, 101, 32, 116, 111, 111, 32, 108, 111, 110, 103]), ("BracedPages", 95, "OUT is too long for IN", [79, 85, 84, 32, 105, 115, 32, 116, 111, 111, 32, 108, 111, 110, 103, 32, 102, 111, 114, 32, 73, 78]), ("BracedPages", 123, "no such alignment or indent", [110, 111, 32, 115, 117, 99, 104, 32, 97, 108, 105, 103, 110, 109, 101, 110, 116, 32, 111, 114, 32, 105, 110, 100, 101, 110, 116]), ("BracedPages", 129, "the page has all its paragraphs", [116, 104, 101, 32, 112, 97, 103, 101, 32, 104, 97, 115, 32, 97, 108, 108, 32, 105, 116, 115, 32, 112, 97, 114, 97, 103, 114, 97, 112, 104, 115]), ("BracedPages", 138, "there is no paragraph", [116, 104, 101, 114, 101, 32, 105, 115, 32, 110, 111, 32, 112, 97, 114, 97, 103, 114, 97, 112, 104]), ("BracedPages", 144, "no such letter or look", [110, 111, 32, 115, 117, 99, 104, 32, 108, 101, 116, 116, 101, 114, 32, 111, 114, 32, 108, 111, 111, 107]), ("BracedPages", 149, "the page has all its letters", [116, 104, 101, 32, 112, 97, 103, 101, 32, 104, 97, 115, 32, 97, 108, 108, 32, 105, 116, 115, 32, 108, 101, 116, 116, 101, 114, 115]), ("BracedPages", 167, "no such paragraph", [110, 111, 32, 115, 117, 99, 104, 32, 112, 97, 114, 97, 103, 114, 97, 112, 104]), ("BracedPages", 182, "a paragraph has no such number", [97, 32, 112, 97, 114, 97, 103, 114, 97, 112, 104, 32, 104, 97, 115, 32, 110, 111, 32, 115, 117, 99, 104, 32, 110, 117, 109, 98, 101, 114]), ("BracedPages", 188, "no such run", [110, 111, 32, 115, 117, 99, 104, 32, 114, 117, 110]), ("BracedPages", 205, "a run has no such number", [97, 32, 114, 117, 110, 32, 104, 97, 115, 32, 110, 111, 32, 115, 117, 99, 104, 32, 110, 117, 109, 98, 101, 114]), ("BracedPages", 207, "no such letter", [110, 111, 32, 115, 117, 99, 104, 32, 108, 101, 116, 116, 101, 114])]
/-! handlers: only the law has methods with some -/
def bp_hh (y : MethodName) : List (Nat × Nat × Nat × Nat) := if y.cls = "BracedPagesLaw" then (match y.name with
  | "feed" => [(0, 9, 12, 13), (0, 9, 16, 15)]
  | "take" => [(0, 8, 11, 15)]
  | "begin" => [(0, 10, 13, 13), (0, 10, 17, 15)]
  | "add" => [(0, 14, 17, 29), (0, 14, 21, 13), (0, 14, 25, 15)]
  | "paragraph" => [(0, 10, 13, 34), (0, 10, 17, 13)]
  | "run" => [(0, 12, 15, 34), (0, 12, 19, 13)]
  | "letter" => [(0, 10, 13, 34)]
  | _ => []) else []
/-! exceptions that are not of a kind -/
def bp_NC : List (String × String) := [("java/lang/UnsupportedOperationException", "java/lang/IllegalArgumentException"), ("java/lang/IllegalArgumentException", "java/lang/IllegalStateException"), ("java/lang/UnsupportedOperationException", "java/lang/IllegalStateException"), ("java/lang/IllegalArgumentException", "java/util/NoSuchElementException")]
def bp_EC : String := "BracedPages$State"
/-! the words -/
def bp_sw (w : Cond) : Bool := (w.onTables && w.keeps) || (match w with
  | .fieldLinkNest .. => true
  | .methodLinkNest .. => true
  | .declares _ => true
  | .arrayClass _ => true
  | .castable .. => true
  | .arrayOver (.object _) => true
  | _ => false)
/-- private methods of a class, called on objects of its subclasses -/
def bp_X : List Cond := [.selects "BracedPages$BracedWriter" ⟨"BracedPages$Writer", "writeParagraph", "(I)V"⟩ ⟨"BracedPages$Writer", "writeParagraph", "(I)V"⟩, .selects "BracedPages$TaggedWriter" ⟨"BracedPages$Writer", "writeParagraph", "(I)V"⟩ ⟨"BracedPages$Writer", "writeParagraph", "(I)V"⟩]
def bp_WS : List Cond := lw_tbl.filter bp_sw ++ bp_X
theorem bp_mem {w : Cond} (h : w ∈ lw_tbl ∧ bp_sw w = true) : w ∈ bp_WS := List.mem_append_left _ (List.mem_filter.mpr h)
theorem wp_BW : Cond.selects "BracedPages$BracedWriter" ⟨"BracedPages$Writer", "writeParagraph", "(I)V"⟩ ⟨"BracedPages$Writer", "writeParagraph", "(I)V"⟩ ∈ bp_WS := List.mem_append_right _ List.mem_cons_self
theorem wp_TW : Cond.selects "BracedPages$TaggedWriter" ⟨"BracedPages$Writer", "writeParagraph", "(I)V"⟩ ⟨"BracedPages$Writer", "writeParagraph", "(I)V"⟩ ∈ bp_WS := List.mem_append_right _ (List.mem_cons_of_mem _ List.mem_cons_self)
theorem bp_WS_sw : ∀ w ∈ bp_WS, bp_sw w = true := fun w h => (List.mem_append.mp h).elim (fun h => (List.mem_filter.mp h).2) (fun h => by
  rcases List.mem_cons.mp h with h | h
  · subst h; rfl
  · rcases List.mem_cons.mp h with h | h
    · subst h; rfl
    · cases h)
theorem bp_sw_go {w : Cond} (hw : bp_sw w = true) {s U : State} {a0 a : Array Value} (hW : s.WarmedH U.vm) (hb : w.before a0 s = true) : w.before a U = true := by
  unfold bp_sw at hw
  rw [Bool.or_eq_true] at hw
  rcases hw with hw | hw
  · exact word_at hW (Or.inl hw) hb
  · split at hw
    · exact va_Nw.use rfl (va_Nw.warmF hW (va_Nw.of rfl hb))
    · exact va_Nw.use rfl (va_Nw.warmM hW (va_Nw.of rfl hb))
    · exact va_Nw.use rfl (va_Nw.warmD hW (va_Nw.of rfl hb))
    · exact word_at hW (Or.inr ⟨_, rfl⟩) hb
    · exact va_Nw.use rfl (va_Nw.warmC hW (va_Nw.of rfl hb))
    · exact va_AO.use (va_AO.moved hW.alike (va_AO.of hb))
    · cases hw
