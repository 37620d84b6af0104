/-! classes, their fields -/
def bp_T0 : u_T := fun k => match k with
  | 0 => ("BracedPages", "in", "LBracedPages$Row;", true)
  | 1 => ("BracedPages", "written", "LBracedPages$Row;", true)
  | 2 => ("BracedPages", "page", "LBracedPages$Page;", true)
  | 3 => ("BracedPages", "draft", "LBracedPages$Page;", true)
  | 4 => ("BracedPages", "bracedReader", "LBracedPages$Reader;", true)
  | 5 => ("BracedPages", "taggedReader", "LBracedPages$Reader;", true)
  | 6 => ("BracedPages", "bracedWriter", "LBracedPages$Writer;", true)
  | 7 => ("BracedPages", "taggedWriter", "LBracedPages$Writer;", true)
  | _ => ("BracedPages", "met", "I", false)
def bp_y0 : Nat → FieldType := fun k => match k with
  | 0 => .object "BracedPages$Row"
  | 1 => .object "BracedPages$Row"
  | 2 => .object "BracedPages$Page"
  | 3 => .object "BracedPages$Page"
  | 4 => .object "BracedPages$Reader"
  | 5 => .object "BracedPages$Reader"
  | 6 => .object "BracedPages$Writer"
  | 7 => .object "BracedPages$Writer"
  | _ => .int
def bp_T1 : u_T := fun k => match k with
  | 0 => ("BracedPages$Row", "items", "[I", false)
  | _ => ("BracedPages$Row", "size", "I", false)
def bp_y1 : Nat → FieldType := fun k => match k with
  | 0 => .array (.int)
  | _ => .int
def bp_T2 : u_T := fun k => match k with
  | 0 => ("BracedPages$Page", "alignments", "[I", true)
  | 1 => ("BracedPages$Page", "indents", "[I", true)
  | 2 => ("BracedPages$Page", "ends", "[I", true)
  | 3 => ("BracedPages$Page", "codes", "LBracedPages$Row;", true)
  | 4 => ("BracedPages$Page", "looks", "LBracedPages$Row;", true)
  | _ => ("BracedPages$Page", "size", "I", false)
def bp_y2 : Nat → FieldType := fun k => match k with
  | 0 => .array (.int)
  | 1 => .array (.int)
  | 2 => .array (.int)
  | 3 => .object "BracedPages$Row"
  | 4 => .object "BracedPages$Row"
  | _ => .int
def bp_T3 : u_T := fun k => match k with
  | 0 => ("BracedPages$BracedReader", "state", "LBracedPages$State;", true)
  | 1 => ("BracedPages$BracedReader", "noted", "[LBracedPages$State;", true)
  | 2 => ("BracedPages$BracedReader", "table", "LBracedPages$ColourTable;", true)
  | 3 => ("BracedPages$BracedReader", "openGroups", "I", false)
  | 4 => ("BracedPages$BracedReader", "ended", "Z", false)
  | 5 => ("BracedPages$BracedReader", "rightBehindBrace", "Z", false)
  | 6 => ("BracedPages$BracedReader", "toLeaveOut", "I", false)
  | 7 => ("BracedPages$BracedReader", "inTable", "Z", false)
  | 8 => ("BracedPages$BracedReader", "word", "I", false)
  | 9 => ("BracedPages$BracedReader", "number", "I", false)
  | 10 => ("BracedPages$BracedReader", "digits", "I", false)
  | 11 => ("BracedPages$Reader", "text", "LBracedPages$Row;", true)
  | 12 => ("BracedPages$Reader", "page", "LBracedPages$Page;", true)
  | 13 => ("BracedPages$Reader", "next", "I", false)
  | 14 => ("BracedPages$Reader", "thing", "I", false)
  | 15 => ("BracedPages$Reader", "fault", "I", false)
  | _ => ("BracedPages$Reader", "met", "I", false)
def bp_y3 : Nat → FieldType := fun k => match k with
  | 0 => .object "BracedPages$State"
  | 1 => .array (.object "BracedPages$State")
  | 2 => .object "BracedPages$ColourTable"
  | 3 => .int
  | 4 => .boolean
  | 5 => .boolean
  | 6 => .int
  | 7 => .boolean
  | 8 => .int
  | 9 => .int
  | 10 => .int
  | 11 => .object "BracedPages$Row"
  | 12 => .object "BracedPages$Page"
  | 13 => .int
  | 14 => .int
  | 15 => .int
  | _ => .int
def bp_T4 : u_T := fun k => match k with
  | 0 => ("BracedPages$State", "style", "I", false)
  | 1 => ("BracedPages$State", "size", "I", false)
  | 2 => ("BracedPages$State", "colour", "I", false)
  | 3 => ("BracedPages$State", "alignment", "I", false)
  | 4 => ("BracedPages$State", "indent", "I", false)
  | _ => ("BracedPages$State", "skip", "I", false)
def bp_y4 : Nat → FieldType := fun k => match k with
  | 0 => .int
  | 1 => .int
  | 2 => .int
  | 3 => .int
  | 4 => .int
  | _ => .int
def bp_T5 : u_T := fun k => match k with
  | 0 => ("BracedPages$ColourTable", "colours", "[I", true)
  | 1 => ("BracedPages$ColourTable", "name", "LBracedPages$Row;", true)
  | _ => ("BracedPages$ColourTable", "size", "I", false)
def bp_y5 : Nat → FieldType := fun k => match k with
  | 0 => .array (.int)
  | 1 => .object "BracedPages$Row"
  | _ => .int
def bp_T6 : u_T := fun k => match k with
  | 0 => ("BracedPages$TaggedReader", "inParagraph", "Z", false)
  | 1 => ("BracedPages$TaggedReader", "openTags", "I", false)
  | 2 => ("BracedPages$TaggedReader", "runStart", "I", false)
  | 3 => ("BracedPages$TaggedReader", "hasLetter", "Z", false)
  | 4 => ("BracedPages$TaggedReader", "isEnding", "Z", false)
  | 5 => ("BracedPages$TaggedReader", "style", "I", false)
  | 6 => ("BracedPages$TaggedReader", "size", "I", false)
  | 7 => ("BracedPages$TaggedReader", "colour", "I", false)
  | 8 => ("BracedPages$TaggedReader", "number", "I", false)
  | 9 => ("BracedPages$TaggedReader", "numberEnd", "I", false)
  | 10 => ("BracedPages$Reader", "text", "LBracedPages$Row;", true)
  | 11 => ("BracedPages$Reader", "page", "LBracedPages$Page;", true)
  | 12 => ("BracedPages$Reader", "next", "I", false)
  | 13 => ("BracedPages$Reader", "thing", "I", false)
  | 14 => ("BracedPages$Reader", "fault", "I", false)
  | _ => ("BracedPages$Reader", "met", "I", false)
def bp_y6 : Nat → FieldType := fun k => match k with
  | 0 => .boolean
  | 1 => .int
  | 2 => .int
  | 3 => .boolean
  | 4 => .boolean
  | 5 => .int
  | 6 => .int
  | 7 => .int
  | 8 => .int
  | 9 => .int
  | 10 => .object "BracedPages$Row"
  | 11 => .object "BracedPages$Page"
  | 12 => .int
  | 13 => .int
  | 14 => .int
  | _ => .int
def bp_T7 : u_T := fun k => match k with
  | 0 => ("BracedPages$BracedWriter", "entries", "[I", true)
  | 1 => ("BracedPages$Writer", "page", "LBracedPages$Page;", true)
  | _ => ("BracedPages$Writer", "target", "LBracedPages$Row;", true)
def bp_y7 : Nat → FieldType := fun k => match k with
  | 0 => .array (.int)
  | 1 => .object "BracedPages$Page"
  | _ => .object "BracedPages$Row"
def bp_T8 : u_T := fun k => match k with
  | 0 => ("BracedPages$Writer", "page", "LBracedPages$Page;", true)
  | _ => ("BracedPages$Writer", "target", "LBracedPages$Row;", true)
def bp_y8 : Nat → FieldType := fun k => match k with
  | 0 => .object "BracedPages$Page"
  | _ => .object "BracedPages$Row"
def bp_T9 : u_T := fun k => match k with
  | 0 => ("BracedPagesModel", "thrown", "I", false)
  | 1 => ("BracedPagesModel", "inSize", "I", false)
  | 2 => ("BracedPagesModel", "in", "[C", true)
  | 3 => ("BracedPagesModel", "outSize", "I", false)
  | 4 => ("BracedPagesModel", "outRow", "[B", true)
  | 5 => ("BracedPagesModel", "many", "[I", true)
  | 6 => ("BracedPagesModel", "paras", "[I", true)
  | 7 => ("BracedPagesModel", "code", "[I", true)
  | 8 => ("BracedPagesModel", "look", "[I", true)
  | 9 => ("BracedPagesModel", "para", "[I", true)
  | 10 => ("BracedPagesModel", "align", "[I", true)
  | 11 => ("BracedPagesModel", "indents", "[I", true)
  | 12 => ("BracedPagesModel", "at", "I", false)
  | 13 => ("BracedPagesModel", "fault", "I", false)
  | 14 => ("BracedPagesModel", "faultAt", "I", false)
  | 15 => ("BracedPagesModel", "told", "I", false)
  | 16 => ("BracedPagesModel", "lookNow", "I", false)
  | 17 => ("BracedPagesModel", "alignNow", "I", false)
  | 18 => ("BracedPagesModel", "indentNow", "I", false)
  | 19 => ("BracedPagesModel", "skipNow", "I", false)
  | 20 => ("BracedPagesModel", "depth", "I", false)
  | 21 => ("BracedPagesModel", "noted", "[I", true)
  | 22 => ("BracedPagesModel", "leaving", "I", false)
  | 23 => ("BracedPagesModel", "fresh", "Z", false)
  | 24 => ("BracedPagesModel", "entries", "I", false)
  | 25 => ("BracedPagesModel", "table", "[I", true)
  | 26 => ("BracedPagesModel", "found", "[I", true)
  | 27 => ("BracedPagesModel", "nameFrom", "I", false)
  | 28 => ("BracedPagesModel", "nameTo", "I", false)
  | 29 => ("BracedPagesModel", "digits", "I", false)
  | 30 => ("BracedPagesModel", "number", "I", false)
  | 31 => ("BracedPagesModel", "kind", "I", false)
  | 32 => ("BracedPagesModel", "partNumber", "I", false)
  | _ => ("BracedPagesModel", "partEnd", "I", false)
def bp_y9 : Nat → FieldType := fun k => match k with
  | 0 => .int
  | 1 => .int
  | 2 => .array (.char)
  | 3 => .int
  | 4 => .array (.byte)
  | 5 => .array (.int)
  | 6 => .array (.int)
  | 7 => .array (.int)
  | 8 => .array (.int)
  | 9 => .array (.int)
  | 10 => .array (.int)
  | 11 => .array (.int)
  | 12 => .int
  | 13 => .int
  | 14 => .int
  | 15 => .int
  | 16 => .int
  | 17 => .int
  | 18 => .int
  | 19 => .int
  | 20 => .int
  | 21 => .array (.int)
  | 22 => .int
  | 23 => .boolean
  | 24 => .int
  | 25 => .array (.int)
  | 26 => .array (.int)
  | 27 => .int
  | 28 => .int
  | 29 => .int
  | 30 => .int
  | 31 => .int
  | 32 => .int
  | _ => .int
def bp_T10 : u_T := fun k => match k with
  | _ => ("", "", "", false)
def bp_y10 : Nat → FieldType := fun k => match k with
  | _ => .int
def bp_T11 : u_T := fun k => match k with
  | _ => ("", "", "", false)
def bp_y11 : Nat → FieldType := fun k => match k with
  | _ => .int
def bp_T12 : u_T := fun k => match k with
  | _ => ("", "", "", false)
def bp_y12 : Nat → FieldType := fun k => match k with
  | _ => .int
def bp_T13 : u_T := fun k => match k with
  | _ => ("", "", "", false)
def bp_y13 : Nat → FieldType := fun k => match k with
  | _ => .int
abbrev bp_cl : List vw_C := [("BracedPages", bp_T0, 9), ("BracedPages$Row", bp_T1, 2), ("BracedPages$Page", bp_T2, 6), ("BracedPages$BracedReader", bp_T3, 17), ("BracedPages$State", bp_T4, 6), ("BracedPages$ColourTable", bp_T5, 3), ("BracedPages$TaggedReader", bp_T6, 16), ("BracedPages$BracedWriter", bp_T7, 3), ("BracedPages$TaggedWriter", bp_T8, 2), ("BracedPagesModel", bp_T9, 34), ("java/lang/IllegalArgumentException", bp_T10, 0), ("java/lang/UnsupportedOperationException", bp_T11, 0), ("java/lang/IllegalStateException", bp_T12, 0), ("java/util/NoSuchElementException", bp_T13, 0)]
def bp_ty (n : Nat) : Nat → FieldType := match n with
  | 0 => bp_y0
  | 1 => bp_y1
  | 2 => bp_y2
  | 3 => bp_y3
  | 4 => bp_y4
  | 5 => bp_y5
  | 6 => bp_y6
  | 7 => bp_y7
  | 8 => bp_y8
  | 9 => bp_y9
  | 10 => bp_y10
  | 11 => bp_y11
  | 12 => bp_y12
  | 13 => bp_y13
  | _ => fun _ => .int
def bp_EC : String := "BracedPages$State"
/-! the words -/
def bp_sw (w : Cond) : Bool := (w.onTables && w.keeps) || (match w with
  | .fieldLinkNest .. => true
  | .methodLinkNest .. => true
  | .declares _ => true
  | .arrayClass _ => true
  | _ => false)
def bp_WS : List Cond := lw_tbl.filter bp_sw
theorem bp_WS_sw : ∀ w ∈ bp_WS, bp_sw w = true := fun w h => (List.mem_filter.mp h).2
theorem bp_in {w : Cond} (i : Nat) (h : lw_tbl[i]? = some w) (hw : bp_sw w = true) : w ∈ bp_WS := List.mem_filter.mpr ⟨List.mem_of_getElem? h, hw⟩
theorem bp_sw_go {w : Cond} (hw : bp_sw w = true) {s U : State} {a : Array Value} (hW : s.WarmedH U.vm) (hb : w.before #[] s = true) : w.before a U = true := by
  unfold bp_sw at hw
  rw [Bool.or_eq_true] at hw
  rcases hw with hw | hw
  · exact word_at hW (Or.inl hw) hb
  · split at hw
    · exact va_Nw.use rfl (va_Nw.warmF hW hb)
    · exact va_Nw.use rfl (va_Nw.warmM hW hb)
    · exact va_Nw.use rfl (va_Nw.warmD hW hb)
    · exact word_at hW (Or.inr ⟨_, rfl⟩) hb
    · cases hw
