def sr0 : String × Nat × String × List Int32 := ("BracedPages", 220, "red", [114, 101, 100])
theorem hs0 : bp_S[0]? = some sr0 := rfl
theorem st0 : sT sr0 = [114, 101, 100] := by decide +kernel
def sr1 : String × Nat × String × List Int32 := ("BracedPages", 222, "green", [103, 114, 101, 101, 110])
theorem hs1 : bp_S[1]? = some sr1 := rfl
theorem st1 : sT sr1 = [103, 114, 101, 101, 110] := by decide +kernel
def sr2 : String × Nat × String × List Int32 := ("BracedPages", 224, "blue", [98, 108, 117, 101])
theorem hs2 : bp_S[2]? = some sr2 := rfl
theorem st2 : sT sr2 = [98, 108, 117, 101] := by decide +kernel
def sr3 : String × Nat × String × List Int32 := ("BracedPages", 226, "cyan", [99, 121, 97, 110])
theorem hs3 : bp_S[3]? = some sr3 := rfl
theorem st3 : sT sr3 = [99, 121, 97, 110] := by decide +kernel
def sr4 : String × Nat × String × List Int32 := ("BracedPages", 228, "magenta", [109, 97, 103, 101, 110, 116, 97])
theorem hs4 : bp_S[4]? = some sr4 := rfl
theorem st4 : sT sr4 = [109, 97, 103, 101, 110, 116, 97] := by decide +kernel
def sr5 : String × Nat × String × List Int32 := ("BracedPages", 230, "yellow", [121, 101, 108, 108, 111, 119])
theorem hs5 : bp_S[5]? = some sr5 := rfl
theorem st5 : sT sr5 = [121, 101, 108, 108, 111, 119] := by decide +kernel
def sr6 : String × Nat × String × List Int32 := ("BracedPages", 232, "white", [119, 104, 105, 116, 101])
theorem hs6 : bp_S[6]? = some sr6 := rfl
theorem st6 : sT sr6 = [119, 104, 105, 116, 101] := by decide +kernel
def sr7 : String × Nat × String × List Int32 := ("BracedPages", 234, "black", [98, 108, 97, 99, 107])
theorem hs7 : bp_S[7]? = some sr7 := rfl
theorem st7 : sT sr7 = [98, 108, 97, 99, 107] := by decide +kernel
def sr8 : String × Nat × String × List Int32 := ("BracedPages$BracedReader", 175, "b", [98])
theorem hs8 : bp_S[8]? = some sr8 := rfl
theorem st8 : sT sr8 = [98] := by decide +kernel
def sr9 : String × Nat × String × List Int32 := ("BracedPages$BracedReader", 177, "i", [105])
theorem hs9 : bp_S[9]? = some sr9 := rfl
theorem st9 : sT sr9 = [105] := by decide +kernel
def sr10 : String × Nat × String × List Int32 := ("BracedPages$BracedReader", 179, "ul", [117, 108])
theorem hs10 : bp_S[10]? = some sr10 := rfl
theorem st10 : sT sr10 = [117, 108] := by decide +kernel
def sr11 : String × Nat × String × List Int32 := ("BracedPages$BracedReader", 181, "fs", [102, 115])
theorem hs11 : bp_S[11]? = some sr11 := rfl
theorem st11 : sT sr11 = [102, 115] := by decide +kernel
def sr12 : String × Nat × String × List Int32 := ("BracedPages$BracedReader", 183, "cf", [99, 102])
theorem hs12 : bp_S[12]? = some sr12 := rfl
theorem st12 : sT sr12 = [99, 102] := by decide +kernel
def sr13 : String × Nat × String × List Int32 := ("BracedPages$BracedReader", 185, "plain", [112, 108, 97, 105, 110])
theorem hs13 : bp_S[13]? = some sr13 := rfl
theorem st13 : sT sr13 = [112, 108, 97, 105, 110] := by decide +kernel
def sr14 : String × Nat × String × List Int32 := ("BracedPages$BracedReader", 187, "ql", [113, 108])
theorem hs14 : bp_S[14]? = some sr14 := rfl
theorem st14 : sT sr14 = [113, 108] := by decide +kernel
def sr15 : String × Nat × String × List Int32 := ("BracedPages$BracedReader", 189, "qc", [113, 99])
theorem hs15 : bp_S[15]? = some sr15 := rfl
theorem st15 : sT sr15 = [113, 99] := by decide +kernel
def sr16 : String × Nat × String × List Int32 := ("BracedPages$BracedReader", 191, "qr", [113, 114])
theorem hs16 : bp_S[16]? = some sr16 := rfl
theorem st16 : sT sr16 = [113, 114] := by decide +kernel
def sr17 : String × Nat × String × List Int32 := ("BracedPages$BracedReader", 193, "li", [108, 105])
theorem hs17 : bp_S[17]? = some sr17 := rfl
theorem st17 : sT sr17 = [108, 105] := by decide +kernel
def sr18 : String × Nat × String × List Int32 := ("BracedPages$BracedReader", 195, "pard", [112, 97, 114, 100])
theorem hs18 : bp_S[18]? = some sr18 := rfl
theorem st18 : sT sr18 = [112, 97, 114, 100] := by decide +kernel
def sr19 : String × Nat × String × List Int32 := ("BracedPages$BracedReader", 197, "par", [112, 97, 114])
theorem hs19 : bp_S[19]? = some sr19 := rfl
theorem st19 : sT sr19 = [112, 97, 114] := by decide +kernel
def sr20 : String × Nat × String × List Int32 := ("BracedPages$BracedReader", 199, "uc", [117, 99])
theorem hs20 : bp_S[20]? = some sr20 := rfl
theorem st20 : sT sr20 = [117, 99] := by decide +kernel
def sr21 : String × Nat × String × List Int32 := ("BracedPages$BracedReader", 201, "u", [117])
theorem hs21 : bp_S[21]? = some sr21 := rfl
theorem st21 : sT sr21 = [117] := by decide +kernel
def sr22 : String × Nat × String × List Int32 := ("BracedPages$BracedReader", 203, "colortbl", [99, 111, 108, 111, 114, 116, 98, 108])
theorem hs22 : bp_S[22]? = some sr22 := rfl
theorem st22 : sT sr22 = [99, 111, 108, 111, 114, 116, 98, 108] := by decide +kernel
def sr23 : String × Nat × String × List Int32 := ("BracedPages$BracedReader", 205, "", [])
theorem hs23 : bp_S[23]? = some sr23 := rfl
theorem st23 : sT sr23 = [] := by decide +kernel
def sr24 : String × Nat × String × List Int32 := ("BracedPages$TaggedReader", 137, "&lt;", [38, 108, 116, 59])
theorem hs24 : bp_S[24]? = some sr24 := rfl
theorem st24 : sT sr24 = [38, 108, 116, 59] := by decide +kernel
def sr25 : String × Nat × String × List Int32 := ("BracedPages$TaggedReader", 143, "&gt;", [38, 103, 116, 59])
theorem hs25 : bp_S[25]? = some sr25 := rfl
theorem st25 : sT sr25 = [38, 103, 116, 59] := by decide +kernel
def sr26 : String × Nat × String × List Int32 := ("BracedPages$TaggedReader", 145, "&amp;", [38, 97, 109, 112, 59])
theorem hs26 : bp_S[26]? = some sr26 := rfl
theorem st26 : sT sr26 = [38, 97, 109, 112, 59] := by decide +kernel
def sr27 : String × Nat × String × List Int32 := ("BracedPages$BracedWriter", 49, "{\\colortbl;", [123, 92, 99, 111, 108, 111, 114, 116, 98, 108, 59])
theorem hs27 : bp_S[27]? = some sr27 := rfl
theorem st27 : sT sr27 = [123, 92, 99, 111, 108, 111, 114, 116, 98, 108, 59] := by decide +kernel
def sr28 : String × Nat × String × List Int32 := ("BracedPages$BracedWriter", 59, "\\pard", [92, 112, 97, 114, 100])
theorem hs28 : bp_S[28]? = some sr28 := rfl
theorem st28 : sT sr28 = [92, 112, 97, 114, 100] := by decide +kernel
def sr29 : String × Nat × String × List Int32 := ("BracedPages$BracedWriter", 61, "\\qc", [92, 113, 99])
theorem hs29 : bp_S[29]? = some sr29 := rfl
theorem st29 : sT sr29 = [92, 113, 99] := by decide +kernel
def sr30 : String × Nat × String × List Int32 := ("BracedPages$BracedWriter", 63, "\\qr", [92, 113, 114])
theorem hs30 : bp_S[30]? = some sr30 := rfl
theorem st30 : sT sr30 = [92, 113, 114] := by decide +kernel
def sr31 : String × Nat × String × List Int32 := ("BracedPages$BracedWriter", 65, "\\li", [92, 108, 105])
theorem hs31 : bp_S[31]? = some sr31 := rfl
theorem st31 : sT sr31 = [92, 108, 105] := by decide +kernel
def sr32 : String × Nat × String × List Int32 := ("BracedPages$TaggedWriter", 15, "<p", [60, 112])
theorem hs32 : bp_S[32]? = some sr32 := rfl
theorem st32 : sT sr32 = [60, 112] := by decide +kernel
def sr33 : String × Nat × String × List Int32 := ("BracedPages$BracedWriter", 74, "\\b", [92, 98])
theorem hs33 : bp_S[33]? = some sr33 := rfl
theorem st33 : sT sr33 = [92, 98] := by decide +kernel
def sr34 : String × Nat × String × List Int32 := ("BracedPages$BracedWriter", 79, "\\i", [92, 105])
theorem hs34 : bp_S[34]? = some sr34 := rfl
theorem st34 : sT sr34 = [92, 105] := by decide +kernel
def sr35 : String × Nat × String × List Int32 := ("BracedPages$BracedWriter", 81, "\\ul", [92, 117, 108])
theorem hs35 : bp_S[35]? = some sr35 := rfl
theorem st35 : sT sr35 = [92, 117, 108] := by decide +kernel
def sr36 : String × Nat × String × List Int32 := ("BracedPages$BracedWriter", 83, "\\fs", [92, 102, 115])
theorem hs36 : bp_S[36]? = some sr36 := rfl
theorem st36 : sT sr36 = [92, 102, 115] := by decide +kernel
def sr37 : String × Nat × String × List Int32 := ("BracedPages$BracedWriter", 88, "\\cf", [92, 99, 102])
theorem hs37 : bp_S[37]? = some sr37 := rfl
theorem st37 : sT sr37 = [92, 99, 102] := by decide +kernel
def sr38 : String × Nat × String × List Int32 := ("BracedPages$TaggedWriter", 30, "<b>", [60, 98, 62])
theorem hs38 : bp_S[38]? = some sr38 := rfl
theorem st38 : sT sr38 = [60, 98, 62] := by decide +kernel
def sr39 : String × Nat × String × List Int32 := ("BracedPages$TaggedWriter", 36, "<i>", [60, 105, 62])
theorem hs39 : bp_S[39]? = some sr39 := rfl
theorem st39 : sT sr39 = [60, 105, 62] := by decide +kernel
def sr40 : String × Nat × String × List Int32 := ("BracedPages$TaggedWriter", 38, "<u>", [60, 117, 62])
theorem hs40 : bp_S[40]? = some sr40 := rfl
theorem st40 : sT sr40 = [60, 117, 62] := by decide +kernel
def sr41 : String × Nat × String × List Int32 := ("BracedPages$TaggedWriter", 40, "<s ", [60, 115, 32])
theorem hs41 : bp_S[41]? = some sr41 := rfl
theorem st41 : sT sr41 = [60, 115, 32] := by decide +kernel
def sr42 : String × Nat × String × List Int32 := ("BracedPages$TaggedWriter", 49, "<c ", [60, 99, 32])
theorem hs42 : bp_S[42]? = some sr42 := rfl
theorem st42 : sT sr42 = [60, 99, 32] := by decide +kernel
def sr43 : String × Nat × String × List Int32 := ("BracedPages$BracedWriter", 96, "\\'", [92, 39])
theorem hs43 : bp_S[43]? = some sr43 := rfl
theorem st43 : sT sr43 = [92, 39] := by decide +kernel
def sr44 : String × Nat × String × List Int32 := ("BracedPages$TaggedWriter", 67, "&lt;", [38, 108, 116, 59])
theorem hs44 : bp_S[44]? = some sr44 := rfl
theorem st44 : sT sr44 = [38, 108, 116, 59] := by decide +kernel
def sr45 : String × Nat × String × List Int32 := ("BracedPages$TaggedWriter", 69, "&gt;", [38, 103, 116, 59])
theorem hs45 : bp_S[45]? = some sr45 := rfl
theorem st45 : sT sr45 = [38, 103, 116, 59] := by decide +kernel
def sr46 : String × Nat × String × List Int32 := ("BracedPages$TaggedWriter", 71, "&amp;", [38, 97, 109, 112, 59])
theorem hs46 : bp_S[46]? = some sr46 := rfl
theorem st46 : sT sr46 = [38, 97, 109, 112, 59] := by decide +kernel
def sr47 : String × Nat × String × List Int32 := ("BracedPages$TaggedWriter", 54, "</c>", [60, 47, 99, 62])
theorem hs47 : bp_S[47]? = some sr47 := rfl
theorem st47 : sT sr47 = [60, 47, 99, 62] := by decide +kernel
def sr48 : String × Nat × String × List Int32 := ("BracedPages$TaggedWriter", 56, "</s>", [60, 47, 115, 62])
theorem hs48 : bp_S[48]? = some sr48 := rfl
theorem st48 : sT sr48 = [60, 47, 115, 62] := by decide +kernel
def sr49 : String × Nat × String × List Int32 := ("BracedPages$TaggedWriter", 58, "</u>", [60, 47, 117, 62])
theorem hs49 : bp_S[49]? = some sr49 := rfl
theorem st49 : sT sr49 = [60, 47, 117, 62] := by decide +kernel
def sr50 : String × Nat × String × List Int32 := ("BracedPages$TaggedWriter", 60, "</i>", [60, 47, 105, 62])
theorem hs50 : bp_S[50]? = some sr50 := rfl
theorem st50 : sT sr50 = [60, 47, 105, 62] := by decide +kernel
def sr51 : String × Nat × String × List Int32 := ("BracedPages$TaggedWriter", 62, "</b>", [60, 47, 98, 62])
theorem hs51 : bp_S[51]? = some sr51 := rfl
theorem st51 : sT sr51 = [60, 47, 98, 62] := by decide +kernel
def sr52 : String × Nat × String × List Int32 := ("BracedPages$BracedWriter", 101, "\\par", [92, 112, 97, 114])
theorem hs52 : bp_S[52]? = some sr52 := rfl
theorem st52 : sT sr52 = [92, 112, 97, 114] := by decide +kernel
def sr53 : String × Nat × String × List Int32 := ("BracedPages$TaggedWriter", 73, "</p>", [60, 47, 112, 62])
theorem hs53 : bp_S[53]? = some sr53 := rfl
theorem st53 : sT sr53 = [60, 47, 112, 62] := by decide +kernel
def sr54 : String × Nat × String × List Int32 := ("BracedPages", 75, "not a character of IN", [110, 111, 116, 32, 97, 32, 99, 104, 97, 114, 97, 99, 116, 101, 114, 32, 111, 102, 32, 73, 78])
theorem hs54 : bp_S[54]? = some sr54 := rfl
theorem st54 : sT sr54 = [110, 111, 116, 32, 97, 32, 99, 104, 97, 114, 97, 99, 116, 101, 114, 32, 111, 102, 32, 73, 78] := by decide +kernel
def sr55 : String × Nat × String × List Int32 := ("BracedPages", 86, "IN would be too long", [73, 78, 32, 119, 111, 117, 108, 100, 32, 98, 101, 32, 116, 111, 111, 32, 108, 111, 110, 103])
theorem hs55 : bp_S[55]? = some sr55 := rfl
theorem st55 : sT sr55 = [73, 78, 32, 119, 111, 117, 108, 100, 32, 98, 101, 32, 116, 111, 111, 32, 108, 111, 110, 103] := by decide +kernel
def sr56 : String × Nat × String × List Int32 := ("BracedPages", 95, "OUT is too long for IN", [79, 85, 84, 32, 105, 115, 32, 116, 111, 111, 32, 108, 111, 110, 103, 32, 102, 111, 114, 32, 73, 78])
theorem hs56 : bp_S[56]? = some sr56 := rfl
theorem st56 : sT sr56 = [79, 85, 84, 32, 105, 115, 32, 116, 111, 111, 32, 108, 111, 110, 103, 32, 102, 111, 114, 32, 73, 78] := by decide +kernel
def sr57 : String × Nat × String × List Int32 := ("BracedPages", 123, "no such alignment or indent", [110, 111, 32, 115, 117, 99, 104, 32, 97, 108, 105, 103, 110, 109, 101, 110, 116, 32, 111, 114, 32, 105, 110, 100, 101, 110, 116])
theorem hs57 : bp_S[57]? = some sr57 := rfl
theorem st57 : sT sr57 = [110, 111, 32, 115, 117, 99, 104, 32, 97, 108, 105, 103, 110, 109, 101, 110, 116, 32, 111, 114, 32, 105, 110, 100, 101, 110, 116] := by decide +kernel
def sr58 : String × Nat × String × List Int32 := ("BracedPages", 129, "the page has all its paragraphs", [116, 104, 101, 32, 112, 97, 103, 101, 32, 104, 97, 115, 32, 97, 108, 108, 32, 105, 116, 115, 32, 112, 97, 114, 97, 103, 114, 97, 112, 104, 115])
theorem hs58 : bp_S[58]? = some sr58 := rfl
theorem st58 : sT sr58 = [116, 104, 101, 32, 112, 97, 103, 101, 32, 104, 97, 115, 32, 97, 108, 108, 32, 105, 116, 115, 32, 112, 97, 114, 97, 103, 114, 97, 112, 104, 115] := by decide +kernel
def sr59 : String × Nat × String × List Int32 := ("BracedPages", 138, "there is no paragraph", [116, 104, 101, 114, 101, 32, 105, 115, 32, 110, 111, 32, 112, 97, 114, 97, 103, 114, 97, 112, 104])
theorem hs59 : bp_S[59]? = some sr59 := rfl
theorem st59 : sT sr59 = [116, 104, 101, 114, 101, 32, 105, 115, 32, 110, 111, 32, 112, 97, 114, 97, 103, 114, 97, 112, 104] := by decide +kernel
def sr60 : String × Nat × String × List Int32 := ("BracedPages", 144, "no such letter or look", [110, 111, 32, 115, 117, 99, 104, 32, 108, 101, 116, 116, 101, 114, 32, 111, 114, 32, 108, 111, 111, 107])
theorem hs60 : bp_S[60]? = some sr60 := rfl
theorem st60 : sT sr60 = [110, 111, 32, 115, 117, 99, 104, 32, 108, 101, 116, 116, 101, 114, 32, 111, 114, 32, 108, 111, 111, 107] := by decide +kernel
def sr61 : String × Nat × String × List Int32 := ("BracedPages", 149, "the page has all its letters", [116, 104, 101, 32, 112, 97, 103, 101, 32, 104, 97, 115, 32, 97, 108, 108, 32, 105, 116, 115, 32, 108, 101, 116, 116, 101, 114, 115])
theorem hs61 : bp_S[61]? = some sr61 := rfl
theorem st61 : sT sr61 = [116, 104, 101, 32, 112, 97, 103, 101, 32, 104, 97, 115, 32, 97, 108, 108, 32, 105, 116, 115, 32, 108, 101, 116, 116, 101, 114, 115] := by decide +kernel
def sr62 : String × Nat × String × List Int32 := ("BracedPages", 167, "no such paragraph", [110, 111, 32, 115, 117, 99, 104, 32, 112, 97, 114, 97, 103, 114, 97, 112, 104])
theorem hs62 : bp_S[62]? = some sr62 := rfl
theorem st62 : sT sr62 = [110, 111, 32, 115, 117, 99, 104, 32, 112, 97, 114, 97, 103, 114, 97, 112, 104] := by decide +kernel
def sr63 : String × Nat × String × List Int32 := ("BracedPages", 182, "a paragraph has no such number", [97, 32, 112, 97, 114, 97, 103, 114, 97, 112, 104, 32, 104, 97, 115, 32, 110, 111, 32, 115, 117, 99, 104, 32, 110, 117, 109, 98, 101, 114])
theorem hs63 : bp_S[63]? = some sr63 := rfl
theorem st63 : sT sr63 = [97, 32, 112, 97, 114, 97, 103, 114, 97, 112, 104, 32, 104, 97, 115, 32, 110, 111, 32, 115, 117, 99, 104, 32, 110, 117, 109, 98, 101, 114] := by decide +kernel
def sr64 : String × Nat × String × List Int32 := ("BracedPages", 188, "no such run", [110, 111, 32, 115, 117, 99, 104, 32, 114, 117, 110])
theorem hs64 : bp_S[64]? = some sr64 := rfl
theorem st64 : sT sr64 = [110, 111, 32, 115, 117, 99, 104, 32, 114, 117, 110] := by decide +kernel
def sr65 : String × Nat × String × List Int32 := ("BracedPages", 205, "a run has no such number", [97, 32, 114, 117, 110, 32, 104, 97, 115, 32, 110, 111, 32, 115, 117, 99, 104, 32, 110, 117, 109, 98, 101, 114])
theorem hs65 : bp_S[65]? = some sr65 := rfl
theorem st65 : sT sr65 = [97, 32, 114, 117, 110, 32, 104, 97, 115, 32, 110, 111, 32, 115, 117, 99, 104, 32, 110, 117, 109, 98, 101, 114] := by decide +kernel
def sr66 : String × Nat × String × List Int32 := ("BracedPages", 207, "no such letter", [110, 111, 32, 115, 117, 99, 104, 32, 108, 101, 116, 116, 101, 114])
theorem hs66 : bp_S[66]? = some sr66 := rfl
theorem st66 : sT sr66 = [110, 111, 32, 115, 117, 99, 104, 32, 108, 101, 116, 116, 101, 114] := by decide +kernel
/-! the tagged writer: its object tw, its row r -/
def Tw (mx c0 s0 : Nat) (h : bp_H) (tw r a : Nat) (xs : List Nat) (c s : Nat) : Prop := bp_K h tw = 14 ∧ bp_R h tw 1 = some r ∧ RG mx c0 s0 h r a xs c s
theorem Tw.step {mx c0 s0 : Nat} {h h' : bp_H} {tw r a a' : Nat} {xs xs' : List Nat} {c s c' s' : Nat} (hT : Tw mx c0 s0 h tw r a xs c s) (hG : RG mx c0 s0 h' r a' xs' c' s') (hF : gF r a h h' a') : Tw mx c0 s0 h' tw r a' xs' c' s' := by
  obtain ⟨e1, e2, e3, -⟩ := hT
  obtain ⟨g1, g2, g3, g4, g5⟩ := hF.1 tw (by rw [e1]; decide) (fun z => z.elim (fun y => by have := e3.1; rw [← y, e1] at this; exact absurd this (by decide)) (fun y => by have := e3.2.2.2.1; rw [← y, e1] at this; exact absurd this (by decide)))
  exact ⟨g1.trans e1, (g5 1).trans e2, hG⟩
def sb (m b : Nat) : Bool := decide (m / b % 2 = 1)
theorem sb_and : ∀ m, m < 8 → ∀ b, b < 5 → (b = 1 ∨ b = 2 ∨ b = 4) → ((nI m &&& nI b = 0) ↔ sb m b = false) := by decide +kernel
section TW
variable {l : Launch} {G : bp_G} {H0 : Heap} {h : bp_H} {c s tw r a mx c0 s0 : Nat} {xs : List Nat} {Q : Option Value → bp_H → Nat → Nat → Prop}
set_option maxRecDepth 100000 in
set_option maxHeartbeats 4000000 in
theorem s_TW_style {i k b : Nat} {t : String × Nat × String × List Int32} (hT0 : Tw mx c0 s0 h tw r a xs c s) (hS : bp_S[i]? = some t) (htl : (sT t).length ≤ 20) (hk : k < 6400) (hb : b = 1 ∨ b = 2 ∨ b = 4) (hm : xs.length + 60 ≤ mx) (hmx : mx < 100000) (hQ : ∀ h' a' c' s', Tw mx c0 s0 h' tw r a' (xs ++ (if sb (k % 8) b then sT t else [])) c' s' → gF r a h h' a' → Q none h' c' s') : bp_AM l G H0 (5, 107, false, false) M_TW_writeStyleTag h c s [.ref tw, .ref (G.2.2.2.1 i), .int (nI k), .int (nI b)] Q := by
  refine bp_of (ls := [some (.ref tw), some (.ref (G.2.2.2.1 i)), some (.int (nI k)), some (.int (nI b))]) (by decide) dt_TW_writeStyleTag (Nat.le_of_ble_eq_true rfl) (fun q hq => hq) false ?_
  refine bp_iload_n (q := 1) 0 rfl rfl rfl rfl ?_
  refine bp_callS (q := 4) 1 rfl rfl cw_X_styleOf lk_TW_64 wd981 rfl rfl (Nat.le_of_ble_eq_true rfl) ⟨Nat.le_of_ble_eq_true rfl, Nat.le_of_ble_eq_true rfl⟩ (s_X_styleOf (ro := false) hk ?_)
  refine bp_iload_n (q := 5) 2 rfl rfl rfl rfl ?_
  refine bp_iand (q := 6) 3 rfl rfl ?_
  refine bp_if_eq (q := 9) (tgt := 17) 4 rfl rfl (by decide) (fun z6 => ?_) (fun z6 => ?_)
  · refine bp_vret 9 rfl rfl  ⟨_, rfl, ?_⟩
    have e := (sb_and (k % 8) (by omega) b (by rcases hb with e | e | e <;> omega) hb).mp z6
    exact hQ _ _ _ _ (by rw [e, if_neg (by decide), List.append_nil]; exact hT0) gF.rf
  · refine bp_aload_n (q := 10) 5 rfl rfl rfl rfl ?_
    refine bp_getR (x := r) (q := 13) (ci := 8) (j := 1) 6 rfl rfl fl_TW_9_8 hT0.1 rfl hT0.2.1 ?_
    refine bp_aload_n (q := 14) 7 rfl rfl rfl rfl ?_
    refine bp_callV (q := 17) (ci := 1) 8 rfl rfl cw_Row_putText lk_TW_17 rfl hT0.2.2.1.1 wd916 wd917 rfl rfl (Nat.le_of_ble_eq_true rfl) ⟨Nat.le_of_ble_eq_true rfl, Nat.le_of_ble_eq_true rfl⟩ (s_Row_putText hS hT0.2.2 (by (try simp only [List.length_append, List.length_cons, List.length_nil]); omega) hmx (fun h1 a1 c1 s1 hA1 hF1 => ?_))
    have hT1 := hT0.step hA1 hF1
    refine bp_vret 9 rfl rfl  ⟨_, rfl, ?_⟩
    have e : sb (k % 8) b = true := by cases hh : sb (k % 8) b with | true => rfl | false => exact absurd ((sb_and (k % 8) (by omega) b (by rcases hb with e | e | e <;> omega) hb).mpr hh) z6
    exact hQ _ _ _ _ (by rw [e, if_pos rfl]; exact hT1) hF1
theorem nd_len3 (n : Nat) : (nd n).length ≤ 3 := nd_len n
set_option maxRecDepth 100000 in
set_option maxHeartbeats 4000000 in
theorem s_TW_number {i n u : Nat} {t : String × Nat × String × List Int32} (hT0 : Tw mx c0 s0 h tw r a xs c s) (hS : bp_S[i]? = some t) (htl : (sT t).length ≤ 20) (hn : n < 1000) (hu : u < 1000) (hm : xs.length + 60 ≤ mx) (hmx : mx < 100000) (hQ : ∀ h' a' c' s', Tw mx c0 s0 h' tw r a' (xs ++ (if n = u then [] else sT t ++ (nd n ++ [62]))) c' s' → gF r a h h' a' → Q none h' c' s') : bp_AM l G H0 (5, 107, false, false) M_TW_writeNumberTag h c s [.ref tw, .ref (G.2.2.2.1 i), .int (nI n), .int (nI u)] Q := by
  refine bp_of (ls := [some (.ref tw), some (.ref (G.2.2.2.1 i)), some (.int (nI n)), some (.int (nI u))]) (by decide) dt_TW_writeNumberTag (Nat.le_of_ble_eq_true rfl) (fun q hq => hq) false ?_
  have hnd := nd_len n
  refine bp_iload_n (q := 1) 0 rfl rfl rfl rfl ?_
  refine bp_iload_n (q := 2) 1 rfl rfl rfl rfl ?_
  refine bp_icmp_eq (q := 5) (tgt := 30) 2 rfl rfl (by decide) (fun z2 => ?_) (fun z2 => ?_)
  · exact bp_vret 15 rfl rfl  ⟨_, rfl, hQ _ _ _ _ (by rw [if_pos ((nI_eq_iff (by omega) (by omega)).mp z2), List.append_nil]; exact hT0) gF.rf⟩
  · refine bp_aload_n (q := 6) 3 rfl rfl rfl rfl ?_
    refine bp_getR (x := r) (q := 9) (ci := 8) (j := 1) 4 rfl rfl fl_TW_9_8 hT0.1 rfl hT0.2.1 ?_
    refine bp_aload_n (q := 10) 5 rfl rfl rfl rfl ?_
    refine bp_callV (q := 13) (ci := 1) 6 rfl rfl cw_Row_putText lk_TW_17 rfl hT0.2.2.1.1 wd916 wd917 rfl rfl (Nat.le_of_ble_eq_true rfl) ⟨Nat.le_of_ble_eq_true rfl, Nat.le_of_ble_eq_true rfl⟩ (s_Row_putText hS hT0.2.2 (by (try simp only [List.length_append, List.length_cons, List.length_nil]); omega) hmx (fun h1 a1 c1 s1 hA1 hF1 => ?_))
    have hT1 := hT0.step hA1 hF1
    refine bp_aload_n (q := 14) 7 rfl rfl rfl rfl ?_
    refine bp_getR (x := r) (q := 17) (ci := 8) (j := 1) 8 rfl rfl fl_TW_9_8 hT1.1 rfl hT1.2.1 ?_
    refine bp_iload_n (q := 18) 9 rfl rfl rfl rfl ?_
    refine bp_callV (q := 21) (ci := 1) 10 rfl rfl cw_Row_putNumber lk_TW_27 rfl hT1.2.2.1.1 wd951 wd952 rfl rfl (Nat.le_of_ble_eq_true rfl) ⟨Nat.le_of_ble_eq_true rfl, Nat.le_of_ble_eq_true rfl⟩ (s_Row_putNumber (n := n) (by omega) hT1.2.2 (by (try simp only [List.length_append, List.length_cons, List.length_nil]); omega) hmx (fun h2 a2 c2 s2 hA2 hF2 => ?_))
    have hT2 := hT1.step hA2 hF2
    refine bp_aload_n (q := 22) 11 rfl rfl rfl rfl ?_
    refine bp_getR (x := r) (q := 25) (ci := 8) (j := 1) 12 rfl rfl fl_TW_9_8 hT2.1 rfl hT2.2.1 ?_
    refine bp_bipush (v := 62) (q := 27) 13 rfl rfl (by decide) ?_
    refine bp_callV (q := 30) (ci := 1) 14 rfl rfl cw_Row_put lk_TW_23 rfl hT2.2.2.1.1 wd485 wd486 rfl rfl (Nat.le_of_ble_eq_true rfl) ⟨Nat.le_of_ble_eq_true rfl, Nat.le_of_ble_eq_true rfl⟩ (s_Row_putg (v := 62) rfl hT2.2.2 (by (try simp only [List.length_append, List.length_cons, List.length_nil]); omega) hmx (fun h3 a3 c3 s3 hA3 hF3 => ?_))
    have hT3 := hT2.step hA3 hF3
    exact bp_vret 15 rfl rfl  ⟨_, rfl, hQ _ _ _ _ (by rw [if_neg (fun e => z2 (by rw [e]))]; simpa only [List.append_assoc] using hT3) ((hF1.tr hF2).tr hF3)⟩
def twS (k : Nat) : List Nat := (if sb (k % 8) 1 then [60, 98, 62] else []) ++ ((if sb (k % 8) 2 then [60, 105, 62] else []) ++ ((if sb (k % 8) 4 then [60, 117, 62] else []) ++ ((if k / 64 = 12 then [] else [60, 115, 32] ++ (nd (k / 64) ++ [62])) ++ (if k / 8 % 8 = 0 then [] else [60, 99, 32] ++ (nd (k / 8 % 8) ++ [62])))))
def twE (k : Nat) : List Nat := (if k / 8 % 8 = 0 then [] else [60, 47, 99, 62]) ++ ((if k / 64 = 12 then [] else [60, 47, 115, 62]) ++ ((if sb (k % 8) 4 then [60, 47, 117, 62] else []) ++ ((if sb (k % 8) 2 then [60, 47, 105, 62] else []) ++ (if sb (k % 8) 1 then [60, 47, 98, 62] else []))))
def twP (al ind : Nat) : List Nat := [60, 112] ++ ((if al = 0 ∧ ind = 0 then [] else [32]) ++ ((if al = 0 then [] else if al = 1 then [67] else [82]) ++ ((if ind = 0 then [] else nd ind) ++ [62])))
def twL (k : Nat) : List Nat := if 127 ≤ k then [38] ++ (nd k ++ [59]) else if k = 60 then [38, 108, 116, 59] else if k = 62 then [38, 103, 116, 59] else if k = 38 then [38, 97, 109, 112, 59] else [k]
set_option maxRecDepth 100000 in
set_option maxHeartbeats 4000000 in
theorem s_TW_startRun {k : Nat} (hT0 : Tw mx c0 s0 h tw r a xs c s) (hk : k < 6400) (hm : xs.length + 100 ≤ mx) (hmx : mx < 100000) (hQ : ∀ h' a' c' s', Tw mx c0 s0 h' tw r a' (xs ++ twS k) c' s' → gF r a h h' a' → Q none h' c' s') : bp_AM l G H0 (6, 130, false, false) M_TW_startRun h c s [.ref tw, .int (nI k)] Q := by
  refine bp_of (ls := [some (.ref tw), some (.int (nI k))]) (by decide) dt_TW_startRun (Nat.le_of_ble_eq_true rfl) (fun q hq => hq) false ?_
  have hnd1 := nd_len (k / 64)
  have hnd2 := nd_len (k / 8 % 8)
  refine bp_aload_n (q := 1) 0 rfl rfl rfl rfl ?_
  refine bp_ldcs hs38 (q := 3) 1 rfl rfl rfl rfl ?_
  refine bp_iload_n (q := 4) 2 rfl rfl rfl rfl ?_
  refine bp_iconst (v := 1) (q := 5) 3 rfl rfl (by decide) ?_
  refine bp_callV (q := 8) (ci := 8) 4 rfl rfl cw_TW_writeStyleTag lk_TW_32 rfl hT0.1 wd996 wd39 rfl rfl (Nat.le_of_ble_eq_true rfl) ⟨Nat.le_of_ble_eq_true rfl, Nat.le_of_ble_eq_true rfl⟩ (s_TW_style (b := 1) hT0 hs38 (by rw [st38]; decide) hk (by decide) (by (try simp only [List.length_append, List.length_cons, List.length_nil, apply_ite List.length]); (repeat' split) <;> omega) hmx (fun h1 a1 c1 s1 hT1 hF1 => ?_))
  rw [st38] at hT1
  refine bp_aload_n (q := 9) 5 rfl rfl rfl rfl ?_
  refine bp_ldcs hs39 (q := 11) 6 rfl rfl rfl rfl ?_
  refine bp_iload_n (q := 12) 7 rfl rfl rfl rfl ?_
  refine bp_iconst (v := 2) (q := 13) 8 rfl rfl (by decide) ?_
  refine bp_callV (q := 16) (ci := 8) 9 rfl rfl cw_TW_writeStyleTag lk_TW_32 rfl hT1.1 wd996 wd39 rfl rfl (Nat.le_of_ble_eq_true rfl) ⟨Nat.le_of_ble_eq_true rfl, Nat.le_of_ble_eq_true rfl⟩ (s_TW_style (b := 2) hT1 hs39 (by rw [st39]; decide) hk (by decide) (by (try simp only [List.length_append, List.length_cons, List.length_nil, apply_ite List.length]); (repeat' split) <;> omega) hmx (fun h2 a2 c2 s2 hT2 hF2 => ?_))
  rw [st39] at hT2
  refine bp_aload_n (q := 17) 10 rfl rfl rfl rfl ?_
  refine bp_ldcs hs40 (q := 19) 11 rfl rfl rfl rfl ?_
  refine bp_iload_n (q := 20) 12 rfl rfl rfl rfl ?_
  refine bp_iconst (v := 4) (q := 21) 13 rfl rfl (by decide) ?_
  refine bp_callV (q := 24) (ci := 8) 14 rfl rfl cw_TW_writeStyleTag lk_TW_32 rfl hT2.1 wd996 wd39 rfl rfl (Nat.le_of_ble_eq_true rfl) ⟨Nat.le_of_ble_eq_true rfl, Nat.le_of_ble_eq_true rfl⟩ (s_TW_style (b := 4) hT2 hs40 (by rw [st40]; decide) hk (by decide) (by (try simp only [List.length_append, List.length_cons, List.length_nil, apply_ite List.length]); (repeat' split) <;> omega) hmx (fun h3 a3 c3 s3 hT3 hF3 => ?_))
  rw [st40] at hT3
  refine bp_aload_n (q := 25) 15 rfl rfl rfl rfl ?_
  refine bp_ldcs hs41 (q := 27) 16 rfl rfl rfl rfl ?_
  refine bp_iload_n (q := 28) 17 rfl rfl rfl rfl ?_
  refine bp_callS (q := 31) 18 rfl rfl cw_X_sizeOf lk_TW_42 wd987 rfl rfl (Nat.le_of_ble_eq_true rfl) ⟨Nat.le_of_ble_eq_true rfl, Nat.le_of_ble_eq_true rfl⟩ (s_X_sizeOf (ro := false) hk ?_)
  refine bp_bipush (v := 12) (q := 33) 19 rfl rfl (by decide) ?_
  refine bp_callV (q := 36) (ci := 8) 20 rfl rfl cw_TW_writeNumberTag lk_TW_46 rfl hT3.1 wd1005 wd40 rfl rfl (Nat.le_of_ble_eq_true rfl) ⟨Nat.le_of_ble_eq_true rfl, Nat.le_of_ble_eq_true rfl⟩ (s_TW_number (n := k / 64) (u := 12) hT3 hs41 (by rw [st41]; decide) (by omega) (by omega) (by (try simp only [List.length_append, List.length_cons, List.length_nil, apply_ite List.length]); (repeat' split) <;> omega) hmx (fun h4 a4 c4 s4 hT4 hF4 => ?_))
  rw [st41] at hT4
  refine bp_aload_n (q := 37) 21 rfl rfl rfl rfl ?_
  refine bp_ldcs hs42 (q := 39) 22 rfl rfl rfl rfl ?_
  refine bp_iload_n (q := 40) 23 rfl rfl rfl rfl ?_
  refine bp_callS (q := 43) 24 rfl rfl cw_X_colourOf lk_TW_51 wd908 rfl rfl (Nat.le_of_ble_eq_true rfl) ⟨Nat.le_of_ble_eq_true rfl, Nat.le_of_ble_eq_true rfl⟩ (s_X_colourOf (ro := false) hk ?_)
  refine bp_iconst (v := 0) (q := 44) 25 rfl rfl (by decide) ?_
  refine bp_callV (q := 47) (ci := 8) 26 rfl rfl cw_TW_writeNumberTag lk_TW_46 rfl hT4.1 wd1005 wd40 rfl rfl (Nat.le_of_ble_eq_true rfl) ⟨Nat.le_of_ble_eq_true rfl, Nat.le_of_ble_eq_true rfl⟩ (s_TW_number (n := k / 8 % 8) (u := 0) hT4 hs42 (by rw [st42]; decide) (by omega) (by omega) (by (try simp only [List.length_append, List.length_cons, List.length_nil, apply_ite List.length]); (repeat' split) <;> omega) hmx (fun h5 a5 c5 s5 hT5 hF5 => ?_))
  rw [st42] at hT5
  exact bp_vret 27 rfl rfl  ⟨_, rfl, hQ _ _ _ _ (by simpa only [twS, List.append_assoc] using hT5) ((((hF1.tr hF2).tr hF3).tr hF4).tr hF5)⟩
set_option maxRecDepth 100000 in
set_option maxHeartbeats 4000000 in
theorem s_TW_endRun {k : Nat} (hT0 : Tw mx c0 s0 h tw r a xs c s) (hk : k < 6400) (hm : xs.length + 100 ≤ mx) (hmx : mx < 100000) (hQ : ∀ h' a' c' s', Tw mx c0 s0 h' tw r a' (xs ++ twE k) c' s' → gF r a h h' a' → Q none h' c' s') : bp_AM l G H0 (6, 130, false, false) M_TW_endRun h c s [.ref tw, .int (nI k)] Q := by
  refine bp_of (ls := [some (.ref tw), some (.int (nI k))]) (by decide) dt_TW_endRun (Nat.le_of_ble_eq_true rfl) (fun q hq => hq) false ?_
  refine bp_iload_n (q := 1) 0 rfl rfl rfl rfl ?_
  refine bp_callS (q := 4) 1 rfl rfl cw_X_colourOf lk_TW_51 wd908 rfl rfl (Nat.le_of_ble_eq_true rfl) ⟨Nat.le_of_ble_eq_true rfl, Nat.le_of_ble_eq_true rfl⟩ (s_X_colourOf (ro := false) hk ?_)
  refine bp_if_eq (q := 7) (tgt := 16) 2 rfl rfl (by decide) (fun z4 => ?_) (fun z4 => ?_)
  · refine bp_iload_n (q := 17) 7 rfl rfl rfl rfl ?_
    refine bp_callS (q := 20) 8 rfl rfl cw_X_sizeOf lk_TW_42 wd987 rfl rfl (Nat.le_of_ble_eq_true rfl) ⟨Nat.le_of_ble_eq_true rfl, Nat.le_of_ble_eq_true rfl⟩ (s_X_sizeOf (ro := false) hk ?_)
    refine bp_bipush (v := 12) (q := 22) 9 rfl rfl (by decide) ?_
    refine bp_icmp_eq (q := 25) (tgt := 34) 10 rfl rfl (by decide) (fun z22 => ?_) (fun z22 => ?_)
    · refine bp_aload_n (q := 35) 15 rfl rfl rfl rfl ?_
      refine bp_ldcs hs49 (q := 37) 16 rfl rfl rfl rfl ?_
      refine bp_iload_n (q := 38) 17 rfl rfl rfl rfl ?_
      refine bp_iconst (v := 4) (q := 39) 18 rfl rfl (by decide) ?_
      refine bp_callV (q := 42) (ci := 8) 19 rfl rfl cw_TW_writeStyleTag lk_TW_32 rfl hT0.1 wd996 wd39 rfl rfl (Nat.le_of_ble_eq_true rfl) ⟨Nat.le_of_ble_eq_true rfl, Nat.le_of_ble_eq_true rfl⟩ (s_TW_style (b := 4) hT0 hs49 (by rw [st49]; decide) hk (by decide) (by (try simp only [List.length_append, List.length_cons, List.length_nil, apply_ite List.length]); (repeat' split) <;> omega) hmx (fun h1 a1 c1 s1 hT1 hF1 => ?_))
      rw [st49] at hT1
      refine bp_aload_n (q := 43) 20 rfl rfl rfl rfl ?_
      refine bp_ldcs hs50 (q := 45) 21 rfl rfl rfl rfl ?_
      refine bp_iload_n (q := 46) 22 rfl rfl rfl rfl ?_
      refine bp_iconst (v := 2) (q := 47) 23 rfl rfl (by decide) ?_
      refine bp_callV (q := 50) (ci := 8) 24 rfl rfl cw_TW_writeStyleTag lk_TW_32 rfl hT1.1 wd996 wd39 rfl rfl (Nat.le_of_ble_eq_true rfl) ⟨Nat.le_of_ble_eq_true rfl, Nat.le_of_ble_eq_true rfl⟩ (s_TW_style (b := 2) hT1 hs50 (by rw [st50]; decide) hk (by decide) (by (try simp only [List.length_append, List.length_cons, List.length_nil, apply_ite List.length]); (repeat' split) <;> omega) hmx (fun h2 a2 c2 s2 hT2 hF2 => ?_))
      rw [st50] at hT2
      refine bp_aload_n (q := 51) 25 rfl rfl rfl rfl ?_
      refine bp_ldcs hs51 (q := 53) 26 rfl rfl rfl rfl ?_
      refine bp_iload_n (q := 54) 27 rfl rfl rfl rfl ?_
      refine bp_iconst (v := 1) (q := 55) 28 rfl rfl (by decide) ?_
      refine bp_callV (q := 58) (ci := 8) 29 rfl rfl cw_TW_writeStyleTag lk_TW_32 rfl hT2.1 wd996 wd39 rfl rfl (Nat.le_of_ble_eq_true rfl) ⟨Nat.le_of_ble_eq_true rfl, Nat.le_of_ble_eq_true rfl⟩ (s_TW_style (b := 1) hT2 hs51 (by rw [st51]; decide) hk (by decide) (by (try simp only [List.length_append, List.length_cons, List.length_nil, apply_ite List.length]); (repeat' split) <;> omega) hmx (fun h3 a3 c3 s3 hT3 hF3 => ?_))
      rw [st51] at hT3
      refine bp_vret 30 rfl rfl  ⟨_, rfl, ?_⟩
      have y4 : k / 8 % 8 = 0 := (nI_eq_iff (b := 0) (by omega) (by omega)).mp z4
      have y22 : k / 64 = 12 := (nI_eq_iff (b := 12) (by omega) (by omega)).mp z22
      refine hQ _ _ _ _ ?_ ((hF1.tr hF2).tr hF3)
      rw [twE, if_pos y4, if_pos y22]
      simpa only [List.append_assoc, List.nil_append] using hT3
    · refine bp_aload_n (q := 26) 11 rfl rfl rfl rfl ?_
      refine bp_getR (x := r) (q := 29) (ci := 8) (j := 1) 12 rfl rfl fl_TW_9_8 hT0.1 rfl hT0.2.1 ?_
      refine bp_ldcs hs48 (q := 31) 13 rfl rfl rfl rfl ?_
      refine bp_callV (q := 34) (ci := 1) 14 rfl rfl cw_Row_putText lk_TW_17 rfl hT0.2.2.1.1 wd916 wd917 rfl rfl (Nat.le_of_ble_eq_true rfl) ⟨Nat.le_of_ble_eq_true rfl, Nat.le_of_ble_eq_true rfl⟩ (s_Row_putText hs48 hT0.2.2 (by (try simp only [List.length_append, List.length_cons, List.length_nil, st48]); omega) hmx (fun h1 a1 c1 s1 hA1 hF1 => ?_))
      rw [st48] at hA1
      have hT1 := hT0.step hA1 hF1
      refine bp_aload_n (q := 35) 15 rfl rfl rfl rfl ?_
      refine bp_ldcs hs49 (q := 37) 16 rfl rfl rfl rfl ?_
      refine bp_iload_n (q := 38) 17 rfl rfl rfl rfl ?_
      refine bp_iconst (v := 4) (q := 39) 18 rfl rfl (by decide) ?_
      refine bp_callV (q := 42) (ci := 8) 19 rfl rfl cw_TW_writeStyleTag lk_TW_32 rfl hT1.1 wd996 wd39 rfl rfl (Nat.le_of_ble_eq_true rfl) ⟨Nat.le_of_ble_eq_true rfl, Nat.le_of_ble_eq_true rfl⟩ (s_TW_style (b := 4) hT1 hs49 (by rw [st49]; decide) hk (by decide) (by (try simp only [List.length_append, List.length_cons, List.length_nil, apply_ite List.length]); (repeat' split) <;> omega) hmx (fun h2 a2 c2 s2 hT2 hF2 => ?_))
      rw [st49] at hT2
      refine bp_aload_n (q := 43) 20 rfl rfl rfl rfl ?_
      refine bp_ldcs hs50 (q := 45) 21 rfl rfl rfl rfl ?_
      refine bp_iload_n (q := 46) 22 rfl rfl rfl rfl ?_
      refine bp_iconst (v := 2) (q := 47) 23 rfl rfl (by decide) ?_
      refine bp_callV (q := 50) (ci := 8) 24 rfl rfl cw_TW_writeStyleTag lk_TW_32 rfl hT2.1 wd996 wd39 rfl rfl (Nat.le_of_ble_eq_true rfl) ⟨Nat.le_of_ble_eq_true rfl, Nat.le_of_ble_eq_true rfl⟩ (s_TW_style (b := 2) hT2 hs50 (by rw [st50]; decide) hk (by decide) (by (try simp only [List.length_append, List.length_cons, List.length_nil, apply_ite List.length]); (repeat' split) <;> omega) hmx (fun h3 a3 c3 s3 hT3 hF3 => ?_))
      rw [st50] at hT3
      refine bp_aload_n (q := 51) 25 rfl rfl rfl rfl ?_
      refine bp_ldcs hs51 (q := 53) 26 rfl rfl rfl rfl ?_
      refine bp_iload_n (q := 54) 27 rfl rfl rfl rfl ?_
      refine bp_iconst (v := 1) (q := 55) 28 rfl rfl (by decide) ?_
      refine bp_callV (q := 58) (ci := 8) 29 rfl rfl cw_TW_writeStyleTag lk_TW_32 rfl hT3.1 wd996 wd39 rfl rfl (Nat.le_of_ble_eq_true rfl) ⟨Nat.le_of_ble_eq_true rfl, Nat.le_of_ble_eq_true rfl⟩ (s_TW_style (b := 1) hT3 hs51 (by rw [st51]; decide) hk (by decide) (by (try simp only [List.length_append, List.length_cons, List.length_nil, apply_ite List.length]); (repeat' split) <;> omega) hmx (fun h4 a4 c4 s4 hT4 hF4 => ?_))
      rw [st51] at hT4
      refine bp_vret 30 rfl rfl  ⟨_, rfl, ?_⟩
      have y4 : k / 8 % 8 = 0 := (nI_eq_iff (b := 0) (by omega) (by omega)).mp z4
      have y22 : ¬ (k / 64 = 12) := fun e => z22 (by rw [e]; rfl)
      refine hQ _ _ _ _ ?_ (((hF1.tr hF2).tr hF3).tr hF4)
      rw [twE, if_pos y4, if_neg y22]
      simpa only [List.append_assoc, List.nil_append] using hT4
  · refine bp_aload_n (q := 8) 3 rfl rfl rfl rfl ?_
    refine bp_getR (x := r) (q := 11) (ci := 8) (j := 1) 4 rfl rfl fl_TW_9_8 hT0.1 rfl hT0.2.1 ?_
    refine bp_ldcs hs47 (q := 13) 5 rfl rfl rfl rfl ?_
    refine bp_callV (q := 16) (ci := 1) 6 rfl rfl cw_Row_putText lk_TW_17 rfl hT0.2.2.1.1 wd916 wd917 rfl rfl (Nat.le_of_ble_eq_true rfl) ⟨Nat.le_of_ble_eq_true rfl, Nat.le_of_ble_eq_true rfl⟩ (s_Row_putText hs47 hT0.2.2 (by (try simp only [List.length_append, List.length_cons, List.length_nil, st47]); omega) hmx (fun h1 a1 c1 s1 hA1 hF1 => ?_))
    rw [st47] at hA1
    have hT1 := hT0.step hA1 hF1
    refine bp_iload_n (q := 17) 7 rfl rfl rfl rfl ?_
    refine bp_callS (q := 20) 8 rfl rfl cw_X_sizeOf lk_TW_42 wd987 rfl rfl (Nat.le_of_ble_eq_true rfl) ⟨Nat.le_of_ble_eq_true rfl, Nat.le_of_ble_eq_true rfl⟩ (s_X_sizeOf (ro := false) hk ?_)
    refine bp_bipush (v := 12) (q := 22) 9 rfl rfl (by decide) ?_
    refine bp_icmp_eq (q := 25) (tgt := 34) 10 rfl rfl (by decide) (fun z22 => ?_) (fun z22 => ?_)
    · refine bp_aload_n (q := 35) 15 rfl rfl rfl rfl ?_
      refine bp_ldcs hs49 (q := 37) 16 rfl rfl rfl rfl ?_
      refine bp_iload_n (q := 38) 17 rfl rfl rfl rfl ?_
      refine bp_iconst (v := 4) (q := 39) 18 rfl rfl (by decide) ?_
      refine bp_callV (q := 42) (ci := 8) 19 rfl rfl cw_TW_writeStyleTag lk_TW_32 rfl hT1.1 wd996 wd39 rfl rfl (Nat.le_of_ble_eq_true rfl) ⟨Nat.le_of_ble_eq_true rfl, Nat.le_of_ble_eq_true rfl⟩ (s_TW_style (b := 4) hT1 hs49 (by rw [st49]; decide) hk (by decide) (by (try simp only [List.length_append, List.length_cons, List.length_nil, apply_ite List.length]); (repeat' split) <;> omega) hmx (fun h2 a2 c2 s2 hT2 hF2 => ?_))
      rw [st49] at hT2
      refine bp_aload_n (q := 43) 20 rfl rfl rfl rfl ?_
      refine bp_ldcs hs50 (q := 45) 21 rfl rfl rfl rfl ?_
      refine bp_iload_n (q := 46) 22 rfl rfl rfl rfl ?_
      refine bp_iconst (v := 2) (q := 47) 23 rfl rfl (by decide) ?_
      refine bp_callV (q := 50) (ci := 8) 24 rfl rfl cw_TW_writeStyleTag lk_TW_32 rfl hT2.1 wd996 wd39 rfl rfl (Nat.le_of_ble_eq_true rfl) ⟨Nat.le_of_ble_eq_true rfl, Nat.le_of_ble_eq_true rfl⟩ (s_TW_style (b := 2) hT2 hs50 (by rw [st50]; decide) hk (by decide) (by (try simp only [List.length_append, List.length_cons, List.length_nil, apply_ite List.length]); (repeat' split) <;> omega) hmx (fun h3 a3 c3 s3 hT3 hF3 => ?_))
      rw [st50] at hT3
      refine bp_aload_n (q := 51) 25 rfl rfl rfl rfl ?_
      refine bp_ldcs hs51 (q := 53) 26 rfl rfl rfl rfl ?_
      refine bp_iload_n (q := 54) 27 rfl rfl rfl rfl ?_
      refine bp_iconst (v := 1) (q := 55) 28 rfl rfl (by decide) ?_
      refine bp_callV (q := 58) (ci := 8) 29 rfl rfl cw_TW_writeStyleTag lk_TW_32 rfl hT3.1 wd996 wd39 rfl rfl (Nat.le_of_ble_eq_true rfl) ⟨Nat.le_of_ble_eq_true rfl, Nat.le_of_ble_eq_true rfl⟩ (s_TW_style (b := 1) hT3 hs51 (by rw [st51]; decide) hk (by decide) (by (try simp only [List.length_append, List.length_cons, List.length_nil, apply_ite List.length]); (repeat' split) <;> omega) hmx (fun h4 a4 c4 s4 hT4 hF4 => ?_))
      rw [st51] at hT4
      refine bp_vret 30 rfl rfl  ⟨_, rfl, ?_⟩
      have y4 : ¬ (k / 8 % 8 = 0) := fun e => z4 (by rw [e]; rfl)
      have y22 : k / 64 = 12 := (nI_eq_iff (b := 12) (by omega) (by omega)).mp z22
      refine hQ _ _ _ _ ?_ (((hF1.tr hF2).tr hF3).tr hF4)
      rw [twE, if_neg y4, if_pos y22]
      simpa only [List.append_assoc, List.nil_append] using hT4
    · refine bp_aload_n (q := 26) 11 rfl rfl rfl rfl ?_
      refine bp_getR (x := r) (q := 29) (ci := 8) (j := 1) 12 rfl rfl fl_TW_9_8 hT1.1 rfl hT1.2.1 ?_
      refine bp_ldcs hs48 (q := 31) 13 rfl rfl rfl rfl ?_
      refine bp_callV (q := 34) (ci := 1) 14 rfl rfl cw_Row_putText lk_TW_17 rfl hT1.2.2.1.1 wd916 wd917 rfl rfl (Nat.le_of_ble_eq_true rfl) ⟨Nat.le_of_ble_eq_true rfl, Nat.le_of_ble_eq_true rfl⟩ (s_Row_putText hs48 hT1.2.2 (by (try simp only [List.length_append, List.length_cons, List.length_nil, st48]); omega) hmx (fun h2 a2 c2 s2 hA2 hF2 => ?_))
      rw [st48] at hA2
      have hT2 := hT1.step hA2 hF2
      refine bp_aload_n (q := 35) 15 rfl rfl rfl rfl ?_
      refine bp_ldcs hs49 (q := 37) 16 rfl rfl rfl rfl ?_
      refine bp_iload_n (q := 38) 17 rfl rfl rfl rfl ?_
      refine bp_iconst (v := 4) (q := 39) 18 rfl rfl (by decide) ?_
      refine bp_callV (q := 42) (ci := 8) 19 rfl rfl cw_TW_writeStyleTag lk_TW_32 rfl hT2.1 wd996 wd39 rfl rfl (Nat.le_of_ble_eq_true rfl) ⟨Nat.le_of_ble_eq_true rfl, Nat.le_of_ble_eq_true rfl⟩ (s_TW_style (b := 4) hT2 hs49 (by rw [st49]; decide) hk (by decide) (by (try simp only [List.length_append, List.length_cons, List.length_nil, apply_ite List.length]); (repeat' split) <;> omega) hmx (fun h3 a3 c3 s3 hT3 hF3 => ?_))
      rw [st49] at hT3
      refine bp_aload_n (q := 43) 20 rfl rfl rfl rfl ?_
      refine bp_ldcs hs50 (q := 45) 21 rfl rfl rfl rfl ?_
      refine bp_iload_n (q := 46) 22 rfl rfl rfl rfl ?_
      refine bp_iconst (v := 2) (q := 47) 23 rfl rfl (by decide) ?_
      refine bp_callV (q := 50) (ci := 8) 24 rfl rfl cw_TW_writeStyleTag lk_TW_32 rfl hT3.1 wd996 wd39 rfl rfl (Nat.le_of_ble_eq_true rfl) ⟨Nat.le_of_ble_eq_true rfl, Nat.le_of_ble_eq_true rfl⟩ (s_TW_style (b := 2) hT3 hs50 (by rw [st50]; decide) hk (by decide) (by (try simp only [List.length_append, List.length_cons, List.length_nil, apply_ite List.length]); (repeat' split) <;> omega) hmx (fun h4 a4 c4 s4 hT4 hF4 => ?_))
      rw [st50] at hT4
      refine bp_aload_n (q := 51) 25 rfl rfl rfl rfl ?_
      refine bp_ldcs hs51 (q := 53) 26 rfl rfl rfl rfl ?_
      refine bp_iload_n (q := 54) 27 rfl rfl rfl rfl ?_
      refine bp_iconst (v := 1) (q := 55) 28 rfl rfl (by decide) ?_
      refine bp_callV (q := 58) (ci := 8) 29 rfl rfl cw_TW_writeStyleTag lk_TW_32 rfl hT4.1 wd996 wd39 rfl rfl (Nat.le_of_ble_eq_true rfl) ⟨Nat.le_of_ble_eq_true rfl, Nat.le_of_ble_eq_true rfl⟩ (s_TW_style (b := 1) hT4 hs51 (by rw [st51]; decide) hk (by decide) (by (try simp only [List.length_append, List.length_cons, List.length_nil, apply_ite List.length]); (repeat' split) <;> omega) hmx (fun h5 a5 c5 s5 hT5 hF5 => ?_))
      rw [st51] at hT5
      refine bp_vret 30 rfl rfl  ⟨_, rfl, ?_⟩
      have y4 : ¬ (k / 8 % 8 = 0) := fun e => z4 (by rw [e]; rfl)
      have y22 : ¬ (k / 64 = 12) := fun e => z22 (by rw [e]; rfl)
      refine hQ _ _ _ _ ?_ ((((hF1.tr hF2).tr hF3).tr hF4).tr hF5)
      rw [twE, if_neg y4, if_neg y22]
      simpa only [List.append_assoc, List.nil_append] using hT5
set_option maxRecDepth 100000 in
set_option maxHeartbeats 4000000 in
theorem s_TW_endParagraph  (hT0 : Tw mx c0 s0 h tw r a xs c s)  (hm : xs.length + 60 ≤ mx) (hmx : mx < 100000) (hQ : ∀ h' a' c' s', Tw mx c0 s0 h' tw r a' (xs ++ [60, 47, 112, 62]) c' s' → gF r a h h' a' → Q none h' c' s') : bp_AM l G H0 (5, 107, false, false) M_TW_endParagraph h c s [.ref tw] Q := by
  refine bp_of (ls := [some (.ref tw)]) (by decide) dt_TW_endParagraph (Nat.le_of_ble_eq_true rfl) (fun q hq => hq) false ?_
  refine bp_aload_n (q := 1) 0 rfl rfl rfl rfl ?_
  refine bp_getR (x := r) (q := 4) (ci := 8) (j := 1) 1 rfl rfl fl_TW_9_8 hT0.1 rfl hT0.2.1 ?_
  refine bp_ldcs hs53 (q := 6) 2 rfl rfl rfl rfl ?_
  refine bp_callV (q := 9) (ci := 1) 3 rfl rfl cw_Row_putText lk_TW_17 rfl hT0.2.2.1.1 wd916 wd917 rfl rfl (Nat.le_of_ble_eq_true rfl) ⟨Nat.le_of_ble_eq_true rfl, Nat.le_of_ble_eq_true rfl⟩ (s_Row_putText hs53 hT0.2.2 (by (try simp only [List.length_append, List.length_cons, List.length_nil, st53]); omega) hmx (fun h1 a1 c1 s1 hA1 hF1 => ?_))
  rw [st53] at hA1
  have hT1 := hT0.step hA1 hF1
  exact bp_vret 4 rfl rfl  ⟨_, rfl, hQ _ _ _ _ hT1 hF1⟩
set_option maxRecDepth 100000 in
set_option maxHeartbeats 4000000 in
theorem s_TW_writeLetter {k : Nat} (hT0 : Tw mx c0 s0 h tw r a xs c s) (hk : k < 256) (hm : xs.length + 60 ≤ mx) (hmx : mx < 100000) (hQ : ∀ h' a' c' s', Tw mx c0 s0 h' tw r a' (xs ++ twL k) c' s' → gF r a h h' a' → Q none h' c' s') : bp_AM l G H0 (5, 107, false, false) M_TW_writeLetter h c s [.ref tw, .int (nI k)] Q := by
  refine bp_of (ls := [some (.ref tw), some (.int (nI k))]) (by decide) dt_TW_writeLetter (Nat.le_of_ble_eq_true rfl) (fun q hq => hq) false ?_
  have hnd := nd_len k
  refine bp_iload_n (q := 1) 0 rfl rfl rfl rfl ?_
  refine bp_bipush (v := 127) (q := 3) 1 rfl rfl (by decide) ?_
  refine bp_icmp_lt (q := 6) (tgt := 35) 2 rfl rfl (by decide) (fun z3 => ?_) (fun z3 => ?_)
  · refine bp_iload_n (q := 36) 16 rfl rfl rfl rfl ?_
    refine bp_bipush (v := 60) (q := 38) 17 rfl rfl (by decide) ?_
    refine bp_icmp_ne (q := 41) (tgt := 53) 18 rfl rfl (by decide) (fun z38 => ?_) (fun z38 => ?_)
    · refine bp_iload_n (q := 54) 24 rfl rfl rfl rfl ?_
      refine bp_bipush (v := 62) (q := 56) 25 rfl rfl (by decide) ?_
      refine bp_icmp_ne (q := 59) (tgt := 71) 26 rfl rfl (by decide) (fun z56 => ?_) (fun z56 => ?_)
      · refine bp_iload_n (q := 72) 32 rfl rfl rfl rfl ?_
        refine bp_bipush (v := 38) (q := 74) 33 rfl rfl (by decide) ?_
        refine bp_icmp_ne (q := 77) (tgt := 89) 34 rfl rfl (by decide) (fun z74 => ?_) (fun z74 => ?_)
        · refine bp_aload_n (q := 90) 40 rfl rfl rfl rfl ?_
          refine bp_getR (x := r) (q := 93) (ci := 8) (j := 1) 41 rfl rfl fl_TW_9_8 hT0.1 rfl hT0.2.1 ?_
          refine bp_iload_n (q := 94) 42 rfl rfl rfl rfl ?_
          refine bp_callV (q := 97) (ci := 1) 43 rfl rfl cw_Row_put lk_TW_23 rfl hT0.2.2.1.1 wd485 wd486 rfl rfl (Nat.le_of_ble_eq_true rfl) ⟨Nat.le_of_ble_eq_true rfl, Nat.le_of_ble_eq_true rfl⟩ (s_Row_putg (v := k) rfl hT0.2.2 (by (try simp only [List.length_append, List.length_cons, List.length_nil]); omega) hmx (fun h1 a1 c1 s1 hA1 hF1 => ?_))
          have hT1 := hT0.step hA1 hF1
          refine bp_vret 44 rfl rfl  ⟨_, rfl, ?_⟩
          have y3 : k < 127 := (nI_lt_iff (b := 127) (by omega) (by decide)).mp z3
          have y38 : ¬ (k = 60) := fun e => z38 (by rw [e]; rfl)
          have y56 : ¬ (k = 62) := fun e => z56 (by rw [e]; rfl)
          have y74 : ¬ (k = 38) := fun e => z74 (by rw [e]; rfl)
          refine hQ _ _ _ _ ?_ hF1
          rw [twL, if_neg (by omega), if_neg y38, if_neg y56, if_neg y74]
          simpa only [List.append_assoc] using hT1
        · refine bp_aload_n (q := 78) 35 rfl rfl rfl rfl ?_
          refine bp_getR (x := r) (q := 81) (ci := 8) (j := 1) 36 rfl rfl fl_TW_9_8 hT0.1 rfl hT0.2.1 ?_
          refine bp_ldcs hs46 (q := 83) 37 rfl rfl rfl rfl ?_
          refine bp_callV (q := 86) (ci := 1) 38 rfl rfl cw_Row_putText lk_TW_17 rfl hT0.2.2.1.1 wd916 wd917 rfl rfl (Nat.le_of_ble_eq_true rfl) ⟨Nat.le_of_ble_eq_true rfl, Nat.le_of_ble_eq_true rfl⟩ (s_Row_putText hs46 hT0.2.2 (by (try simp only [List.length_append, List.length_cons, List.length_nil, st46]); omega) hmx (fun h1 a1 c1 s1 hA1 hF1 => ?_))
          rw [st46] at hA1
          have hT1 := hT0.step hA1 hF1
          refine bp_goto (tgt := 97) 39 rfl (by decide) ?_
          refine bp_vret 44 rfl rfl  ⟨_, rfl, ?_⟩
          have y3 : k < 127 := (nI_lt_iff (b := 127) (by omega) (by decide)).mp z3
          have y38 : ¬ (k = 60) := fun e => z38 (by rw [e]; rfl)
          have y56 : ¬ (k = 62) := fun e => z56 (by rw [e]; rfl)
          have y74 : k = 38 := (nI_eq_iff (b := 38) (by omega) (by omega)).mp z74
          refine hQ _ _ _ _ ?_ hF1
          rw [twL, if_neg (by omega), if_neg y38, if_neg y56, if_pos y74]
          simpa only [List.append_assoc] using hT1
      · refine bp_aload_n (q := 60) 27 rfl rfl rfl rfl ?_
        refine bp_getR (x := r) (q := 63) (ci := 8) (j := 1) 28 rfl rfl fl_TW_9_8 hT0.1 rfl hT0.2.1 ?_
        refine bp_ldcs hs45 (q := 65) 29 rfl rfl rfl rfl ?_
        refine bp_callV (q := 68) (ci := 1) 30 rfl rfl cw_Row_putText lk_TW_17 rfl hT0.2.2.1.1 wd916 wd917 rfl rfl (Nat.le_of_ble_eq_true rfl) ⟨Nat.le_of_ble_eq_true rfl, Nat.le_of_ble_eq_true rfl⟩ (s_Row_putText hs45 hT0.2.2 (by (try simp only [List.length_append, List.length_cons, List.length_nil, st45]); omega) hmx (fun h1 a1 c1 s1 hA1 hF1 => ?_))
        rw [st45] at hA1
        have hT1 := hT0.step hA1 hF1
        refine bp_goto (tgt := 97) 31 rfl (by decide) ?_
        refine bp_vret 44 rfl rfl  ⟨_, rfl, ?_⟩
        have y3 : k < 127 := (nI_lt_iff (b := 127) (by omega) (by decide)).mp z3
        have y38 : ¬ (k = 60) := fun e => z38 (by rw [e]; rfl)
        have y56 : k = 62 := (nI_eq_iff (b := 62) (by omega) (by omega)).mp z56
        refine hQ _ _ _ _ ?_ hF1
        rw [twL, if_neg (by omega), if_neg y38, if_pos y56]
        simpa only [List.append_assoc] using hT1
    · refine bp_aload_n (q := 42) 19 rfl rfl rfl rfl ?_
      refine bp_getR (x := r) (q := 45) (ci := 8) (j := 1) 20 rfl rfl fl_TW_9_8 hT0.1 rfl hT0.2.1 ?_
      refine bp_ldcs hs44 (q := 47) 21 rfl rfl rfl rfl ?_
      refine bp_callV (q := 50) (ci := 1) 22 rfl rfl cw_Row_putText lk_TW_17 rfl hT0.2.2.1.1 wd916 wd917 rfl rfl (Nat.le_of_ble_eq_true rfl) ⟨Nat.le_of_ble_eq_true rfl, Nat.le_of_ble_eq_true rfl⟩ (s_Row_putText hs44 hT0.2.2 (by (try simp only [List.length_append, List.length_cons, List.length_nil, st44]); omega) hmx (fun h1 a1 c1 s1 hA1 hF1 => ?_))
      rw [st44] at hA1
      have hT1 := hT0.step hA1 hF1
      refine bp_goto (tgt := 97) 23 rfl (by decide) ?_
      refine bp_vret 44 rfl rfl  ⟨_, rfl, ?_⟩
      have y3 : k < 127 := (nI_lt_iff (b := 127) (by omega) (by decide)).mp z3
      have y38 : k = 60 := (nI_eq_iff (b := 60) (by omega) (by omega)).mp z38
      refine hQ _ _ _ _ ?_ hF1
      rw [twL, if_neg (by omega), if_pos y38]
      simpa only [List.append_assoc] using hT1
  · refine bp_aload_n (q := 7) 3 rfl rfl rfl rfl ?_
    refine bp_getR (x := r) (q := 10) (ci := 8) (j := 1) 4 rfl rfl fl_TW_9_8 hT0.1 rfl hT0.2.1 ?_
    refine bp_bipush (v := 38) (q := 12) 5 rfl rfl (by decide) ?_
    refine bp_callV (q := 15) (ci := 1) 6 rfl rfl cw_Row_put lk_TW_23 rfl hT0.2.2.1.1 wd485 wd486 rfl rfl (Nat.le_of_ble_eq_true rfl) ⟨Nat.le_of_ble_eq_true rfl, Nat.le_of_ble_eq_true rfl⟩ (s_Row_putg (v := 38) rfl hT0.2.2 (by (try simp only [List.length_append, List.length_cons, List.length_nil]); omega) hmx (fun h1 a1 c1 s1 hA1 hF1 => ?_))
    have hT1 := hT0.step hA1 hF1
    refine bp_aload_n (q := 16) 7 rfl rfl rfl rfl ?_
    refine bp_getR (x := r) (q := 19) (ci := 8) (j := 1) 8 rfl rfl fl_TW_9_8 hT1.1 rfl hT1.2.1 ?_
    refine bp_iload_n (q := 20) 9 rfl rfl rfl rfl ?_
    refine bp_callV (q := 23) (ci := 1) 10 rfl rfl cw_Row_putNumber lk_TW_27 rfl hT1.2.2.1.1 wd951 wd952 rfl rfl (Nat.le_of_ble_eq_true rfl) ⟨Nat.le_of_ble_eq_true rfl, Nat.le_of_ble_eq_true rfl⟩ (s_Row_putNumber (n := k) (by omega) hT1.2.2 (by (try simp only [List.length_append, List.length_cons, List.length_nil]); omega) hmx (fun h2 a2 c2 s2 hA2 hF2 => ?_))
    have hT2 := hT1.step hA2 hF2
    refine bp_aload_n (q := 24) 11 rfl rfl rfl rfl ?_
    refine bp_getR (x := r) (q := 27) (ci := 8) (j := 1) 12 rfl rfl fl_TW_9_8 hT2.1 rfl hT2.2.1 ?_
    refine bp_bipush (v := 59) (q := 29) 13 rfl rfl (by decide) ?_
    refine bp_callV (q := 32) (ci := 1) 14 rfl rfl cw_Row_put lk_TW_23 rfl hT2.2.2.1.1 wd485 wd486 rfl rfl (Nat.le_of_ble_eq_true rfl) ⟨Nat.le_of_ble_eq_true rfl, Nat.le_of_ble_eq_true rfl⟩ (s_Row_putg (v := 59) rfl hT2.2.2 (by (try simp only [List.length_append, List.length_cons, List.length_nil]); omega) hmx (fun h3 a3 c3 s3 hA3 hF3 => ?_))
    have hT3 := hT2.step hA3 hF3
    refine bp_goto (tgt := 97) 15 rfl (by decide) ?_
    refine bp_vret 44 rfl rfl  ⟨_, rfl, ?_⟩
    have y3 : ¬ (k < 127) := fun e => z3 ((nI_lt_iff (b := 127) (by omega) (by decide)).mpr e)
    refine hQ _ _ _ _ ?_ ((hF1.tr hF2).tr hF3)
    rw [twL, if_pos (by omega)]
    simpa only [List.append_assoc] using hT3
set_option maxRecDepth 100000 in
set_option maxHeartbeats 4000000 in
theorem s_TW_startParagraph {al ind : Nat} (hT0 : Tw mx c0 s0 h tw r a xs c s) (hal : al < 3) (hind : ind < 10) (hm : xs.length + 60 ≤ mx) (hmx : mx < 100000) (hQ : ∀ h' a' c' s', Tw mx c0 s0 h' tw r a' (xs ++ twP al ind) c' s' → gF r a h h' a' → Q none h' c' s') : bp_AM l G H0 (5, 107, false, false) M_TW_startParagraph h c s [.ref tw, .int (nI al), .int (nI ind)] Q := by
  refine bp_of (ls := [some (.ref tw), some (.int (nI al)), some (.int (nI ind))]) (by decide) dt_TW_startParagraph (Nat.le_of_ble_eq_true rfl) (fun q hq => hq) false ?_
  have hnd := nd_len ind
  refine bp_aload_n (q := 1) 0 rfl rfl rfl rfl ?_
  refine bp_getR (x := r) (q := 4) (ci := 8) (j := 1) 1 rfl rfl fl_TW_9_8 hT0.1 rfl hT0.2.1 ?_
  refine bp_ldcs hs32 (q := 6) 2 rfl rfl rfl rfl ?_
  refine bp_callV (q := 9) (ci := 1) 3 rfl rfl cw_Row_putText lk_TW_17 rfl hT0.2.2.1.1 wd916 wd917 rfl rfl (Nat.le_of_ble_eq_true rfl) ⟨Nat.le_of_ble_eq_true rfl, Nat.le_of_ble_eq_true rfl⟩ (s_Row_putText hs32 hT0.2.2 (by (try simp only [List.length_append, List.length_cons, List.length_nil, st32]); omega) hmx (fun h1 a1 c1 s1 hA1 hF1 => ?_))
  rw [st32] at hA1
  have hT1 := hT0.step hA1 hF1
  refine bp_iload_n (q := 10) 4 rfl rfl rfl rfl ?_
  refine bp_if_ne (q := 13) (tgt := 17) 5 rfl rfl (by decide) (fun z10 => ?_) (fun z10 => ?_)
  · refine bp_aload_n (q := 18) 8 rfl rfl rfl rfl ?_
    refine bp_getR (x := r) (q := 21) (ci := 8) (j := 1) 9 rfl rfl fl_TW_9_8 hT1.1 rfl hT1.2.1 ?_
    refine bp_bipush (v := 32) (q := 23) 10 rfl rfl (by decide) ?_
    refine bp_callV (q := 26) (ci := 1) 11 rfl rfl cw_Row_put lk_TW_23 rfl hT1.2.2.1.1 wd485 wd486 rfl rfl (Nat.le_of_ble_eq_true rfl) ⟨Nat.le_of_ble_eq_true rfl, Nat.le_of_ble_eq_true rfl⟩ (s_Row_putg (v := 32) rfl hT1.2.2 (by (try simp only [List.length_append, List.length_cons, List.length_nil]); omega) hmx (fun h2 a2 c2 s2 hA2 hF2 => ?_))
    have hT2 := hT1.step hA2 hF2
    refine bp_iload_n (q := 27) 12 rfl rfl rfl rfl ?_
    refine bp_if_eq (q := 30) (tgt := 49) 13 rfl rfl (by decide) (fun z27 => ?_) (fun z27 => ?_)
    · refine bp_iload_n (q := 50) 23 rfl rfl rfl rfl ?_
      refine bp_if_eq (q := 53) (tgt := 61) 24 rfl rfl (by decide) (fun z50 => ?_) (fun z50 => ?_)
      · refine bp_aload_n (q := 62) 29 rfl rfl rfl rfl ?_
        refine bp_getR (x := r) (q := 65) (ci := 8) (j := 1) 30 rfl rfl fl_TW_9_8 hT2.1 rfl hT2.2.1 ?_
        refine bp_bipush (v := 62) (q := 67) 31 rfl rfl (by decide) ?_
        refine bp_callV (q := 70) (ci := 1) 32 rfl rfl cw_Row_put lk_TW_23 rfl hT2.2.2.1.1 wd485 wd486 rfl rfl (Nat.le_of_ble_eq_true rfl) ⟨Nat.le_of_ble_eq_true rfl, Nat.le_of_ble_eq_true rfl⟩ (s_Row_putg (v := 62) rfl hT2.2.2 (by (try simp only [List.length_append, List.length_cons, List.length_nil]); omega) hmx (fun h3 a3 c3 s3 hA3 hF3 => ?_))
        have hT3 := hT2.step hA3 hF3
        refine bp_vret 33 rfl rfl  ⟨_, rfl, ?_⟩
        have y10 : ¬ (al = 0) := fun e => z10 (by rw [e]; rfl)
        have y27 : al = 0 := (nI_eq_iff (b := 0) (by omega) (by omega)).mp z27
        have y50 : ind = 0 := (nI_eq_iff (b := 0) (by omega) (by omega)).mp z50
        refine hQ _ _ _ _ ?_ ((hF1.tr hF2).tr hF3)
        have hT := hT3
        simp only [List.append_assoc, List.cons_append, List.nil_append] at hT
        rw [twP]
        first | (exfalso; omega) | (simp only [y10, y27, y50] <;> simpa [y10, y27, y50] using hT) | (simpa [y10, y27, y50] using hT)
      · refine bp_aload_n (q := 54) 25 rfl rfl rfl rfl ?_
        refine bp_getR (x := r) (q := 57) (ci := 8) (j := 1) 26 rfl rfl fl_TW_9_8 hT2.1 rfl hT2.2.1 ?_
        refine bp_iload_n (q := 58) 27 rfl rfl rfl rfl ?_
        refine bp_callV (q := 61) (ci := 1) 28 rfl rfl cw_Row_putNumber lk_TW_27 rfl hT2.2.2.1.1 wd951 wd952 rfl rfl (Nat.le_of_ble_eq_true rfl) ⟨Nat.le_of_ble_eq_true rfl, Nat.le_of_ble_eq_true rfl⟩ (s_Row_putNumber (n := ind) (by omega) hT2.2.2 (by (try simp only [List.length_append, List.length_cons, List.length_nil]); omega) hmx (fun h3 a3 c3 s3 hA3 hF3 => ?_))
        have hT3 := hT2.step hA3 hF3
        refine bp_aload_n (q := 62) 29 rfl rfl rfl rfl ?_
        refine bp_getR (x := r) (q := 65) (ci := 8) (j := 1) 30 rfl rfl fl_TW_9_8 hT3.1 rfl hT3.2.1 ?_
        refine bp_bipush (v := 62) (q := 67) 31 rfl rfl (by decide) ?_
        refine bp_callV (q := 70) (ci := 1) 32 rfl rfl cw_Row_put lk_TW_23 rfl hT3.2.2.1.1 wd485 wd486 rfl rfl (Nat.le_of_ble_eq_true rfl) ⟨Nat.le_of_ble_eq_true rfl, Nat.le_of_ble_eq_true rfl⟩ (s_Row_putg (v := 62) rfl hT3.2.2 (by (try simp only [List.length_append, List.length_cons, List.length_nil]); omega) hmx (fun h4 a4 c4 s4 hA4 hF4 => ?_))
        have hT4 := hT3.step hA4 hF4
        refine bp_vret 33 rfl rfl  ⟨_, rfl, ?_⟩
        have y10 : ¬ (al = 0) := fun e => z10 (by rw [e]; rfl)
        have y27 : al = 0 := (nI_eq_iff (b := 0) (by omega) (by omega)).mp z27
        have y50 : ¬ (ind = 0) := fun e => z50 (by rw [e]; rfl)
        refine hQ _ _ _ _ ?_ (((hF1.tr hF2).tr hF3).tr hF4)
        have hT := hT4
        simp only [List.append_assoc, List.cons_append, List.nil_append] at hT
        rw [twP]
        first | (exfalso; omega) | (simp only [y10, y27, y50] <;> simpa [y10, y27, y50] using hT) | (simpa [y10, y27, y50] using hT)
    · refine bp_aload_n (q := 31) 14 rfl rfl rfl rfl ?_
      refine bp_getR (x := r) (q := 34) (ci := 8) (j := 1) 15 rfl rfl fl_TW_9_8 hT2.1 rfl hT2.2.1 ?_
      refine bp_iload_n (q := 35) 16 rfl rfl rfl rfl ?_
      refine bp_iconst (v := 1) (q := 36) 17 rfl rfl (by decide) ?_
      refine bp_icmp_ne (q := 39) (tgt := 44) 18 rfl rfl (by decide) (fun z36 => ?_) (fun z36 => ?_)
      · refine bp_bipush (v := 82) (q := 46) 21 rfl rfl (by decide) ?_
        refine bp_callV (q := 49) (ci := 1) 22 rfl rfl cw_Row_put lk_TW_23 rfl hT2.2.2.1.1 wd485 wd486 rfl rfl (Nat.le_of_ble_eq_true rfl) ⟨Nat.le_of_ble_eq_true rfl, Nat.le_of_ble_eq_true rfl⟩ (s_Row_putg (v := 82) rfl hT2.2.2 (by (try simp only [List.length_append, List.length_cons, List.length_nil]); omega) hmx (fun h3 a3 c3 s3 hA3 hF3 => ?_))
        have hT3 := hT2.step hA3 hF3
        refine bp_iload_n (q := 50) 23 rfl rfl rfl rfl ?_
        refine bp_if_eq (q := 53) (tgt := 61) 24 rfl rfl (by decide) (fun z50 => ?_) (fun z50 => ?_)
        · refine bp_aload_n (q := 62) 29 rfl rfl rfl rfl ?_
          refine bp_getR (x := r) (q := 65) (ci := 8) (j := 1) 30 rfl rfl fl_TW_9_8 hT3.1 rfl hT3.2.1 ?_
          refine bp_bipush (v := 62) (q := 67) 31 rfl rfl (by decide) ?_
          refine bp_callV (q := 70) (ci := 1) 32 rfl rfl cw_Row_put lk_TW_23 rfl hT3.2.2.1.1 wd485 wd486 rfl rfl (Nat.le_of_ble_eq_true rfl) ⟨Nat.le_of_ble_eq_true rfl, Nat.le_of_ble_eq_true rfl⟩ (s_Row_putg (v := 62) rfl hT3.2.2 (by (try simp only [List.length_append, List.length_cons, List.length_nil]); omega) hmx (fun h4 a4 c4 s4 hA4 hF4 => ?_))
          have hT4 := hT3.step hA4 hF4
          refine bp_vret 33 rfl rfl  ⟨_, rfl, ?_⟩
          have y10 : ¬ (al = 0) := fun e => z10 (by rw [e]; rfl)
          have y27 : ¬ (al = 0) := fun e => z27 (by rw [e]; rfl)
          have y36 : ¬ (al = 1) := fun e => z36 (by rw [e]; rfl)
          have y50 : ind = 0 := (nI_eq_iff (b := 0) (by omega) (by omega)).mp z50
          refine hQ _ _ _ _ ?_ (((hF1.tr hF2).tr hF3).tr hF4)
          have hT := hT4
          simp only [List.append_assoc, List.cons_append, List.nil_append] at hT
          rw [twP]
          first | (exfalso; omega) | (simp only [y10, y27, y36, y50] <;> simpa [y10, y27, y36, y50] using hT) | (simpa [y10, y27, y36, y50] using hT)
        · refine bp_aload_n (q := 54) 25 rfl rfl rfl rfl ?_
          refine bp_getR (x := r) (q := 57) (ci := 8) (j := 1) 26 rfl rfl fl_TW_9_8 hT3.1 rfl hT3.2.1 ?_
          refine bp_iload_n (q := 58) 27 rfl rfl rfl rfl ?_
          refine bp_callV (q := 61) (ci := 1) 28 rfl rfl cw_Row_putNumber lk_TW_27 rfl hT3.2.2.1.1 wd951 wd952 rfl rfl (Nat.le_of_ble_eq_true rfl) ⟨Nat.le_of_ble_eq_true rfl, Nat.le_of_ble_eq_true rfl⟩ (s_Row_putNumber (n := ind) (by omega) hT3.2.2 (by (try simp only [List.length_append, List.length_cons, List.length_nil]); omega) hmx (fun h4 a4 c4 s4 hA4 hF4 => ?_))
          have hT4 := hT3.step hA4 hF4
          refine bp_aload_n (q := 62) 29 rfl rfl rfl rfl ?_
          refine bp_getR (x := r) (q := 65) (ci := 8) (j := 1) 30 rfl rfl fl_TW_9_8 hT4.1 rfl hT4.2.1 ?_
          refine bp_bipush (v := 62) (q := 67) 31 rfl rfl (by decide) ?_
          refine bp_callV (q := 70) (ci := 1) 32 rfl rfl cw_Row_put lk_TW_23 rfl hT4.2.2.1.1 wd485 wd486 rfl rfl (Nat.le_of_ble_eq_true rfl) ⟨Nat.le_of_ble_eq_true rfl, Nat.le_of_ble_eq_true rfl⟩ (s_Row_putg (v := 62) rfl hT4.2.2 (by (try simp only [List.length_append, List.length_cons, List.length_nil]); omega) hmx (fun h5 a5 c5 s5 hA5 hF5 => ?_))
          have hT5 := hT4.step hA5 hF5
          refine bp_vret 33 rfl rfl  ⟨_, rfl, ?_⟩
          have y10 : ¬ (al = 0) := fun e => z10 (by rw [e]; rfl)
          have y27 : ¬ (al = 0) := fun e => z27 (by rw [e]; rfl)
          have y36 : ¬ (al = 1) := fun e => z36 (by rw [e]; rfl)
          have y50 : ¬ (ind = 0) := fun e => z50 (by rw [e]; rfl)
          refine hQ _ _ _ _ ?_ ((((hF1.tr hF2).tr hF3).tr hF4).tr hF5)
          have hT := hT5
          simp only [List.append_assoc, List.cons_append, List.nil_append] at hT
          rw [twP]
          first | (exfalso; omega) | (simp only [y10, y27, y36, y50] <;> simpa [y10, y27, y36, y50] using hT) | (simpa [y10, y27, y36, y50] using hT)
      · refine bp_bipush (v := 67) (q := 41) 19 rfl rfl (by decide) ?_
        refine bp_goto (tgt := 46) 20 rfl (by decide) ?_
        refine bp_callV (q := 49) (ci := 1) 22 rfl rfl cw_Row_put lk_TW_23 rfl hT2.2.2.1.1 wd485 wd486 rfl rfl (Nat.le_of_ble_eq_true rfl) ⟨Nat.le_of_ble_eq_true rfl, Nat.le_of_ble_eq_true rfl⟩ (s_Row_putg (v := 67) rfl hT2.2.2 (by (try simp only [List.length_append, List.length_cons, List.length_nil]); omega) hmx (fun h3 a3 c3 s3 hA3 hF3 => ?_))
        have hT3 := hT2.step hA3 hF3
        refine bp_iload_n (q := 50) 23 rfl rfl rfl rfl ?_
        refine bp_if_eq (q := 53) (tgt := 61) 24 rfl rfl (by decide) (fun z50 => ?_) (fun z50 => ?_)
        · refine bp_aload_n (q := 62) 29 rfl rfl rfl rfl ?_
          refine bp_getR (x := r) (q := 65) (ci := 8) (j := 1) 30 rfl rfl fl_TW_9_8 hT3.1 rfl hT3.2.1 ?_
          refine bp_bipush (v := 62) (q := 67) 31 rfl rfl (by decide) ?_
          refine bp_callV (q := 70) (ci := 1) 32 rfl rfl cw_Row_put lk_TW_23 rfl hT3.2.2.1.1 wd485 wd486 rfl rfl (Nat.le_of_ble_eq_true rfl) ⟨Nat.le_of_ble_eq_true rfl, Nat.le_of_ble_eq_true rfl⟩ (s_Row_putg (v := 62) rfl hT3.2.2 (by (try simp only [List.length_append, List.length_cons, List.length_nil]); omega) hmx (fun h4 a4 c4 s4 hA4 hF4 => ?_))
          have hT4 := hT3.step hA4 hF4
          refine bp_vret 33 rfl rfl  ⟨_, rfl, ?_⟩
          have y10 : ¬ (al = 0) := fun e => z10 (by rw [e]; rfl)
          have y27 : ¬ (al = 0) := fun e => z27 (by rw [e]; rfl)
          have y36 : al = 1 := (nI_eq_iff (b := 1) (by omega) (by omega)).mp z36
          have y50 : ind = 0 := (nI_eq_iff (b := 0) (by omega) (by omega)).mp z50
          refine hQ _ _ _ _ ?_ (((hF1.tr hF2).tr hF3).tr hF4)
          have hT := hT4
          simp only [List.append_assoc, List.cons_append, List.nil_append] at hT
          rw [twP]
          first | (exfalso; omega) | (simp only [y10, y27, y36, y50] <;> simpa [y10, y27, y36, y50] using hT) | (simpa [y10, y27, y36, y50] using hT)
        · refine bp_aload_n (q := 54) 25 rfl rfl rfl rfl ?_
          refine bp_getR (x := r) (q := 57) (ci := 8) (j := 1) 26 rfl rfl fl_TW_9_8 hT3.1 rfl hT3.2.1 ?_
          refine bp_iload_n (q := 58) 27 rfl rfl rfl rfl ?_
          refine bp_callV (q := 61) (ci := 1) 28 rfl rfl cw_Row_putNumber lk_TW_27 rfl hT3.2.2.1.1 wd951 wd952 rfl rfl (Nat.le_of_ble_eq_true rfl) ⟨Nat.le_of_ble_eq_true rfl, Nat.le_of_ble_eq_true rfl⟩ (s_Row_putNumber (n := ind) (by omega) hT3.2.2 (by (try simp only [List.length_append, List.length_cons, List.length_nil]); omega) hmx (fun h4 a4 c4 s4 hA4 hF4 => ?_))
          have hT4 := hT3.step hA4 hF4
          refine bp_aload_n (q := 62) 29 rfl rfl rfl rfl ?_
          refine bp_getR (x := r) (q := 65) (ci := 8) (j := 1) 30 rfl rfl fl_TW_9_8 hT4.1 rfl hT4.2.1 ?_
          refine bp_bipush (v := 62) (q := 67) 31 rfl rfl (by decide) ?_
          refine bp_callV (q := 70) (ci := 1) 32 rfl rfl cw_Row_put lk_TW_23 rfl hT4.2.2.1.1 wd485 wd486 rfl rfl (Nat.le_of_ble_eq_true rfl) ⟨Nat.le_of_ble_eq_true rfl, Nat.le_of_ble_eq_true rfl⟩ (s_Row_putg (v := 62) rfl hT4.2.2 (by (try simp only [List.length_append, List.length_cons, List.length_nil]); omega) hmx (fun h5 a5 c5 s5 hA5 hF5 => ?_))
          have hT5 := hT4.step hA5 hF5
          refine bp_vret 33 rfl rfl  ⟨_, rfl, ?_⟩
          have y10 : ¬ (al = 0) := fun e => z10 (by rw [e]; rfl)
          have y27 : ¬ (al = 0) := fun e => z27 (by rw [e]; rfl)
          have y36 : al = 1 := (nI_eq_iff (b := 1) (by omega) (by omega)).mp z36
          have y50 : ¬ (ind = 0) := fun e => z50 (by rw [e]; rfl)
          refine hQ _ _ _ _ ?_ ((((hF1.tr hF2).tr hF3).tr hF4).tr hF5)
          have hT := hT5
          simp only [List.append_assoc, List.cons_append, List.nil_append] at hT
          rw [twP]
          first | (exfalso; omega) | (simp only [y10, y27, y36, y50] <;> simpa [y10, y27, y36, y50] using hT) | (simpa [y10, y27, y36, y50] using hT)
  · refine bp_iload_n (q := 14) 6 rfl rfl rfl rfl ?_
    refine bp_if_eq (q := 17) (tgt := 26) 7 rfl rfl (by decide) (fun z14 => ?_) (fun z14 => ?_)
    · refine bp_iload_n (q := 27) 12 rfl rfl rfl rfl ?_
      refine bp_if_eq (q := 30) (tgt := 49) 13 rfl rfl (by decide) (fun z27 => ?_) (fun z27 => ?_)
      · refine bp_iload_n (q := 50) 23 rfl rfl rfl rfl ?_
        refine bp_if_eq (q := 53) (tgt := 61) 24 rfl rfl (by decide) (fun z50 => ?_) (fun z50 => ?_)
        · refine bp_aload_n (q := 62) 29 rfl rfl rfl rfl ?_
          refine bp_getR (x := r) (q := 65) (ci := 8) (j := 1) 30 rfl rfl fl_TW_9_8 hT1.1 rfl hT1.2.1 ?_
          refine bp_bipush (v := 62) (q := 67) 31 rfl rfl (by decide) ?_
          refine bp_callV (q := 70) (ci := 1) 32 rfl rfl cw_Row_put lk_TW_23 rfl hT1.2.2.1.1 wd485 wd486 rfl rfl (Nat.le_of_ble_eq_true rfl) ⟨Nat.le_of_ble_eq_true rfl, Nat.le_of_ble_eq_true rfl⟩ (s_Row_putg (v := 62) rfl hT1.2.2 (by (try simp only [List.length_append, List.length_cons, List.length_nil]); omega) hmx (fun h2 a2 c2 s2 hA2 hF2 => ?_))
          have hT2 := hT1.step hA2 hF2
          refine bp_vret 33 rfl rfl  ⟨_, rfl, ?_⟩
          have y10 : al = 0 := (nI_eq_iff (b := 0) (by omega) (by omega)).mp z10
          have y14 : ind = 0 := (nI_eq_iff (b := 0) (by omega) (by omega)).mp z14
          have y27 : al = 0 := (nI_eq_iff (b := 0) (by omega) (by omega)).mp z27
          have y50 : ind = 0 := (nI_eq_iff (b := 0) (by omega) (by omega)).mp z50
          refine hQ _ _ _ _ ?_ (hF1.tr hF2)
          have hT := hT2
          simp only [List.append_assoc, List.cons_append, List.nil_append] at hT
          rw [twP]
          first | (exfalso; omega) | (simp only [y10, y14, y27, y50] <;> simpa [y10, y14, y27, y50] using hT) | (simpa [y10, y14, y27, y50] using hT)
        · refine bp_aload_n (q := 54) 25 rfl rfl rfl rfl ?_
          refine bp_getR (x := r) (q := 57) (ci := 8) (j := 1) 26 rfl rfl fl_TW_9_8 hT1.1 rfl hT1.2.1 ?_
          refine bp_iload_n (q := 58) 27 rfl rfl rfl rfl ?_
          refine bp_callV (q := 61) (ci := 1) 28 rfl rfl cw_Row_putNumber lk_TW_27 rfl hT1.2.2.1.1 wd951 wd952 rfl rfl (Nat.le_of_ble_eq_true rfl) ⟨Nat.le_of_ble_eq_true rfl, Nat.le_of_ble_eq_true rfl⟩ (s_Row_putNumber (n := ind) (by omega) hT1.2.2 (by (try simp only [List.length_append, List.length_cons, List.length_nil]); omega) hmx (fun h2 a2 c2 s2 hA2 hF2 => ?_))
          have hT2 := hT1.step hA2 hF2
          refine bp_aload_n (q := 62) 29 rfl rfl rfl rfl ?_
          refine bp_getR (x := r) (q := 65) (ci := 8) (j := 1) 30 rfl rfl fl_TW_9_8 hT2.1 rfl hT2.2.1 ?_
          refine bp_bipush (v := 62) (q := 67) 31 rfl rfl (by decide) ?_
          refine bp_callV (q := 70) (ci := 1) 32 rfl rfl cw_Row_put lk_TW_23 rfl hT2.2.2.1.1 wd485 wd486 rfl rfl (Nat.le_of_ble_eq_true rfl) ⟨Nat.le_of_ble_eq_true rfl, Nat.le_of_ble_eq_true rfl⟩ (s_Row_putg (v := 62) rfl hT2.2.2 (by (try simp only [List.length_append, List.length_cons, List.length_nil]); omega) hmx (fun h3 a3 c3 s3 hA3 hF3 => ?_))
          have hT3 := hT2.step hA3 hF3
          refine bp_vret 33 rfl rfl  ⟨_, rfl, ?_⟩
          have y10 : al = 0 := (nI_eq_iff (b := 0) (by omega) (by omega)).mp z10
          have y14 : ind = 0 := (nI_eq_iff (b := 0) (by omega) (by omega)).mp z14
          have y27 : al = 0 := (nI_eq_iff (b := 0) (by omega) (by omega)).mp z27
          have y50 : ¬ (ind = 0) := fun e => z50 (by rw [e]; rfl)
          refine hQ _ _ _ _ ?_ ((hF1.tr hF2).tr hF3)
          have hT := hT3
          simp only [List.append_assoc, List.cons_append, List.nil_append] at hT
          rw [twP]
          first | (exfalso; omega) | (simp only [y10, y14, y27, y50] <;> simpa [y10, y14, y27, y50] using hT) | (simpa [y10, y14, y27, y50] using hT)
      · refine bp_aload_n (q := 31) 14 rfl rfl rfl rfl ?_
        refine bp_getR (x := r) (q := 34) (ci := 8) (j := 1) 15 rfl rfl fl_TW_9_8 hT1.1 rfl hT1.2.1 ?_
        refine bp_iload_n (q := 35) 16 rfl rfl rfl rfl ?_
        refine bp_iconst (v := 1) (q := 36) 17 rfl rfl (by decide) ?_
        refine bp_icmp_ne (q := 39) (tgt := 44) 18 rfl rfl (by decide) (fun z36 => ?_) (fun z36 => ?_)
        · refine bp_bipush (v := 82) (q := 46) 21 rfl rfl (by decide) ?_
          refine bp_callV (q := 49) (ci := 1) 22 rfl rfl cw_Row_put lk_TW_23 rfl hT1.2.2.1.1 wd485 wd486 rfl rfl (Nat.le_of_ble_eq_true rfl) ⟨Nat.le_of_ble_eq_true rfl, Nat.le_of_ble_eq_true rfl⟩ (s_Row_putg (v := 82) rfl hT1.2.2 (by (try simp only [List.length_append, List.length_cons, List.length_nil]); omega) hmx (fun h2 a2 c2 s2 hA2 hF2 => ?_))
          have hT2 := hT1.step hA2 hF2
          refine bp_iload_n (q := 50) 23 rfl rfl rfl rfl ?_
          refine bp_if_eq (q := 53) (tgt := 61) 24 rfl rfl (by decide) (fun z50 => ?_) (fun z50 => ?_)
          · refine bp_aload_n (q := 62) 29 rfl rfl rfl rfl ?_
            refine bp_getR (x := r) (q := 65) (ci := 8) (j := 1) 30 rfl rfl fl_TW_9_8 hT2.1 rfl hT2.2.1 ?_
            refine bp_bipush (v := 62) (q := 67) 31 rfl rfl (by decide) ?_
            refine bp_callV (q := 70) (ci := 1) 32 rfl rfl cw_Row_put lk_TW_23 rfl hT2.2.2.1.1 wd485 wd486 rfl rfl (Nat.le_of_ble_eq_true rfl) ⟨Nat.le_of_ble_eq_true rfl, Nat.le_of_ble_eq_true rfl⟩ (s_Row_putg (v := 62) rfl hT2.2.2 (by (try simp only [List.length_append, List.length_cons, List.length_nil]); omega) hmx (fun h3 a3 c3 s3 hA3 hF3 => ?_))
            have hT3 := hT2.step hA3 hF3
            refine bp_vret 33 rfl rfl  ⟨_, rfl, ?_⟩
            have y10 : al = 0 := (nI_eq_iff (b := 0) (by omega) (by omega)).mp z10
            have y14 : ind = 0 := (nI_eq_iff (b := 0) (by omega) (by omega)).mp z14
            have y27 : ¬ (al = 0) := fun e => z27 (by rw [e]; rfl)
            have y36 : ¬ (al = 1) := fun e => z36 (by rw [e]; rfl)
            have y50 : ind = 0 := (nI_eq_iff (b := 0) (by omega) (by omega)).mp z50
            refine hQ _ _ _ _ ?_ ((hF1.tr hF2).tr hF3)
            have hT := hT3
            simp only [List.append_assoc, List.cons_append, List.nil_append] at hT
            rw [twP]
            first | (exfalso; omega) | (simp only [y10, y14, y27, y36, y50] <;> simpa [y10, y14, y27, y36, y50] using hT) | (simpa [y10, y14, y27, y36, y50] using hT)
          · refine bp_aload_n (q := 54) 25 rfl rfl rfl rfl ?_
            refine bp_getR (x := r) (q := 57) (ci := 8) (j := 1) 26 rfl rfl fl_TW_9_8 hT2.1 rfl hT2.2.1 ?_
            refine bp_iload_n (q := 58) 27 rfl rfl rfl rfl ?_
            refine bp_callV (q := 61) (ci := 1) 28 rfl rfl cw_Row_putNumber lk_TW_27 rfl hT2.2.2.1.1 wd951 wd952 rfl rfl (Nat.le_of_ble_eq_true rfl) ⟨Nat.le_of_ble_eq_true rfl, Nat.le_of_ble_eq_true rfl⟩ (s_Row_putNumber (n := ind) (by omega) hT2.2.2 (by (try simp only [List.length_append, List.length_cons, List.length_nil]); omega) hmx (fun h3 a3 c3 s3 hA3 hF3 => ?_))
            have hT3 := hT2.step hA3 hF3
            refine bp_aload_n (q := 62) 29 rfl rfl rfl rfl ?_
            refine bp_getR (x := r) (q := 65) (ci := 8) (j := 1) 30 rfl rfl fl_TW_9_8 hT3.1 rfl hT3.2.1 ?_
            refine bp_bipush (v := 62) (q := 67) 31 rfl rfl (by decide) ?_
            refine bp_callV (q := 70) (ci := 1) 32 rfl rfl cw_Row_put lk_TW_23 rfl hT3.2.2.1.1 wd485 wd486 rfl rfl (Nat.le_of_ble_eq_true rfl) ⟨Nat.le_of_ble_eq_true rfl, Nat.le_of_ble_eq_true rfl⟩ (s_Row_putg (v := 62) rfl hT3.2.2 (by (try simp only [List.length_append, List.length_cons, List.length_nil]); omega) hmx (fun h4 a4 c4 s4 hA4 hF4 => ?_))
            have hT4 := hT3.step hA4 hF4
            refine bp_vret 33 rfl rfl  ⟨_, rfl, ?_⟩
            have y10 : al = 0 := (nI_eq_iff (b := 0) (by omega) (by omega)).mp z10
            have y14 : ind = 0 := (nI_eq_iff (b := 0) (by omega) (by omega)).mp z14
            have y27 : ¬ (al = 0) := fun e => z27 (by rw [e]; rfl)
            have y36 : ¬ (al = 1) := fun e => z36 (by rw [e]; rfl)
            have y50 : ¬ (ind = 0) := fun e => z50 (by rw [e]; rfl)
            refine hQ _ _ _ _ ?_ (((hF1.tr hF2).tr hF3).tr hF4)
            have hT := hT4
            simp only [List.append_assoc, List.cons_append, List.nil_append] at hT
            rw [twP]
            first | (exfalso; omega) | (simp only [y10, y14, y27, y36, y50] <;> simpa [y10, y14, y27, y36, y50] using hT) | (simpa [y10, y14, y27, y36, y50] using hT)
        · refine bp_bipush (v := 67) (q := 41) 19 rfl rfl (by decide) ?_
          refine bp_goto (tgt := 46) 20 rfl (by decide) ?_
          refine bp_callV (q := 49) (ci := 1) 22 rfl rfl cw_Row_put lk_TW_23 rfl hT1.2.2.1.1 wd485 wd486 rfl rfl (Nat.le_of_ble_eq_true rfl) ⟨Nat.le_of_ble_eq_true rfl, Nat.le_of_ble_eq_true rfl⟩ (s_Row_putg (v := 67) rfl hT1.2.2 (by (try simp only [List.length_append, List.length_cons, List.length_nil]); omega) hmx (fun h2 a2 c2 s2 hA2 hF2 => ?_))
          have hT2 := hT1.step hA2 hF2
          refine bp_iload_n (q := 50) 23 rfl rfl rfl rfl ?_
          refine bp_if_eq (q := 53) (tgt := 61) 24 rfl rfl (by decide) (fun z50 => ?_) (fun z50 => ?_)
          · refine bp_aload_n (q := 62) 29 rfl rfl rfl rfl ?_
            refine bp_getR (x := r) (q := 65) (ci := 8) (j := 1) 30 rfl rfl fl_TW_9_8 hT2.1 rfl hT2.2.1 ?_
            refine bp_bipush (v := 62) (q := 67) 31 rfl rfl (by decide) ?_
            refine bp_callV (q := 70) (ci := 1) 32 rfl rfl cw_Row_put lk_TW_23 rfl hT2.2.2.1.1 wd485 wd486 rfl rfl (Nat.le_of_ble_eq_true rfl) ⟨Nat.le_of_ble_eq_true rfl, Nat.le_of_ble_eq_true rfl⟩ (s_Row_putg (v := 62) rfl hT2.2.2 (by (try simp only [List.length_append, List.length_cons, List.length_nil]); omega) hmx (fun h3 a3 c3 s3 hA3 hF3 => ?_))
            have hT3 := hT2.step hA3 hF3
            refine bp_vret 33 rfl rfl  ⟨_, rfl, ?_⟩
            have y10 : al = 0 := (nI_eq_iff (b := 0) (by omega) (by omega)).mp z10
            have y14 : ind = 0 := (nI_eq_iff (b := 0) (by omega) (by omega)).mp z14
            have y27 : ¬ (al = 0) := fun e => z27 (by rw [e]; rfl)
            have y36 : al = 1 := (nI_eq_iff (b := 1) (by omega) (by omega)).mp z36
            have y50 : ind = 0 := (nI_eq_iff (b := 0) (by omega) (by omega)).mp z50
            refine hQ _ _ _ _ ?_ ((hF1.tr hF2).tr hF3)
            have hT := hT3
            simp only [List.append_assoc, List.cons_append, List.nil_append] at hT
            rw [twP]
            first | (exfalso; omega) | (simp only [y10, y14, y27, y36, y50] <;> simpa [y10, y14, y27, y36, y50] using hT) | (simpa [y10, y14, y27, y36, y50] using hT)
          · refine bp_aload_n (q := 54) 25 rfl rfl rfl rfl ?_
            refine bp_getR (x := r) (q := 57) (ci := 8) (j := 1) 26 rfl rfl fl_TW_9_8 hT2.1 rfl hT2.2.1 ?_
            refine bp_iload_n (q := 58) 27 rfl rfl rfl rfl ?_
            refine bp_callV (q := 61) (ci := 1) 28 rfl rfl cw_Row_putNumber lk_TW_27 rfl hT2.2.2.1.1 wd951 wd952 rfl rfl (Nat.le_of_ble_eq_true rfl) ⟨Nat.le_of_ble_eq_true rfl, Nat.le_of_ble_eq_true rfl⟩ (s_Row_putNumber (n := ind) (by omega) hT2.2.2 (by (try simp only [List.length_append, List.length_cons, List.length_nil]); omega) hmx (fun h3 a3 c3 s3 hA3 hF3 => ?_))
            have hT3 := hT2.step hA3 hF3
            refine bp_aload_n (q := 62) 29 rfl rfl rfl rfl ?_
            refine bp_getR (x := r) (q := 65) (ci := 8) (j := 1) 30 rfl rfl fl_TW_9_8 hT3.1 rfl hT3.2.1 ?_
            refine bp_bipush (v := 62) (q := 67) 31 rfl rfl (by decide) ?_
            refine bp_callV (q := 70) (ci := 1) 32 rfl rfl cw_Row_put lk_TW_23 rfl hT3.2.2.1.1 wd485 wd486 rfl rfl (Nat.le_of_ble_eq_true rfl) ⟨Nat.le_of_ble_eq_true rfl, Nat.le_of_ble_eq_true rfl⟩ (s_Row_putg (v := 62) rfl hT3.2.2 (by (try simp only [List.length_append, List.length_cons, List.length_nil]); omega) hmx (fun h4 a4 c4 s4 hA4 hF4 => ?_))
            have hT4 := hT3.step hA4 hF4
            refine bp_vret 33 rfl rfl  ⟨_, rfl, ?_⟩
            have y10 : al = 0 := (nI_eq_iff (b := 0) (by omega) (by omega)).mp z10
            have y14 : ind = 0 := (nI_eq_iff (b := 0) (by omega) (by omega)).mp z14
            have y27 : ¬ (al = 0) := fun e => z27 (by rw [e]; rfl)
            have y36 : al = 1 := (nI_eq_iff (b := 1) (by omega) (by omega)).mp z36
            have y50 : ¬ (ind = 0) := fun e => z50 (by rw [e]; rfl)
            refine hQ _ _ _ _ ?_ (((hF1.tr hF2).tr hF3).tr hF4)
            have hT := hT4
            simp only [List.append_assoc, List.cons_append, List.nil_append] at hT
            rw [twP]
            first | (exfalso; omega) | (simp only [y10, y14, y27, y36, y50] <;> simpa [y10, y14, y27, y36, y50] using hT) | (simpa [y10, y14, y27, y36, y50] using hT)
    · refine bp_aload_n (q := 18) 8 rfl rfl rfl rfl ?_
      refine bp_getR (x := r) (q := 21) (ci := 8) (j := 1) 9 rfl rfl fl_TW_9_8 hT1.1 rfl hT1.2.1 ?_
      refine bp_bipush (v := 32) (q := 23) 10 rfl rfl (by decide) ?_
      refine bp_callV (q := 26) (ci := 1) 11 rfl rfl cw_Row_put lk_TW_23 rfl hT1.2.2.1.1 wd485 wd486 rfl rfl (Nat.le_of_ble_eq_true rfl) ⟨Nat.le_of_ble_eq_true rfl, Nat.le_of_ble_eq_true rfl⟩ (s_Row_putg (v := 32) rfl hT1.2.2 (by (try simp only [List.length_append, List.length_cons, List.length_nil]); omega) hmx (fun h2 a2 c2 s2 hA2 hF2 => ?_))
      have hT2 := hT1.step hA2 hF2
      refine bp_iload_n (q := 27) 12 rfl rfl rfl rfl ?_
      refine bp_if_eq (q := 30) (tgt := 49) 13 rfl rfl (by decide) (fun z27 => ?_) (fun z27 => ?_)
      · refine bp_iload_n (q := 50) 23 rfl rfl rfl rfl ?_
        refine bp_if_eq (q := 53) (tgt := 61) 24 rfl rfl (by decide) (fun z50 => ?_) (fun z50 => ?_)
        · refine bp_aload_n (q := 62) 29 rfl rfl rfl rfl ?_
          refine bp_getR (x := r) (q := 65) (ci := 8) (j := 1) 30 rfl rfl fl_TW_9_8 hT2.1 rfl hT2.2.1 ?_
          refine bp_bipush (v := 62) (q := 67) 31 rfl rfl (by decide) ?_
          refine bp_callV (q := 70) (ci := 1) 32 rfl rfl cw_Row_put lk_TW_23 rfl hT2.2.2.1.1 wd485 wd486 rfl rfl (Nat.le_of_ble_eq_true rfl) ⟨Nat.le_of_ble_eq_true rfl, Nat.le_of_ble_eq_true rfl⟩ (s_Row_putg (v := 62) rfl hT2.2.2 (by (try simp only [List.length_append, List.length_cons, List.length_nil]); omega) hmx (fun h3 a3 c3 s3 hA3 hF3 => ?_))
          have hT3 := hT2.step hA3 hF3
          refine bp_vret 33 rfl rfl  ⟨_, rfl, ?_⟩
          have y10 : al = 0 := (nI_eq_iff (b := 0) (by omega) (by omega)).mp z10
          have y14 : ¬ (ind = 0) := fun e => z14 (by rw [e]; rfl)
          have y27 : al = 0 := (nI_eq_iff (b := 0) (by omega) (by omega)).mp z27
          have y50 : ind = 0 := (nI_eq_iff (b := 0) (by omega) (by omega)).mp z50
          refine hQ _ _ _ _ ?_ ((hF1.tr hF2).tr hF3)
          have hT := hT3
          simp only [List.append_assoc, List.cons_append, List.nil_append] at hT
          rw [twP]
          first | (exfalso; omega) | (simp only [y10, y14, y27, y50] <;> simpa [y10, y14, y27, y50] using hT) | (simpa [y10, y14, y27, y50] using hT)
        · refine bp_aload_n (q := 54) 25 rfl rfl rfl rfl ?_
          refine bp_getR (x := r) (q := 57) (ci := 8) (j := 1) 26 rfl rfl fl_TW_9_8 hT2.1 rfl hT2.2.1 ?_
          refine bp_iload_n (q := 58) 27 rfl rfl rfl rfl ?_
          refine bp_callV (q := 61) (ci := 1) 28 rfl rfl cw_Row_putNumber lk_TW_27 rfl hT2.2.2.1.1 wd951 wd952 rfl rfl (Nat.le_of_ble_eq_true rfl) ⟨Nat.le_of_ble_eq_true rfl, Nat.le_of_ble_eq_true rfl⟩ (s_Row_putNumber (n := ind) (by omega) hT2.2.2 (by (try simp only [List.length_append, List.length_cons, List.length_nil]); omega) hmx (fun h3 a3 c3 s3 hA3 hF3 => ?_))
          have hT3 := hT2.step hA3 hF3
          refine bp_aload_n (q := 62) 29 rfl rfl rfl rfl ?_
          refine bp_getR (x := r) (q := 65) (ci := 8) (j := 1) 30 rfl rfl fl_TW_9_8 hT3.1 rfl hT3.2.1 ?_
          refine bp_bipush (v := 62) (q := 67) 31 rfl rfl (by decide) ?_
          refine bp_callV (q := 70) (ci := 1) 32 rfl rfl cw_Row_put lk_TW_23 rfl hT3.2.2.1.1 wd485 wd486 rfl rfl (Nat.le_of_ble_eq_true rfl) ⟨Nat.le_of_ble_eq_true rfl, Nat.le_of_ble_eq_true rfl⟩ (s_Row_putg (v := 62) rfl hT3.2.2 (by (try simp only [List.length_append, List.length_cons, List.length_nil]); omega) hmx (fun h4 a4 c4 s4 hA4 hF4 => ?_))
          have hT4 := hT3.step hA4 hF4
          refine bp_vret 33 rfl rfl  ⟨_, rfl, ?_⟩
          have y10 : al = 0 := (nI_eq_iff (b := 0) (by omega) (by omega)).mp z10
          have y14 : ¬ (ind = 0) := fun e => z14 (by rw [e]; rfl)
          have y27 : al = 0 := (nI_eq_iff (b := 0) (by omega) (by omega)).mp z27
          have y50 : ¬ (ind = 0) := fun e => z50 (by rw [e]; rfl)
          refine hQ _ _ _ _ ?_ (((hF1.tr hF2).tr hF3).tr hF4)
          have hT := hT4
          simp only [List.append_assoc, List.cons_append, List.nil_append] at hT
          rw [twP]
          first | (exfalso; omega) | (simp only [y10, y14, y27, y50] <;> simpa [y10, y14, y27, y50] using hT) | (simpa [y10, y14, y27, y50] using hT)
      · refine bp_aload_n (q := 31) 14 rfl rfl rfl rfl ?_
        refine bp_getR (x := r) (q := 34) (ci := 8) (j := 1) 15 rfl rfl fl_TW_9_8 hT2.1 rfl hT2.2.1 ?_
        refine bp_iload_n (q := 35) 16 rfl rfl rfl rfl ?_
        refine bp_iconst (v := 1) (q := 36) 17 rfl rfl (by decide) ?_
        refine bp_icmp_ne (q := 39) (tgt := 44) 18 rfl rfl (by decide) (fun z36 => ?_) (fun z36 => ?_)
        · refine bp_bipush (v := 82) (q := 46) 21 rfl rfl (by decide) ?_
          refine bp_callV (q := 49) (ci := 1) 22 rfl rfl cw_Row_put lk_TW_23 rfl hT2.2.2.1.1 wd485 wd486 rfl rfl (Nat.le_of_ble_eq_true rfl) ⟨Nat.le_of_ble_eq_true rfl, Nat.le_of_ble_eq_true rfl⟩ (s_Row_putg (v := 82) rfl hT2.2.2 (by (try simp only [List.length_append, List.length_cons, List.length_nil]); omega) hmx (fun h3 a3 c3 s3 hA3 hF3 => ?_))
          have hT3 := hT2.step hA3 hF3
          refine bp_iload_n (q := 50) 23 rfl rfl rfl rfl ?_
          refine bp_if_eq (q := 53) (tgt := 61) 24 rfl rfl (by decide) (fun z50 => ?_) (fun z50 => ?_)
          · refine bp_aload_n (q := 62) 29 rfl rfl rfl rfl ?_
            refine bp_getR (x := r) (q := 65) (ci := 8) (j := 1) 30 rfl rfl fl_TW_9_8 hT3.1 rfl hT3.2.1 ?_
            refine bp_bipush (v := 62) (q := 67) 31 rfl rfl (by decide) ?_
            refine bp_callV (q := 70) (ci := 1) 32 rfl rfl cw_Row_put lk_TW_23 rfl hT3.2.2.1.1 wd485 wd486 rfl rfl (Nat.le_of_ble_eq_true rfl) ⟨Nat.le_of_ble_eq_true rfl, Nat.le_of_ble_eq_true rfl⟩ (s_Row_putg (v := 62) rfl hT3.2.2 (by (try simp only [List.length_append, List.length_cons, List.length_nil]); omega) hmx (fun h4 a4 c4 s4 hA4 hF4 => ?_))
            have hT4 := hT3.step hA4 hF4
            refine bp_vret 33 rfl rfl  ⟨_, rfl, ?_⟩
            have y10 : al = 0 := (nI_eq_iff (b := 0) (by omega) (by omega)).mp z10
            have y14 : ¬ (ind = 0) := fun e => z14 (by rw [e]; rfl)
            have y27 : ¬ (al = 0) := fun e => z27 (by rw [e]; rfl)
            have y36 : ¬ (al = 1) := fun e => z36 (by rw [e]; rfl)
            have y50 : ind = 0 := (nI_eq_iff (b := 0) (by omega) (by omega)).mp z50
            refine hQ _ _ _ _ ?_ (((hF1.tr hF2).tr hF3).tr hF4)
            have hT := hT4
            simp only [List.append_assoc, List.cons_append, List.nil_append] at hT
            rw [twP]
            first | (exfalso; omega) | (simp only [y10, y14, y27, y36, y50] <;> simpa [y10, y14, y27, y36, y50] using hT) | (simpa [y10, y14, y27, y36, y50] using hT)
          · refine bp_aload_n (q := 54) 25 rfl rfl rfl rfl ?_
            refine bp_getR (x := r) (q := 57) (ci := 8) (j := 1) 26 rfl rfl fl_TW_9_8 hT3.1 rfl hT3.2.1 ?_
            refine bp_iload_n (q := 58) 27 rfl rfl rfl rfl ?_
            refine bp_callV (q := 61) (ci := 1) 28 rfl rfl cw_Row_putNumber lk_TW_27 rfl hT3.2.2.1.1 wd951 wd952 rfl rfl (Nat.le_of_ble_eq_true rfl) ⟨Nat.le_of_ble_eq_true rfl, Nat.le_of_ble_eq_true rfl⟩ (s_Row_putNumber (n := ind) (by omega) hT3.2.2 (by (try simp only [List.length_append, List.length_cons, List.length_nil]); omega) hmx (fun h4 a4 c4 s4 hA4 hF4 => ?_))
            have hT4 := hT3.step hA4 hF4
            refine bp_aload_n (q := 62) 29 rfl rfl rfl rfl ?_
            refine bp_getR (x := r) (q := 65) (ci := 8) (j := 1) 30 rfl rfl fl_TW_9_8 hT4.1 rfl hT4.2.1 ?_
            refine bp_bipush (v := 62) (q := 67) 31 rfl rfl (by decide) ?_
            refine bp_callV (q := 70) (ci := 1) 32 rfl rfl cw_Row_put lk_TW_23 rfl hT4.2.2.1.1 wd485 wd486 rfl rfl (Nat.le_of_ble_eq_true rfl) ⟨Nat.le_of_ble_eq_true rfl, Nat.le_of_ble_eq_true rfl⟩ (s_Row_putg (v := 62) rfl hT4.2.2 (by (try simp only [List.length_append, List.length_cons, List.length_nil]); omega) hmx (fun h5 a5 c5 s5 hA5 hF5 => ?_))
            have hT5 := hT4.step hA5 hF5
            refine bp_vret 33 rfl rfl  ⟨_, rfl, ?_⟩
            have y10 : al = 0 := (nI_eq_iff (b := 0) (by omega) (by omega)).mp z10
            have y14 : ¬ (ind = 0) := fun e => z14 (by rw [e]; rfl)
            have y27 : ¬ (al = 0) := fun e => z27 (by rw [e]; rfl)
            have y36 : ¬ (al = 1) := fun e => z36 (by rw [e]; rfl)
            have y50 : ¬ (ind = 0) := fun e => z50 (by rw [e]; rfl)
            refine hQ _ _ _ _ ?_ ((((hF1.tr hF2).tr hF3).tr hF4).tr hF5)
            have hT := hT5
            simp only [List.append_assoc, List.cons_append, List.nil_append] at hT
            rw [twP]
            first | (exfalso; omega) | (simp only [y10, y14, y27, y36, y50] <;> simpa [y10, y14, y27, y36, y50] using hT) | (simpa [y10, y14, y27, y36, y50] using hT)
        · refine bp_bipush (v := 67) (q := 41) 19 rfl rfl (by decide) ?_
          refine bp_goto (tgt := 46) 20 rfl (by decide) ?_
          refine bp_callV (q := 49) (ci := 1) 22 rfl rfl cw_Row_put lk_TW_23 rfl hT2.2.2.1.1 wd485 wd486 rfl rfl (Nat.le_of_ble_eq_true rfl) ⟨Nat.le_of_ble_eq_true rfl, Nat.le_of_ble_eq_true rfl⟩ (s_Row_putg (v := 67) rfl hT2.2.2 (by (try simp only [List.length_append, List.length_cons, List.length_nil]); omega) hmx (fun h3 a3 c3 s3 hA3 hF3 => ?_))
          have hT3 := hT2.step hA3 hF3
          refine bp_iload_n (q := 50) 23 rfl rfl rfl rfl ?_
          refine bp_if_eq (q := 53) (tgt := 61) 24 rfl rfl (by decide) (fun z50 => ?_) (fun z50 => ?_)
          · refine bp_aload_n (q := 62) 29 rfl rfl rfl rfl ?_
            refine bp_getR (x := r) (q := 65) (ci := 8) (j := 1) 30 rfl rfl fl_TW_9_8 hT3.1 rfl hT3.2.1 ?_
            refine bp_bipush (v := 62) (q := 67) 31 rfl rfl (by decide) ?_
            refine bp_callV (q := 70) (ci := 1) 32 rfl rfl cw_Row_put lk_TW_23 rfl hT3.2.2.1.1 wd485 wd486 rfl rfl (Nat.le_of_ble_eq_true rfl) ⟨Nat.le_of_ble_eq_true rfl, Nat.le_of_ble_eq_true rfl⟩ (s_Row_putg (v := 62) rfl hT3.2.2 (by (try simp only [List.length_append, List.length_cons, List.length_nil]); omega) hmx (fun h4 a4 c4 s4 hA4 hF4 => ?_))
            have hT4 := hT3.step hA4 hF4
            refine bp_vret 33 rfl rfl  ⟨_, rfl, ?_⟩
            have y10 : al = 0 := (nI_eq_iff (b := 0) (by omega) (by omega)).mp z10
            have y14 : ¬ (ind = 0) := fun e => z14 (by rw [e]; rfl)
            have y27 : ¬ (al = 0) := fun e => z27 (by rw [e]; rfl)
            have y36 : al = 1 := (nI_eq_iff (b := 1) (by omega) (by omega)).mp z36
            have y50 : ind = 0 := (nI_eq_iff (b := 0) (by omega) (by omega)).mp z50
            refine hQ _ _ _ _ ?_ (((hF1.tr hF2).tr hF3).tr hF4)
            have hT := hT4
            simp only [List.append_assoc, List.cons_append, List.nil_append] at hT
            rw [twP]
            first | (exfalso; omega) | (simp only [y10, y14, y27, y36, y50] <;> simpa [y10, y14, y27, y36, y50] using hT) | (simpa [y10, y14, y27, y36, y50] using hT)
          · refine bp_aload_n (q := 54) 25 rfl rfl rfl rfl ?_
            refine bp_getR (x := r) (q := 57) (ci := 8) (j := 1) 26 rfl rfl fl_TW_9_8 hT3.1 rfl hT3.2.1 ?_
            refine bp_iload_n (q := 58) 27 rfl rfl rfl rfl ?_
            refine bp_callV (q := 61) (ci := 1) 28 rfl rfl cw_Row_putNumber lk_TW_27 rfl hT3.2.2.1.1 wd951 wd952 rfl rfl (Nat.le_of_ble_eq_true rfl) ⟨Nat.le_of_ble_eq_true rfl, Nat.le_of_ble_eq_true rfl⟩ (s_Row_putNumber (n := ind) (by omega) hT3.2.2 (by (try simp only [List.length_append, List.length_cons, List.length_nil]); omega) hmx (fun h4 a4 c4 s4 hA4 hF4 => ?_))
            have hT4 := hT3.step hA4 hF4
            refine bp_aload_n (q := 62) 29 rfl rfl rfl rfl ?_
            refine bp_getR (x := r) (q := 65) (ci := 8) (j := 1) 30 rfl rfl fl_TW_9_8 hT4.1 rfl hT4.2.1 ?_
            refine bp_bipush (v := 62) (q := 67) 31 rfl rfl (by decide) ?_
            refine bp_callV (q := 70) (ci := 1) 32 rfl rfl cw_Row_put lk_TW_23 rfl hT4.2.2.1.1 wd485 wd486 rfl rfl (Nat.le_of_ble_eq_true rfl) ⟨Nat.le_of_ble_eq_true rfl, Nat.le_of_ble_eq_true rfl⟩ (s_Row_putg (v := 62) rfl hT4.2.2 (by (try simp only [List.length_append, List.length_cons, List.length_nil]); omega) hmx (fun h5 a5 c5 s5 hA5 hF5 => ?_))
            have hT5 := hT4.step hA5 hF5
            refine bp_vret 33 rfl rfl  ⟨_, rfl, ?_⟩
            have y10 : al = 0 := (nI_eq_iff (b := 0) (by omega) (by omega)).mp z10
            have y14 : ¬ (ind = 0) := fun e => z14 (by rw [e]; rfl)
            have y27 : ¬ (al = 0) := fun e => z27 (by rw [e]; rfl)
            have y36 : al = 1 := (nI_eq_iff (b := 1) (by omega) (by omega)).mp z36
            have y50 : ¬ (ind = 0) := fun e => z50 (by rw [e]; rfl)
            refine hQ _ _ _ _ ?_ ((((hF1.tr hF2).tr hF3).tr hF4).tr hF5)
            have hT := hT5
            simp only [List.append_assoc, List.cons_append, List.nil_append] at hT
            rw [twP]
            first | (exfalso; omega) | (simp only [y10, y14, y27, y36, y50] <;> simpa [y10, y14, y27, y36, y50] using hT) | (simpa [y10, y14, y27, y36, y50] using hT)
end TW
