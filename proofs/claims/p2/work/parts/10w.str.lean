/-! ===== Texts of the class files, and rows of longs that are copied ===== -/
def strT : List (String × Nat × String × List Int32) := [("ClassWorks$Names", 52, "num row null unset unmade none any <make> <start>", [110, 117, 109, 32, 114, 111, 119, 32, 110, 117, 108, 108, 32, 117, 110, 115, 101, 116, 32, 117, 110, 109, 97, 100, 101, 32, 110, 111, 110, 101, 32, 97, 110, 121, 32, 60, 109, 97, 107, 101, 62, 32, 60, 115, 116, 97, 114, 116, 62]), ("ClassWorks$Names", 58, "Thing Fault", [84, 104, 105, 110, 103, 32, 70, 97, 117, 108, 116]), ("ClassWorks$Names", 60, "NullFault ZeroFault PlaceFault SizeFault CastFault LockFault DeepFault RoomFault", [78, 117, 108, 108, 70, 97, 117, 108, 116, 32, 90, 101, 114, 111, 70, 97, 117, 108, 116, 32, 80, 108, 97, 99, 101, 70, 97, 117, 108, 116, 32, 83, 105, 122, 101, 70, 97, 117, 108, 116, 32, 67, 97, 115, 116, 70, 97, 117, 108, 116, 32, 76, 111, 99, 107, 70, 97, 117, 108, 116, 32, 68, 101, 101, 112, 70, 97, 117, 108, 116, 32, 82, 111, 111, 109, 70, 97, 117, 108, 116]), ("ClassWorks$Names", 62, "LinkFault ClassFault FieldFault MethodFault AccessFault KindFault RingFault CheckFault BodyFault MakeFault StartFault", [76, 105, 110, 107, 70, 97, 117, 108, 116, 32, 67, 108, 97, 115, 115, 70, 97, 117, 108, 116, 32, 70, 105, 101, 108, 100, 70, 97, 117, 108, 116, 32, 77, 101, 116, 104, 111, 100, 70, 97, 117, 108, 116, 32, 65, 99, 99, 101, 115, 115, 70, 97, 117, 108, 116, 32, 75, 105, 110, 100, 70, 97, 117, 108, 116, 32, 82, 105, 110, 103, 70, 97, 117, 108, 116, 32, 67, 104, 101, 99, 107, 70, 97, 117, 108, 116, 32, 66, 111, 100, 121, 70, 97, 117, 108, 116, 32, 77, 97, 107, 101, 70, 97, 117, 108, 116, 32, 83, 116, 97, 114, 116, 70, 97, 117, 108, 116]), ("ClassWorks$Names", 64, "class field method room frame handler end final abstract face static private run", [99, 108, 97, 115, 115, 32, 102, 105, 101, 108, 100, 32, 109, 101, 116, 104, 111, 100, 32, 114, 111, 111, 109, 32, 102, 114, 97, 109, 101, 32, 104, 97, 110, 100, 108, 101, 114, 32, 101, 110, 100, 32, 102, 105, 110, 97, 108, 32, 97, 98, 115, 116, 114, 97, 99, 116, 32, 102, 97, 99, 101, 32, 115, 116, 97, 116, 105, 99, 32, 112, 114, 105, 118, 97, 116, 101, 32, 114, 117, 110]), ("ClassWorks$Names", 66, "nop num null nload rload nstore rstore inc add sub mul div rem neg and or xor shl shr pop dup dupx swap", [110, 111, 112, 32, 110, 117, 109, 32, 110, 117, 108, 108, 32, 110, 108, 111, 97, 100, 32, 114, 108, 111, 97, 100, 32, 110, 115, 116, 111, 114, 101, 32, 114, 115, 116, 111, 114, 101, 32, 105, 110, 99, 32, 97, 100, 100, 32, 115, 117, 98, 32, 109, 117, 108, 32, 100, 105, 118, 32, 114, 101, 109, 32, 110, 101, 103, 32, 97, 110, 100, 32, 111, 114, 32, 120, 111, 114, 32, 115, 104, 108, 32, 115, 104, 114, 32, 112, 111, 112, 32, 100, 117, 112, 32, 100, 117, 112, 120, 32, 115, 119, 97, 112]), ("ClassWorks$Names", 68, "jump if0 ifn0 ifl ifge ifg ifle eq ne lt ge gt le isnull notnull same other pick", [106, 117, 109, 112, 32, 105, 102, 48, 32, 105, 102, 110, 48, 32, 105, 102, 108, 32, 105, 102, 103, 101, 32, 105, 102, 103, 32, 105, 102, 108, 101, 32, 101, 113, 32, 110, 101, 32, 108, 116, 32, 103, 101, 32, 103, 116, 32, 108, 101, 32, 105, 115, 110, 117, 108, 108, 32, 110, 111, 116, 110, 117, 108, 108, 32, 115, 97, 109, 101, 32, 111, 116, 104, 101, 114, 32, 112, 105, 99, 107]), ("ClassWorks$Names", 70, "new newrow get put size fget fput sget sput call special static facecall cast is throw done ndone rdone enter leave", [110, 101, 119, 32, 110, 101, 119, 114, 111, 119, 32, 103, 101, 116, 32, 112, 117, 116, 32, 115, 105, 122, 101, 32, 102, 103, 101, 116, 32, 102, 112, 117, 116, 32, 115, 103, 101, 116, 32, 115, 112, 117, 116, 32, 99, 97, 108, 108, 32, 115, 112, 101, 99, 105, 97, 108, 32, 115, 116, 97, 116, 105, 99, 32, 102, 97, 99, 101, 99, 97, 108, 108, 32, 99, 97, 115, 116, 32, 105, 115, 32, 116, 104, 114, 111, 119, 32, 100, 111, 110, 101, 32, 110, 100, 111, 110, 101, 32, 114, 100, 111, 110, 101, 32, 101, 110, 116, 101, 114, 32, 108, 101, 97, 118, 101]), ("ClassWorks$Reader", 257, "-k-iiiij---------------LLLLLLLLLLLLLLLLLPC----FFFFMMMMCC------", [45, 107, 45, 105, 105, 105, 105, 106, 45, 45, 45, 45, 45, 45, 45, 45, 45, 45, 45, 45, 45, 45, 45, 76, 76, 76, 76, 76, 76, 76, 76, 76, 76, 76, 76, 76, 76, 76, 76, 76, 80, 67, 45, 45, 45, 45, 70, 70, 70, 70, 77, 77, 77, 77, 67, 67, 45, 45, 45, 45, 45, 45]), ("ClassWorks$Checker", 120, "               n  s     nn nn nn nn nn n  nn nn nn nn nn a  a  aa aa    n  n  n  n  n  n  nn nn nn nn nn nn r  r  rr rr n     n  nw nnww  C  TC    T              r  r  f     n  R  r  r  ", [32, 32, 32, 32, 32, 32, 32, 32, 32, 32, 32, 32, 32, 32, 32, 110, 32, 32, 115, 32, 32, 32, 32, 32, 110, 110, 32, 110, 110, 32, 110, 110, 32, 110, 110, 32, 110, 110, 32, 110, 32, 32, 110, 110, 32, 110, 110, 32, 110, 110, 32, 110, 110, 32, 110, 110, 32, 97, 32, 32, 97, 32, 32, 97, 97, 32, 97, 97, 32, 32, 32, 32, 110, 32, 32, 110, 32, 32, 110, 32, 32, 110, 32, 32, 110, 32, 32, 110, 32, 32, 110, 110, 32, 110, 110, 32, 110, 110, 32, 110, 110, 32, 110, 110, 32, 110, 110, 32, 114, 32, 32, 114, 32, 32, 114, 114, 32, 114, 114, 32, 110, 32, 32, 32, 32, 32, 110, 32, 32, 110, 119, 32, 110, 110, 119, 119, 32, 32, 67, 32, 32, 84, 67, 32, 32, 32, 32, 84, 32, 32, 32, 32, 32, 32, 32, 32, 32, 32, 32, 32, 32, 32, 114, 32, 32, 114, 32, 32, 102, 32, 32, 32, 32, 32, 110, 32, 32, 82, 32, 32, 114, 32, 32, 114, 32, 32]), ("ClassWorks$Checker", 209, "-k-iiiij---------------LLLLLLLLLLLLLLLLLPC----FFFFMMMMCC------", [45, 107, 45, 105, 105, 105, 105, 106, 45, 45, 45, 45, 45, 45, 45, 45, 45, 45, 45, 45, 45, 45, 45, 76, 76, 76, 76, 76, 76, 76, 76, 76, 76, 76, 76, 76, 76, 76, 76, 76, 80, 67, 45, 45, 45, 45, 70, 70, 70, 70, 77, 77, 77, 77, 67, 67, 45, 45, 45, 45, 45, 45]), ("ClassWorks$Checker", 223, "-nznl---nnnnnnnnnnn----------------------Nwn-nT-T-----Cn------", [45, 110, 122, 110, 108, 45, 45, 45, 110, 110, 110, 110, 110, 110, 110, 110, 110, 110, 110, 45, 45, 45, 45, 45, 45, 45, 45, 45, 45, 45, 45, 45, 45, 45, 45, 45, 45, 45, 45, 45, 45, 78, 119, 110, 45, 110, 84, 45, 84, 45, 45, 45, 45, 45, 67, 110, 45, 45, 45, 45, 45, 45]), ("ClassWorks$Writer", 156, "-k-iiiij---------------LLLLLLLLLLLLLLLLLPC----FFFFMMMMCC------", [45, 107, 45, 105, 105, 105, 105, 106, 45, 45, 45, 45, 45, 45, 45, 45, 45, 45, 45, 45, 45, 45, 45, 76, 76, 76, 76, 76, 76, 76, 76, 76, 76, 76, 76, 76, 76, 76, 76, 76, 80, 67, 45, 45, 45, 45, 70, 70, 70, 70, 77, 77, 77, 77, 67, 67, 45, 45, 45, 45, 45, 45]), ("ClassWorks$Writer", 181, "nop num null nload rload nstore rstore inc add sub mul div rem neg and or xor shl shr pop dup dupx swap", [110, 111, 112, 32, 110, 117, 109, 32, 110, 117, 108, 108, 32, 110, 108, 111, 97, 100, 32, 114, 108, 111, 97, 100, 32, 110, 115, 116, 111, 114, 101, 32, 114, 115, 116, 111, 114, 101, 32, 105, 110, 99, 32, 97, 100, 100, 32, 115, 117, 98, 32, 109, 117, 108, 32, 100, 105, 118, 32, 114, 101, 109, 32, 110, 101, 103, 32, 97, 110, 100, 32, 111, 114, 32, 120, 111, 114, 32, 115, 104, 108, 32, 115, 104, 114, 32, 112, 111, 112, 32, 100, 117, 112, 32, 100, 117, 112, 120, 32, 115, 119, 97, 112]), ("ClassWorks$Writer", 183, "jump if0 ifn0 ifl ifge ifg ifle eq ne lt ge gt le isnull notnull same other pick", [106, 117, 109, 112, 32, 105, 102, 48, 32, 105, 102, 110, 48, 32, 105, 102, 108, 32, 105, 102, 103, 101, 32, 105, 102, 103, 32, 105, 102, 108, 101, 32, 101, 113, 32, 110, 101, 32, 108, 116, 32, 103, 101, 32, 103, 116, 32, 108, 101, 32, 105, 115, 110, 117, 108, 108, 32, 110, 111, 116, 110, 117, 108, 108, 32, 115, 97, 109, 101, 32, 111, 116, 104, 101, 114, 32, 112, 105, 99, 107]), ("ClassWorks$Writer", 185, "new newrow get put size fget fput sget sput call special static facecall cast is throw done ndone rdone enter leave", [110, 101, 119, 32, 110, 101, 119, 114, 111, 119, 32, 103, 101, 116, 32, 112, 117, 116, 32, 115, 105, 122, 101, 32, 102, 103, 101, 116, 32, 102, 112, 117, 116, 32, 115, 103, 101, 116, 32, 115, 112, 117, 116, 32, 99, 97, 108, 108, 32, 115, 112, 101, 99, 105, 97, 108, 32, 115, 116, 97, 116, 105, 99, 32, 102, 97, 99, 101, 99, 97, 108, 108, 32, 99, 97, 115, 116, 32, 105, 115, 32, 116, 104, 114, 111, 119, 32, 100, 111, 110, 101, 32, 110, 100, 111, 110, 101, 32, 114, 100, 111, 110, 101, 32, 101, 110, 116, 101, 114, 32, 108, 101, 97, 118, 101]), ("ClassWorksModel", 140, "<make>", [60, 109, 97, 107, 101, 62]), ("ClassWorksModel", 146, "<start>", [60, 115, 116, 97, 114, 116, 62]), ("ClassWorksModel", 148, "Thing Fault NullFault ZeroFault PlaceFault SizeFault CastFault LockFault DeepFault RoomFault LinkFault ClassFault FieldFault MethodFault AccessFault KindFault RingFault CheckFault BodyFault MakeFault StartFault ", [84, 104, 105, 110, 103, 32, 70, 97, 117, 108, 116, 32, 78, 117, 108, 108, 70, 97, 117, 108, 116, 32, 90, 101, 114, 111, 70, 97, 117, 108, 116, 32, 80, 108, 97, 99, 101, 70, 97, 117, 108, 116, 32, 83, 105, 122, 101, 70, 97, 117, 108, 116, 32, 67, 97, 115, 116, 70, 97, 117, 108, 116, 32, 76, 111, 99, 107, 70, 97, 117, 108, 116, 32, 68, 101, 101, 112, 70, 97, 117, 108, 116, 32, 82, 111, 111, 109, 70, 97, 117, 108, 116, 32, 76, 105, 110, 107, 70, 97, 117, 108, 116, 32, 67, 108, 97, 115, 115, 70, 97, 117, 108, 116, 32, 70, 105, 101, 108, 100, 70, 97, 117, 108, 116, 32, 77, 101, 116, 104, 111, 100, 70, 97, 117, 108, 116, 32, 65, 99, 99, 101, 115, 115, 70, 97, 117, 108, 116, 32, 75, 105, 110, 100, 70, 97, 117, 108, 116, 32, 82, 105, 110, 103, 70, 97, 117, 108, 116, 32, 67, 104, 101, 99, 107, 70, 97, 117, 108, 116, 32, 66, 111, 100, 121, 70, 97, 117, 108, 116, 32, 77, 97, 107, 101, 70, 97, 117, 108, 116, 32, 83, 116, 97, 114, 116, 70, 97, 117, 108, 116, 32]), ("ClassWorksModel", 156, "class", [99, 108, 97, 115, 115]), ("ClassWorksModel", 161, "final", [102, 105, 110, 97, 108]), ("ClassWorksModel", 166, "abstract", [97, 98, 115, 116, 114, 97, 99, 116]), ("ClassWorksModel", 171, "face", [102, 97, 99, 101]), ("ClassWorksModel", 176, "field", [102, 105, 101, 108, 100]), ("ClassWorksModel", 181, "method", [109, 101, 116, 104, 111, 100]), ("ClassWorksModel", 186, "private", [112, 114, 105, 118, 97, 116, 101]), ("ClassWorksModel", 191, "room", [114, 111, 111, 109]), ("ClassWorksModel", 195, "frame", [102, 114, 97, 109, 101]), ("ClassWorksModel", 200, "handle\x72", [104, 97, 110, 100, 108, 101, 114]), ("ClassWorksModel", 205, "end", [101, 110, 100]), ("ClassWorksModel", 210, "row", [114, 111, 119]), ("ClassWorksModel", 215, "none", [110, 111, 110, 101]), ("ClassWorksModel", 220, "unset", [117, 110, 115, 101, 116]), ("ClassWorksModel", 225, "unmade", [117, 110, 109, 97, 100, 101]), ("ClassWorksModel", 230, "any", [97, 110, 121]), ("ClassWorksModel", 235, "run", [114, 117, 110]), ("ClassWorksModel", 240, "nop num null nload rload nstore rstore inc add sub mul div rem neg and or xor shl shr pop dup dupx swap jump if0 ifn0 ifl ifge ifg ifle eq ne lt ge gt le isnull notnull same other pick new newrow get put size fget fput sget sput call special static facecall cast is throw done ndone rdone enter leave ", [110, 111, 112, 32, 110, 117, 109, 32, 110, 117, 108, 108, 32, 110, 108, 111, 97, 100, 32, 114, 108, 111, 97, 100, 32, 110, 115, 116, 111, 114, 101, 32, 114, 115, 116, 111, 114, 101, 32, 105, 110, 99, 32, 97, 100, 100, 32, 115, 117, 98, 32, 109, 117, 108, 32, 100, 105, 118, 32, 114, 101, 109, 32, 110, 101, 103, 32, 97, 110, 100, 32, 111, 114, 32, 120, 111, 114, 32, 115, 104, 108, 32, 115, 104, 114, 32, 112, 111, 112, 32, 100, 117, 112, 32, 100, 117, 112, 120, 32, 115, 119, 97, 112, 32, 106, 117, 109, 112, 32, 105, 102, 48, 32, 105, 102, 110, 48, 32, 105, 102, 108, 32, 105, 102, 103, 101, 32, 105, 102, 103, 32, 105, 102, 108, 101, 32, 101, 113, 32, 110, 101, 32, 108, 116, 32, 103, 101, 32, 103, 116, 32, 108, 101, 32, 105, 115, 110, 117, 108, 108, 32, 110, 111, 116, 110, 117, 108, 108, 32, 115, 97, 109, 101, 32, 111, 116, 104, 101, 114, 32, 112, 105, 99, 107, 32, 110, 101, 119, 32, 110, 101, 119, 114, 111, 119, 32, 103, 101, 116, 32, 112, 117, 116, 32, 115, 105, 122, 101, 32, 102, 103, 101, 116, 32, 102, 112, 117, 116, 32, 115, 103, 101, 116, 32, 115, 112, 117, 116, 32, 99, 97, 108, 108, 32, 115, 112, 101, 99, 105, 97, 108, 32, 115, 116, 97, 116, 105, 99, 32, 102, 97, 99, 101, 99, 97, 108, 108, 32, 99, 97, 115, 116, 32, 105, 115, 32, 116, 104, 114, 111, 119, 32, 100, 111, 110, 101, 32, 110, 100, 111, 110, 101, 32, 114, 100, 111, 110, 101, 32, 101, 110, 116, 101, 114, 32, 108, 101, 97, 118, 101, 32]), ("ClassWorksModel", 269, "stop", [115, 116, 111, 112]), ("ClassWorksModel", 1199, "final ", [102, 105, 110, 97, 108, 32]), ("ClassWorksModel", 1205, "abstract ", [97, 98, 115, 116, 114, 97, 99, 116, 32]), ("ClassWorksModel", 1207, "face ", [102, 97, 99, 101, 32]), ("ClassWorksModel", 1209, "class ", [99, 108, 97, 115, 115, 32]), ("ClassWorksModel", 1211, ": ", [58, 32]), ("ClassWorksModel", 1190, ", ", [44, 32]), ("ClassWorksModel", 1213, " field ", [32, 102, 105, 101, 108, 100, 32]), ("ClassWorksModel", 1226, "static ", [115, 116, 97, 116, 105, 99, 32]), ("ClassWorksModel", 1228, "private ", [112, 114, 105, 118, 97, 116, 101, 32]), ("ClassWorksModel", 1185, "num", [110, 117, 109]), ("ClassWorksModel", 1218, " = ", [32, 61, 32]), ("ClassWorksModel", 1230, " method ", [32, 109, 101, 116, 104, 111, 100, 32]), ("ClassWorksModel", 1192, "", []), ("ClassWorksModel", 1197, ") ", [41, 32]), ("ClassWorksModel", 1235, "  room ", [32, 32, 114, 111, 111, 109, 32]), ("ClassWorksModel", 1249, "  frame", [32, 32, 102, 114, 97, 109, 101]), ("ClassWorksModel", 1247, " ", [32]), ("ClassWorksModel", 1240, "  ", [32, 32]), ("ClassWorksModel", 1245, "  handler ", [32, 32, 104, 97, 110, 100, 108, 101, 114, 32])]
def stb (n : Nat) : List Int32 := (strT.getD n ("", 0, "", [])).2.2.2
def SOK (F : Nat → SL) (sl : List SL) : Prop := ∀ (n : Nat) (q : String × Nat × String × List Int32), strT[n]? = some q → F n ∈ sl ∧ (F n).1 = q.1 ∧ (F n).2.1 = q.2.1 ∧ (F n).2.2.1 = q.2.2.1 ∧ sb (F n) = q.2.2.2
theorem stb_len : ∀ n, n < strT.length → (stb n).length < 2 ^ 30 := by decide +kernel
theorem SOK.at {F : Nat → SL} {sl : List SL} (hF : SOK F sl) {n : Nat} (hn : n < strT.length) : F n ∈ sl ∧ sb (F n) = stb n := by
  have h := hF n _ (List.getElem?_eq_getElem hn)
  refine ⟨h.1, h.2.2.2.2.trans ?_⟩
  show _ = (strT.getD n _).2.2.2
  rw [List.getD_eq_getElem?_getD, List.getElem?_eq_getElem hn]; rfl
def xH (n : Nat) (v : Int32) (K : Int32 → Prop) : Prop := ∃ i : Nat, v = nI i ∧ i < (stb n).length ∧ K ((stb n).getD i 0 &&& 255)
section UT
variable {p : Program} {l : Launch} {e : Env} {R : Room} {s : State} {m : MethodId} {args : Array Value} {below : List Frame} {meth : Method} {c : Code} {H : Heap} {locs : List Loc} {cells slots : Nat} {Q : State → Prop}
variable {cc : ByteArray} {pc : Nat} {ls : Array Slot} {rest : List Value} {A0 : Nat → Prop} {D : va_G} {y0 : MethodName} {nL : Nat} {r0 : Option FieldType} {g : Nat → ClassId} {sl : List SL} {ad : Nat → Nat} {y : Ly} {σ : St} {a : Nat} {F : Nat → SL}
theorem uldc {n index : Nat} {tx : String} {bs : List Int32} (hF : SOK F sl) (hn : strT[n]? = some (y0.cls, index, tx, bs)) (G : GV l p s m args meth c y0 cc nL r0 g D sl A0) (hdg : decode cc pc = .ok (.ldc index, 2))
    (kk : W p l e R s m args below meth c H locs cells slots Q (F0 m (pc + 2) ls (.ref (sk (F n)) :: rest))) : W p l e R s m args below meth c H locs cells slots Q (F0 m pc ls rest) := by
  obtain ⟨hx, h1, h2, h3, h4⟩ := hF n _ hn
  have hS1 := (G.2.2.2.2.2.2.2.2.2.2.1.2 (F n) hx).1
  rw [h1, h2, h3] at hS1
  exact va_ldcS G.1 G.2.1 G.2.2.2.2.2.2.1 hS1 hdg kk
theorem uldcw {n index : Nat} {tx : String} {bs : List Int32} (hF : SOK F sl) (hn : strT[n]? = some (y0.cls, index, tx, bs)) (G : GV l p s m args meth c y0 cc nL r0 g D sl A0) (hdg : decode cc pc = .ok (.ldc_w index, 3))
    (kk : W p l e R s m args below meth c H locs cells slots Q (F0 m (pc + 3) ls (.ref (sk (F n)) :: rest))) : W p l e R s m args below meth c H locs cells slots Q (F0 m pc ls rest) := by
  obtain ⟨hx, h1, h2, h3, h4⟩ := hF n _ hn
  have hS1 := (G.2.2.2.2.2.2.2.2.2.2.1.2 (F n) hx).1
  rw [h1, h2, h3] at hS1
  exact va_ldcwS G.1 G.2.1 G.2.2.2.2.2.2.1 hS1 hdg kk
theorem uchar {n index : Nat} {v : Int32} {K : Int32 → Prop} (hF : SOK F sl) (hn : n < strT.length) (G : GV l p s m args meth c y0 cc nL r0 g D sl A0) (hP : va_P D CL (ws g ad y σ) H) (hD : va_D A0 (ws g ad y σ)) (hS : va_S A0 s.heap H locs) (h : xH n v K) (w : CWv y_Js_charAt b_Js_charAt 2 (some (.char)) 1 ∧ Cond.instanceMethod y_Js_charAt ∈ lw_ok ∧ Cond.selects y_Js_charAt.cls y_Js_charAt y_Js_charAt ∈ lw_ok) (hl : Cond.methodLink y0.cls index y_Js_charAt ∈ lw_ok) (hR : rm_Js_charAt.frames + 1 ≤ R.frames ∧ 8 + (2 + 11) + rm_Js_charAt.locals ≤ R.locals) (hsz : ls.size = nL) (hroom : (rest.map fun v => v.category).sum ≤ 8) (hf : cells + 0 ≤ R.cells ∧ slots + 0 ≤ R.slots) (hdg : decode cc pc = .ok (.invokevirtual index, 3))
    (kk : ∀ (x : Int32) (H1 : Heap) (locs1 : List Loc), K x → va_P D CL (ws g ad y σ) H1 → va_D A0 (ws g ad y σ) → va_S A0 s.heap H1 locs1 → W p l e R s m args below meth c H1 locs1 cells slots Q (F0 m (pc + 3) ls (.int x :: rest))) : W p l e R s m args below meth c H locs cells slots Q (F0 m pc ls (.int v :: .ref (sk (F n)) :: rest)) := by
  obtain ⟨i, rfl, hi, hk⟩ := h
  obtain ⟨hx, hb⟩ := hF.at hn
  have hS1 := G.2.2.2.2.2.2.2.2.2.2.1.2 (F n) hx
  have hM := c_Js_charAt l D g (F n) i H.size (by rw [hb]; exact hi) (by rw [hb]; exact stb_len n hn)
  refine kEi (wr := ws g ad y σ) G (kVr (As := [.int (nI i)]) (rest := rest) G hP hD hS [] rfl rfl hM w hl rfl rfl hR (fun z hz => by rw [List.mem_singleton.mp hz]; exact hx) (S1.recv hS1 hS) hsz rfl hroom rfl hf hdg) hP hD hS [] (List.range cL.length) rfl ws_all cL_nd (by decide +kernel) (fun r u H1 locs1 hw hP1 hD1 hS1 hz => ?_)
  rw [List.append_nil] at hP1 hD1
  rw [hb] at hw
  subst hw
  exact kk _ H1 locs1 hk hP1 hD1 hS1
theorem ulen {n index : Nat} (hF : SOK F sl) (hn : n < strT.length) (G : GV l p s m args meth c y0 cc nL r0 g D sl A0) (hP : va_P D CL (ws g ad y σ) H) (hD : va_D A0 (ws g ad y σ)) (hS : va_S A0 s.heap H locs) (w : CWv y_Js_length b_Js_length 1 (some .int) 0 ∧ Cond.instanceMethod y_Js_length ∈ lw_ok ∧ Cond.selects y_Js_length.cls y_Js_length y_Js_length ∈ lw_ok) (hl : Cond.methodLink y0.cls index y_Js_length ∈ lw_ok) (hR : rm_Js_length.frames + 1 ≤ R.frames ∧ 8 + (1 + 11) + rm_Js_length.locals ≤ R.locals) (hsz : ls.size = nL) (hroom : (rest.map fun v => v.category).sum ≤ 8) (hf : cells + 0 ≤ R.cells ∧ slots + 0 ≤ R.slots) (hdg : decode cc pc = .ok (.invokevirtual index, 3))
    (kk : ∀ (H1 : Heap) (locs1 : List Loc), va_P D CL (ws g ad y σ) H1 → va_D A0 (ws g ad y σ) → va_S A0 s.heap H1 locs1 → W p l e R s m args below meth c H1 locs1 cells slots Q (F0 m (pc + 3) ls (.int (nI (stb n).length) :: rest))) : W p l e R s m args below meth c H locs cells slots Q (F0 m pc ls (.ref (sk (F n)) :: rest)) := by
  obtain ⟨hx, hb⟩ := hF.at hn
  have hS1 := G.2.2.2.2.2.2.2.2.2.2.1.2 (F n) hx
  have hM := c_Js_length l D g (F n) H.size
  refine kEi (wr := ws g ad y σ) G (kVr (As := []) (rest := rest) G hP hD hS [] rfl rfl hM w hl rfl rfl hR (fun z hz => by rw [List.mem_singleton.mp hz]; exact hx) (S1.recv hS1 hS) hsz rfl hroom rfl hf hdg) hP hD hS [] (List.range cL.length) rfl ws_all cL_nd (by decide +kernel) (fun r u H1 locs1 hw hP1 hD1 hS1 hz => ?_)
  rw [List.append_nil] at hP1 hD1
  rw [hb] at hw
  subst hw
  exact kk H1 locs1 hP1 hD1 hS1
theorem ucpl {k a2 k2 index : Nat} {sp dp n : Int32} {K : St → Prop} (G : GV l p s m args meth c y0 cc nL r0 g D sl A0) (hP : va_P D CL (ws g ad y σ) H) (hD : va_D A0 (ws g ad y σ)) (hS : va_S A0 s.heap H locs) (hkd : kd (cl a) k = 3) (hty : tyx (cl a) k = 2) (hkd2 : kd (cl a2) k2 = 3) (hty2 : tyx (cl a2) k2 = 2) (h : xD y σ a k a2 k2 sp dp n K) (hsz : ls.size = nL)
    (ql : Cond.methodLink y0.cls index arraycopyName ∈ lw_ok) (qn : Cond.native arraycopyName ∈ lw_ok) (qs : Cond.static arraycopyName ∈ lw_ok) (qi : Cond.initialized "java/lang/System" ∈ lw_ok) (hfr : 1 ≤ R.frames) (hlo : (rest.map fun v => v.category).sum + (nativeFrameWords "java/lang/System" "arraycopy" 5 + 11) ≤ R.locals) (hdg : decode cc pc = .ok (.invokestatic index, 3))
    (kk : ∀ (σ1 : St) (H1 : Heap) (locs1 : List Loc), K σ1 → va_P D CL (ws g ad y σ1) H1 → va_D A0 (ws g ad y σ1) → va_S A0 s.heap H1 locs1 → W p l e R s m args below meth c H1 locs1 cells slots Q (F0 m (pc + 3) ls rest)) : W p l e R s m args below meth c H locs cells slots Q (F0 m pc ls (.int n :: .int dp :: .ref (yP y a2 k2) :: .int sp :: .ref (yP y a k) :: rest)) := by
  obtain ⟨i, j, t, rfl, rfl, rfl, h1, h2, h3, h4, hk⟩ := h
  obtain ⟨q0, hq, hne, he⟩ := row_at (g := g) (ad := ad) (y := y) (σ0 := σ) hkd (by decide) (by decide) hty
  obtain ⟨q1, hq1, hne1, he1⟩ := row_at (g := g) (ad := ad) (y := y) (σ0 := σ) hkd2 (by decide) (by decide) hty2
  have ei : (nI i).toNatClampNeg = i := nI_clamp (by omega)
  have ej : (nI j).toNatClampNeg = j := nI_clamp (by omega)
  have et : (nI t).toNatClampNeg = t := nI_clamp (by omega)
  refine va_copyl (ty := .long) (n0 := yN y a k) (n1 := yN y a2 k2) (f := sB σ a k) (g := sB σ a2 k2) G.1 G.2.1 (G.2.2.1.trans hsz.symm) G.2.2.2.2.2.2.1 (G.2.2.2.2.2.1 _ ql) (G.2.2.2.2.2.1 _ qn) (G.2.2.2.2.2.1 _ qs) (G.2.2.2.2.2.1 _ qi) G.2.2.2.2.2.2.2.2.1 hP hD hS q0 q1 2 2 he he1 rfl rfl rfl (nI_pos (by omega)) (nI_pos (by omega)) (nI_pos (by omega)) (by rw [ei, et]; exact h1) (by rw [ej, et]; exact h2) (fun _ _ => rfl) hfr hlo hdg (fun H1 locs1 hP1 hD1 hS1 => ?_)
  rw [ei, ej, et] at hP1 hD1
  have hw := ws_row (g := g) (ad := ad) (y := y) (σ := σ) (σ' := uE σ a2 k2 (va_cpy (sB σ a k) (sB σ a2 k2) i j t)) hne1 hq1 rfl rowB.1 rowB.2
  rw [hty2, hkd2] at hw
  have hv : rwd ad y (uE σ a2 k2 (va_cpy (sB σ a k) (sB σ a2 k2) i j t)) a2 k2 3 = (yN y a2 k2, .inr (.inl (va_cpy (sB σ a k) (sB σ a2 k2) i j t))) := by
    show (yN y a2 k2, Sum.inr (Sum.inl (w2 σ.2.2.2.1 a2 k2 _ a2 k2))) = _
    rw [w2_eq]
  rw [hv] at hw
  rw [hw] at hP1 hD1
  exact kk _ H1 locs1 hk hP1 hD1 hS1
end UT
section US9
variable {p : Program} {l : Launch} {e : Env} {R : Room} {s : State} {m : MethodId} {args : Array Value} {below : List Frame} {meth : Method} {c : Code} {H : Heap} {locs : List Loc} {cells slots : Nat} {Q : State → Prop}
variable {cc : ByteArray} {pc nL : Nat} {ls : Array Slot} {rest st : List Value} {A0 : Nat → Prop} {y0 y1 : MethodName} {bytes : ByteArray} {maxL index : Nat} {ret r0 : Option FieldType} {rm : Room} {g : Nat → ClassId} {D : va_G} {sl : List SL} {As : List Value} {ad : Nat → Nat} {y : Ly} {σ : St} {b ci : Nat} {q : vw_C}
theorem usVi {n : Nat} {Post : St → Int32 → Prop} (G : GV l p s m args meth c y0 cc nL r0 g D sl A0) (hP : va_P D CL (ws g ad y σ) H) (hD : va_D A0 (ws g ad y σ)) (hS : va_S A0 s.heap H locs)
    (hM : Met l y1 (mw y1 bytes maxL ret) rm (PC g D sl (.ref (ad b) :: As) H.size (ws g ad y σ)) (va_Qi (fun (r : Int32) (u : St) => Post u r) (QW D (va_A (ws g ad y σ) H.size) (fun u => ws g ad y u)) (va_A (ws g ad y σ) H.size)) 0 0 (va_A (ws g ad y σ) H.size))
    (w : CWv y1 bytes maxL ret n ∧ Cond.instanceMethod y1 ∈ lw_ok ∧ Cond.selects y1.cls y1 y1 ∈ lw_ok) (hl : Cond.methodLink y0.cls index y1 ∈ lw_ok) (hR : rm.frames + 1 ≤ R.frames ∧ 8 + (maxL + 11) + rm.locals ≤ R.locals) (hrc : rm.cells = 0) (hrs : rm.slots = 0) (hcl : cl b = ci) (hc : CL[ci]? = some q) (hqc : q.1 = y1.cls) (hsz : ls.size = nL) (hst : st = As.reverse ++ .ref (ad b) :: rest) (hroom : (rest.map fun v => v.category).sum ≤ 8) (hn : As.length = n) (hf : cells + 0 ≤ R.cells ∧ slots + 0 ≤ R.slots) (hdg : decode cc pc = .ok (.invokevirtual index, 3))
    (kk : ∀ (r : Int32) (σ1 : St) (H1 : Heap) (locs1 : List Loc), Post σ1 r → va_P D CL (ws g ad y σ1) H1 → va_D A0 (ws g ad y σ1) → va_S A0 s.heap H1 locs1 → W p l e R s m args below meth c H1 locs1 cells slots Q (F0 m (pc + 3) ls (.int r :: rest))) : W p l e R s m args below meth c H locs cells slots Q (F0 m pc ls st) := by
  have h99 : cl b ≠ 99 := fun z => by rw [hcl] at z; subst z; simp at hc
  obtain ⟨q0, -, he⟩ := ws_at (g := g) (ad := ad) (y := y) (σ := σ) (mem_obj h99)
  rw [clv_o hcl] at he
  refine kEi (wr := []) G (kV (As := As) (rest := rest) G hP hD hS (List.range cL.length) ws_all cL_nd hM w hl hrc hrs hR (fun _ h => h) q0 hc hqc he hsz hst hroom hn hf hdg) hP hD hS (List.range cL.length) [] ws_all rfl rfl rfl (fun r u H1 locs1 hw hP1 hD1 hS1 hz => ?_)
  exact kk r u H1 locs1 hw hP1 hD1 hS1
theorem usVv {n : Nat} {Post : St →  Prop} (G : GV l p s m args meth c y0 cc nL r0 g D sl A0) (hP : va_P D CL (ws g ad y σ) H) (hD : va_D A0 (ws g ad y σ)) (hS : va_S A0 s.heap H locs)
    (hM : Met l y1 (mw y1 bytes maxL ret) rm (PC g D sl (.ref (ad b) :: As) H.size (ws g ad y σ)) (va_Qv (fun u : St => Post u) (QW D (va_A (ws g ad y σ) H.size) (fun u => ws g ad y u)) (va_A (ws g ad y σ) H.size)) 0 0 (va_A (ws g ad y σ) H.size))
    (w : CWv y1 bytes maxL ret n ∧ Cond.instanceMethod y1 ∈ lw_ok ∧ Cond.selects y1.cls y1 y1 ∈ lw_ok) (hl : Cond.methodLink y0.cls index y1 ∈ lw_ok) (hR : rm.frames + 1 ≤ R.frames ∧ 8 + (maxL + 11) + rm.locals ≤ R.locals) (hrc : rm.cells = 0) (hrs : rm.slots = 0) (hcl : cl b = ci) (hc : CL[ci]? = some q) (hqc : q.1 = y1.cls) (hsz : ls.size = nL) (hst : st = As.reverse ++ .ref (ad b) :: rest) (hroom : (rest.map fun v => v.category).sum ≤ 8) (hn : As.length = n) (hf : cells + 0 ≤ R.cells ∧ slots + 0 ≤ R.slots) (hdg : decode cc pc = .ok (.invokevirtual index, 3))
    (kk : ∀ (σ1 : St) (H1 : Heap) (locs1 : List Loc), Post σ1 → va_P D CL (ws g ad y σ1) H1 → va_D A0 (ws g ad y σ1) → va_S A0 s.heap H1 locs1 → W p l e R s m args below meth c H1 locs1 cells slots Q (F0 m (pc + 3) ls (rest))) : W p l e R s m args below meth c H locs cells slots Q (F0 m pc ls st) := by
  have h99 : cl b ≠ 99 := fun z => by rw [hcl] at z; subst z; simp at hc
  obtain ⟨q0, -, he⟩ := ws_at (g := g) (ad := ad) (y := y) (σ := σ) (mem_obj h99)
  rw [clv_o hcl] at he
  refine kEv (wr := []) G (kV (As := As) (rest := rest) G hP hD hS (List.range cL.length) ws_all cL_nd hM w hl hrc hrs hR (fun _ h => h) q0 hc hqc he hsz hst hroom hn hf hdg) hP hD hS (List.range cL.length) [] ws_all rfl rfl rfl (fun u H1 locs1 hw hP1 hD1 hS1 hz => ?_)
  exact kk u H1 locs1 hw hP1 hD1 hS1
theorem usVl {n : Nat} {Post : St → Int64 → Prop} (G : GV l p s m args meth c y0 cc nL r0 g D sl A0) (hP : va_P D CL (ws g ad y σ) H) (hD : va_D A0 (ws g ad y σ)) (hS : va_S A0 s.heap H locs)
    (hM : Met l y1 (mw y1 bytes maxL ret) rm (PC g D sl (.ref (ad b) :: As) H.size (ws g ad y σ)) (va_Ql (fun (r : Int64) (u : St) => Post u r) (QW D (va_A (ws g ad y σ) H.size) (fun u => ws g ad y u)) (va_A (ws g ad y σ) H.size)) 0 0 (va_A (ws g ad y σ) H.size))
    (w : CWv y1 bytes maxL ret n ∧ Cond.instanceMethod y1 ∈ lw_ok ∧ Cond.selects y1.cls y1 y1 ∈ lw_ok) (hl : Cond.methodLink y0.cls index y1 ∈ lw_ok) (hR : rm.frames + 1 ≤ R.frames ∧ 8 + (maxL + 11) + rm.locals ≤ R.locals) (hrc : rm.cells = 0) (hrs : rm.slots = 0) (hcl : cl b = ci) (hc : CL[ci]? = some q) (hqc : q.1 = y1.cls) (hsz : ls.size = nL) (hst : st = As.reverse ++ .ref (ad b) :: rest) (hroom : (rest.map fun v => v.category).sum ≤ 8) (hn : As.length = n) (hf : cells + 0 ≤ R.cells ∧ slots + 0 ≤ R.slots) (hdg : decode cc pc = .ok (.invokevirtual index, 3))
    (kk : ∀ (r : Int64) (σ1 : St) (H1 : Heap) (locs1 : List Loc), Post σ1 r → va_P D CL (ws g ad y σ1) H1 → va_D A0 (ws g ad y σ1) → va_S A0 s.heap H1 locs1 → W p l e R s m args below meth c H1 locs1 cells slots Q (F0 m (pc + 3) ls (.long r :: rest))) : W p l e R s m args below meth c H locs cells slots Q (F0 m pc ls st) := by
  have h99 : cl b ≠ 99 := fun z => by rw [hcl] at z; subst z; simp at hc
  obtain ⟨q0, -, he⟩ := ws_at (g := g) (ad := ad) (y := y) (σ := σ) (mem_obj h99)
  rw [clv_o hcl] at he
  refine kEl (wr := []) G (kV (As := As) (rest := rest) G hP hD hS (List.range cL.length) ws_all cL_nd hM w hl hrc hrs hR (fun _ h => h) q0 hc hqc he hsz hst hroom hn hf hdg) hP hD hS (List.range cL.length) [] ws_all rfl rfl rfl (fun r u H1 locs1 hw hP1 hD1 hS1 hz => ?_)
  exact kk r u H1 locs1 hw hP1 hD1 hS1
theorem usVq {n : Nat} {Post : St → Option Nat → Prop} (G : GV l p s m args meth c y0 cc nL r0 g D sl A0) (hP : va_P D CL (ws g ad y σ) H) (hD : va_D A0 (ws g ad y σ)) (hS : va_S A0 s.heap H locs)
    (hM : Met l y1 (mw y1 bytes maxL ret) rm (PC g D sl (.ref (ad b) :: As) H.size (ws g ad y σ)) (va_Qq (fun (r : Option Nat) (u : St) => ∃ o : Option Nat, r = o.map ad ∧ Post u o) (QW D (va_A (ws g ad y σ) H.size) (fun u => ws g ad y u)) (va_A (ws g ad y σ) H.size)) 0 0 (va_A (ws g ad y σ) H.size))
    (w : CWv y1 bytes maxL ret n ∧ Cond.instanceMethod y1 ∈ lw_ok ∧ Cond.selects y1.cls y1 y1 ∈ lw_ok) (hl : Cond.methodLink y0.cls index y1 ∈ lw_ok) (hR : rm.frames + 1 ≤ R.frames ∧ 8 + (maxL + 11) + rm.locals ≤ R.locals) (hrc : rm.cells = 0) (hrs : rm.slots = 0) (hcl : cl b = ci) (hc : CL[ci]? = some q) (hqc : q.1 = y1.cls) (hsz : ls.size = nL) (hst : st = As.reverse ++ .ref (ad b) :: rest) (hroom : (rest.map fun v => v.category).sum ≤ 8) (hn : As.length = n) (hf : cells + 0 ≤ R.cells ∧ slots + 0 ≤ R.slots) (hdg : decode cc pc = .ok (.invokevirtual index, 3))
    (kk : ∀ (r : Option Nat) (σ1 : St) (H1 : Heap) (locs1 : List Loc), Post σ1 r → va_P D CL (ws g ad y σ1) H1 → va_D A0 (ws g ad y σ1) → va_S A0 s.heap H1 locs1 → W p l e R s m args below meth c H1 locs1 cells slots Q (F0 m (pc + 3) ls (va_rf (r.map ad) :: rest))) : W p l e R s m args below meth c H locs cells slots Q (F0 m pc ls st) := by
  have h99 : cl b ≠ 99 := fun z => by rw [hcl] at z; subst z; simp at hc
  obtain ⟨q0, -, he⟩ := ws_at (g := g) (ad := ad) (y := y) (σ := σ) (mem_obj h99)
  rw [clv_o hcl] at he
  refine kEq (wr := []) G (kV (As := As) (rest := rest) G hP hD hS (List.range cL.length) ws_all cL_nd hM w hl hrc hrs hR (fun _ h => h) q0 hc hqc he hsz hst hroom hn hf hdg) hP hD hS (List.range cL.length) [] ws_all rfl rfl rfl (fun r u H1 locs1 hw hP1 hD1 hS1 hz => ?_)
  obtain ⟨o, rfl, hw⟩ := hw
  exact kk o u H1 locs1 hw hP1 hD1 hS1
theorem usSi {n : Nat} {Post : St → Int32 → Prop} (G : GV l p s m args meth c y0 cc nL r0 g D sl A0) (hP : va_P D CL (ws g ad y σ) H) (hD : va_D A0 (ws g ad y σ)) (hS : va_S A0 s.heap H locs)
    (hM : Met l y1 (mw y1 bytes maxL ret) rm (PC g D sl As H.size (ws g ad y σ)) (va_Qi (fun (r : Int32) (u : St) => Post u r) (QW D (va_A (ws g ad y σ) H.size) (fun u => ws g ad y u)) (va_A (ws g ad y σ) H.size)) 0 0 (va_A (ws g ad y σ) H.size))
    (w : CWv y1 bytes maxL ret n ∧ Cond.static y1 ∈ lw_ok) (hl : Cond.methodLink y0.cls index y1 ∈ lw_ok) (hR : rm.frames + 1 ≤ R.frames ∧ 8 + (maxL + 11) + rm.locals ≤ R.locals) (hrc : rm.cells = 0) (hrs : rm.slots = 0) (hsz : ls.size = nL) (hst : st = As.reverse ++ rest) (hroom : (rest.map fun v => v.category).sum ≤ 8) (hn : As.length = n) (hf : cells + 0 ≤ R.cells ∧ slots + 0 ≤ R.slots) (hdg : decode cc pc = .ok (.invokestatic index, 3))
    (kk : ∀ (r : Int32) (σ1 : St) (H1 : Heap) (locs1 : List Loc), Post σ1 r → va_P D CL (ws g ad y σ1) H1 → va_D A0 (ws g ad y σ1) → va_S A0 s.heap H1 locs1 → W p l e R s m args below meth c H1 locs1 cells slots Q (F0 m (pc + 3) ls (.int r :: rest))) : W p l e R s m args below meth c H locs cells slots Q (F0 m pc ls st) := by
  refine kEi (wr := []) G (kS (As := As) (rest := rest) G hP hD hS (List.range cL.length) ws_all cL_nd hM w hl hrc hrs hR (fun _ h => h) hsz hst hroom hn hf hdg) hP hD hS (List.range cL.length) [] ws_all rfl rfl rfl (fun r u H1 locs1 hw hP1 hD1 hS1 hz => ?_)
  exact kk r u H1 locs1 hw hP1 hD1 hS1
theorem usSv {n : Nat} {Post : St →  Prop} (G : GV l p s m args meth c y0 cc nL r0 g D sl A0) (hP : va_P D CL (ws g ad y σ) H) (hD : va_D A0 (ws g ad y σ)) (hS : va_S A0 s.heap H locs)
    (hM : Met l y1 (mw y1 bytes maxL ret) rm (PC g D sl As H.size (ws g ad y σ)) (va_Qv (fun u : St => Post u) (QW D (va_A (ws g ad y σ) H.size) (fun u => ws g ad y u)) (va_A (ws g ad y σ) H.size)) 0 0 (va_A (ws g ad y σ) H.size))
    (w : CWv y1 bytes maxL ret n ∧ Cond.static y1 ∈ lw_ok) (hl : Cond.methodLink y0.cls index y1 ∈ lw_ok) (hR : rm.frames + 1 ≤ R.frames ∧ 8 + (maxL + 11) + rm.locals ≤ R.locals) (hrc : rm.cells = 0) (hrs : rm.slots = 0) (hsz : ls.size = nL) (hst : st = As.reverse ++ rest) (hroom : (rest.map fun v => v.category).sum ≤ 8) (hn : As.length = n) (hf : cells + 0 ≤ R.cells ∧ slots + 0 ≤ R.slots) (hdg : decode cc pc = .ok (.invokestatic index, 3))
    (kk : ∀ (σ1 : St) (H1 : Heap) (locs1 : List Loc), Post σ1 → va_P D CL (ws g ad y σ1) H1 → va_D A0 (ws g ad y σ1) → va_S A0 s.heap H1 locs1 → W p l e R s m args below meth c H1 locs1 cells slots Q (F0 m (pc + 3) ls (rest))) : W p l e R s m args below meth c H locs cells slots Q (F0 m pc ls st) := by
  refine kEv (wr := []) G (kS (As := As) (rest := rest) G hP hD hS (List.range cL.length) ws_all cL_nd hM w hl hrc hrs hR (fun _ h => h) hsz hst hroom hn hf hdg) hP hD hS (List.range cL.length) [] ws_all rfl rfl rfl (fun u H1 locs1 hw hP1 hD1 hS1 hz => ?_)
  exact kk u H1 locs1 hw hP1 hD1 hS1
theorem usSl {n : Nat} {Post : St → Int64 → Prop} (G : GV l p s m args meth c y0 cc nL r0 g D sl A0) (hP : va_P D CL (ws g ad y σ) H) (hD : va_D A0 (ws g ad y σ)) (hS : va_S A0 s.heap H locs)
    (hM : Met l y1 (mw y1 bytes maxL ret) rm (PC g D sl As H.size (ws g ad y σ)) (va_Ql (fun (r : Int64) (u : St) => Post u r) (QW D (va_A (ws g ad y σ) H.size) (fun u => ws g ad y u)) (va_A (ws g ad y σ) H.size)) 0 0 (va_A (ws g ad y σ) H.size))
    (w : CWv y1 bytes maxL ret n ∧ Cond.static y1 ∈ lw_ok) (hl : Cond.methodLink y0.cls index y1 ∈ lw_ok) (hR : rm.frames + 1 ≤ R.frames ∧ 8 + (maxL + 11) + rm.locals ≤ R.locals) (hrc : rm.cells = 0) (hrs : rm.slots = 0) (hsz : ls.size = nL) (hst : st = As.reverse ++ rest) (hroom : (rest.map fun v => v.category).sum ≤ 8) (hn : As.length = n) (hf : cells + 0 ≤ R.cells ∧ slots + 0 ≤ R.slots) (hdg : decode cc pc = .ok (.invokestatic index, 3))
    (kk : ∀ (r : Int64) (σ1 : St) (H1 : Heap) (locs1 : List Loc), Post σ1 r → va_P D CL (ws g ad y σ1) H1 → va_D A0 (ws g ad y σ1) → va_S A0 s.heap H1 locs1 → W p l e R s m args below meth c H1 locs1 cells slots Q (F0 m (pc + 3) ls (.long r :: rest))) : W p l e R s m args below meth c H locs cells slots Q (F0 m pc ls st) := by
  refine kEl (wr := []) G (kS (As := As) (rest := rest) G hP hD hS (List.range cL.length) ws_all cL_nd hM w hl hrc hrs hR (fun _ h => h) hsz hst hroom hn hf hdg) hP hD hS (List.range cL.length) [] ws_all rfl rfl rfl (fun r u H1 locs1 hw hP1 hD1 hS1 hz => ?_)
  exact kk r u H1 locs1 hw hP1 hD1 hS1
theorem usSq {n : Nat} {Post : St → Option Nat → Prop} (G : GV l p s m args meth c y0 cc nL r0 g D sl A0) (hP : va_P D CL (ws g ad y σ) H) (hD : va_D A0 (ws g ad y σ)) (hS : va_S A0 s.heap H locs)
    (hM : Met l y1 (mw y1 bytes maxL ret) rm (PC g D sl As H.size (ws g ad y σ)) (va_Qq (fun (r : Option Nat) (u : St) => ∃ o : Option Nat, r = o.map ad ∧ Post u o) (QW D (va_A (ws g ad y σ) H.size) (fun u => ws g ad y u)) (va_A (ws g ad y σ) H.size)) 0 0 (va_A (ws g ad y σ) H.size))
    (w : CWv y1 bytes maxL ret n ∧ Cond.static y1 ∈ lw_ok) (hl : Cond.methodLink y0.cls index y1 ∈ lw_ok) (hR : rm.frames + 1 ≤ R.frames ∧ 8 + (maxL + 11) + rm.locals ≤ R.locals) (hrc : rm.cells = 0) (hrs : rm.slots = 0) (hsz : ls.size = nL) (hst : st = As.reverse ++ rest) (hroom : (rest.map fun v => v.category).sum ≤ 8) (hn : As.length = n) (hf : cells + 0 ≤ R.cells ∧ slots + 0 ≤ R.slots) (hdg : decode cc pc = .ok (.invokestatic index, 3))
    (kk : ∀ (r : Option Nat) (σ1 : St) (H1 : Heap) (locs1 : List Loc), Post σ1 r → va_P D CL (ws g ad y σ1) H1 → va_D A0 (ws g ad y σ1) → va_S A0 s.heap H1 locs1 → W p l e R s m args below meth c H1 locs1 cells slots Q (F0 m (pc + 3) ls (va_rf (r.map ad) :: rest))) : W p l e R s m args below meth c H locs cells slots Q (F0 m pc ls st) := by
  refine kEq (wr := []) G (kS (As := As) (rest := rest) G hP hD hS (List.range cL.length) ws_all cL_nd hM w hl hrc hrs hR (fun _ h => h) hsz hst hroom hn hf hdg) hP hD hS (List.range cL.length) [] ws_all rfl rfl rfl (fun r u H1 locs1 hw hP1 hD1 hS1 hz => ?_)
  obtain ⟨o, rfl, hw⟩ := hw
  exact kk o u H1 locs1 hw hP1 hD1 hS1
end US9

section UA9
variable {p : Program} {l : Launch} {e : Env} {R : Room} {s : State} {m : MethodId} {args : Array Value} {below : List Frame} {meth : Method} {c : Code} {H : Heap} {locs : List Loc} {cells slots mc ms : Nat} {Q : State → Prop}
variable {cc : ByteArray} {pc nL : Nat} {ls : Array Slot} {rest st : List Value} {A0 : Nat → Prop} {y0 y1 : MethodName} {bytes : ByteArray} {maxL index : Nat} {ret r0 : Option FieldType} {rm : Room} {g : Nat → ClassId} {D : va_G} {sl : List SL} {As : List Value} {ad : Nat → Nat} {y : Ly} {σ : St} {b ci : Nat} {q : vw_C}
theorem utVi {n : Nat} {Post : Ly → St → Int32 → Nat → Nat → Prop} (G : GV l p s m args meth c y0 cc nL r0 g D sl A0) (hP : va_P D CL (ws g ad y σ) H) (hD : va_D A0 (ws g ad y σ)) (hS : va_S A0 s.heap H locs)
    (hM : Met l y1 (mw y1 bytes maxL ret) rm (PCu g D sl (.ref (ad b) :: As) H.size (us H) (ws g ad y σ)) (va_Qi (fun (r : Int32) (u : Ly × St × Nat × Nat) => Post u.1 u.2.1 r u.2.2.1 u.2.2.2) (QU D (va_A (ws g ad y σ) H.size) (fun u => ws g ad u.1 u.2.1) H.size (us H) (fun u => u.2.2.1) (fun u => u.2.2.2)) (va_A (ws g ad y σ) H.size)) mc ms (va_A (ws g ad y σ) H.size))
    (w : CWv y1 bytes maxL ret n ∧ Cond.instanceMethod y1 ∈ lw_ok ∧ Cond.selects y1.cls y1 y1 ∈ lw_ok) (hl : Cond.methodLink y0.cls index y1 ∈ lw_ok) (hR : rm.frames + 1 ≤ R.frames ∧ 8 + (maxL + 11) + rm.locals ≤ R.locals) (hrc : rm.cells = mc) (hrs : rm.slots = ms) (hcl : cl b = ci) (hc : CL[ci]? = some q) (hqc : q.1 = y1.cls) (hsz : ls.size = nL) (hst : st = As.reverse ++ .ref (ad b) :: rest) (hroom : (rest.map fun v => v.category).sum ≤ 8) (hn : As.length = n) (hf : cells + mc ≤ R.cells ∧ slots + ms ≤ R.slots) (hdg : decode cc pc = .ok (.invokevirtual index, 3))
    (kk : ∀ (r : Int32) (y2 : Ly) (σ1 : St) (d1 d2 : Nat) (H1 : Heap) (locs1 : List Loc), Post y2 σ1 r d1 d2 → va_P D CL (ws g ad y2 σ1) H1 → va_D A0 (ws g ad y2 σ1) → va_S A0 s.heap H1 locs1 → W p l e R s m args below meth c H1 locs1 (cells + d1) (slots + d2) Q (F0 m (pc + 3) ls (.int r :: rest))) : W p l e R s m args below meth c H locs cells slots Q (F0 m pc ls st) := by
  have h99 : cl b ≠ 99 := fun z => by rw [hcl] at z; subst z; simp at hc
  obtain ⟨q0, -, he⟩ := ws_at (g := g) (ad := ad) (y := y) (σ := σ) (mem_obj h99)
  rw [clv_o hcl] at he
  refine kEiu (wr := []) G (kVu (As := As) (rest := rest) G hP hD hS (List.range cL.length) ws_all cL_nd hM w hl hrc hrs hR (fun _ h => h) q0 hc hqc he hsz hst hroom hn hf hdg) hP hD hS (List.range cL.length) [] ws_all rfl rfl rfl (fun r u H1 locs1 hw hP1 hD1 hS1 hz => ?_)
  exact kk r u.1 u.2.1 u.2.2.1 u.2.2.2 H1 locs1 hw hP1 hD1 hS1
theorem utVv {n : Nat} {Post : Ly → St →  Nat → Nat → Prop} (G : GV l p s m args meth c y0 cc nL r0 g D sl A0) (hP : va_P D CL (ws g ad y σ) H) (hD : va_D A0 (ws g ad y σ)) (hS : va_S A0 s.heap H locs)
    (hM : Met l y1 (mw y1 bytes maxL ret) rm (PCu g D sl (.ref (ad b) :: As) H.size (us H) (ws g ad y σ)) (va_Qv (fun (u : Ly × St × Nat × Nat) => Post u.1 u.2.1 u.2.2.1 u.2.2.2) (QU D (va_A (ws g ad y σ) H.size) (fun u => ws g ad u.1 u.2.1) H.size (us H) (fun u => u.2.2.1) (fun u => u.2.2.2)) (va_A (ws g ad y σ) H.size)) mc ms (va_A (ws g ad y σ) H.size))
    (w : CWv y1 bytes maxL ret n ∧ Cond.instanceMethod y1 ∈ lw_ok ∧ Cond.selects y1.cls y1 y1 ∈ lw_ok) (hl : Cond.methodLink y0.cls index y1 ∈ lw_ok) (hR : rm.frames + 1 ≤ R.frames ∧ 8 + (maxL + 11) + rm.locals ≤ R.locals) (hrc : rm.cells = mc) (hrs : rm.slots = ms) (hcl : cl b = ci) (hc : CL[ci]? = some q) (hqc : q.1 = y1.cls) (hsz : ls.size = nL) (hst : st = As.reverse ++ .ref (ad b) :: rest) (hroom : (rest.map fun v => v.category).sum ≤ 8) (hn : As.length = n) (hf : cells + mc ≤ R.cells ∧ slots + ms ≤ R.slots) (hdg : decode cc pc = .ok (.invokevirtual index, 3))
    (kk : ∀ (y2 : Ly) (σ1 : St) (d1 d2 : Nat) (H1 : Heap) (locs1 : List Loc), Post y2 σ1 d1 d2 → va_P D CL (ws g ad y2 σ1) H1 → va_D A0 (ws g ad y2 σ1) → va_S A0 s.heap H1 locs1 → W p l e R s m args below meth c H1 locs1 (cells + d1) (slots + d2) Q (F0 m (pc + 3) ls (rest))) : W p l e R s m args below meth c H locs cells slots Q (F0 m pc ls st) := by
  have h99 : cl b ≠ 99 := fun z => by rw [hcl] at z; subst z; simp at hc
  obtain ⟨q0, -, he⟩ := ws_at (g := g) (ad := ad) (y := y) (σ := σ) (mem_obj h99)
  rw [clv_o hcl] at he
  refine kEvu (wr := []) G (kVu (As := As) (rest := rest) G hP hD hS (List.range cL.length) ws_all cL_nd hM w hl hrc hrs hR (fun _ h => h) q0 hc hqc he hsz hst hroom hn hf hdg) hP hD hS (List.range cL.length) [] ws_all rfl rfl rfl (fun u H1 locs1 hw hP1 hD1 hS1 hz => ?_)
  exact kk u.1 u.2.1 u.2.2.1 u.2.2.2 H1 locs1 hw hP1 hD1 hS1
theorem utVl {n : Nat} {Post : Ly → St → Int64 → Nat → Nat → Prop} (G : GV l p s m args meth c y0 cc nL r0 g D sl A0) (hP : va_P D CL (ws g ad y σ) H) (hD : va_D A0 (ws g ad y σ)) (hS : va_S A0 s.heap H locs)
    (hM : Met l y1 (mw y1 bytes maxL ret) rm (PCu g D sl (.ref (ad b) :: As) H.size (us H) (ws g ad y σ)) (va_Ql (fun (r : Int64) (u : Ly × St × Nat × Nat) => Post u.1 u.2.1 r u.2.2.1 u.2.2.2) (QU D (va_A (ws g ad y σ) H.size) (fun u => ws g ad u.1 u.2.1) H.size (us H) (fun u => u.2.2.1) (fun u => u.2.2.2)) (va_A (ws g ad y σ) H.size)) mc ms (va_A (ws g ad y σ) H.size))
    (w : CWv y1 bytes maxL ret n ∧ Cond.instanceMethod y1 ∈ lw_ok ∧ Cond.selects y1.cls y1 y1 ∈ lw_ok) (hl : Cond.methodLink y0.cls index y1 ∈ lw_ok) (hR : rm.frames + 1 ≤ R.frames ∧ 8 + (maxL + 11) + rm.locals ≤ R.locals) (hrc : rm.cells = mc) (hrs : rm.slots = ms) (hcl : cl b = ci) (hc : CL[ci]? = some q) (hqc : q.1 = y1.cls) (hsz : ls.size = nL) (hst : st = As.reverse ++ .ref (ad b) :: rest) (hroom : (rest.map fun v => v.category).sum ≤ 8) (hn : As.length = n) (hf : cells + mc ≤ R.cells ∧ slots + ms ≤ R.slots) (hdg : decode cc pc = .ok (.invokevirtual index, 3))
    (kk : ∀ (r : Int64) (y2 : Ly) (σ1 : St) (d1 d2 : Nat) (H1 : Heap) (locs1 : List Loc), Post y2 σ1 r d1 d2 → va_P D CL (ws g ad y2 σ1) H1 → va_D A0 (ws g ad y2 σ1) → va_S A0 s.heap H1 locs1 → W p l e R s m args below meth c H1 locs1 (cells + d1) (slots + d2) Q (F0 m (pc + 3) ls (.long r :: rest))) : W p l e R s m args below meth c H locs cells slots Q (F0 m pc ls st) := by
  have h99 : cl b ≠ 99 := fun z => by rw [hcl] at z; subst z; simp at hc
  obtain ⟨q0, -, he⟩ := ws_at (g := g) (ad := ad) (y := y) (σ := σ) (mem_obj h99)
  rw [clv_o hcl] at he
  refine kElu (wr := []) G (kVu (As := As) (rest := rest) G hP hD hS (List.range cL.length) ws_all cL_nd hM w hl hrc hrs hR (fun _ h => h) q0 hc hqc he hsz hst hroom hn hf hdg) hP hD hS (List.range cL.length) [] ws_all rfl rfl rfl (fun r u H1 locs1 hw hP1 hD1 hS1 hz => ?_)
  exact kk r u.1 u.2.1 u.2.2.1 u.2.2.2 H1 locs1 hw hP1 hD1 hS1
theorem utSi {n : Nat} {Post : Ly → St → Int32 → Nat → Nat → Prop} (G : GV l p s m args meth c y0 cc nL r0 g D sl A0) (hP : va_P D CL (ws g ad y σ) H) (hD : va_D A0 (ws g ad y σ)) (hS : va_S A0 s.heap H locs)
    (hM : Met l y1 (mw y1 bytes maxL ret) rm (PCu g D sl As H.size (us H) (ws g ad y σ)) (va_Qi (fun (r : Int32) (u : Ly × St × Nat × Nat) => Post u.1 u.2.1 r u.2.2.1 u.2.2.2) (QU D (va_A (ws g ad y σ) H.size) (fun u => ws g ad u.1 u.2.1) H.size (us H) (fun u => u.2.2.1) (fun u => u.2.2.2)) (va_A (ws g ad y σ) H.size)) mc ms (va_A (ws g ad y σ) H.size))
    (w : CWv y1 bytes maxL ret n ∧ Cond.static y1 ∈ lw_ok) (hl : Cond.methodLink y0.cls index y1 ∈ lw_ok) (hR : rm.frames + 1 ≤ R.frames ∧ 8 + (maxL + 11) + rm.locals ≤ R.locals) (hrc : rm.cells = mc) (hrs : rm.slots = ms) (hsz : ls.size = nL) (hst : st = As.reverse ++ rest) (hroom : (rest.map fun v => v.category).sum ≤ 8) (hn : As.length = n) (hf : cells + mc ≤ R.cells ∧ slots + ms ≤ R.slots) (hdg : decode cc pc = .ok (.invokestatic index, 3))
    (kk : ∀ (r : Int32) (y2 : Ly) (σ1 : St) (d1 d2 : Nat) (H1 : Heap) (locs1 : List Loc), Post y2 σ1 r d1 d2 → va_P D CL (ws g ad y2 σ1) H1 → va_D A0 (ws g ad y2 σ1) → va_S A0 s.heap H1 locs1 → W p l e R s m args below meth c H1 locs1 (cells + d1) (slots + d2) Q (F0 m (pc + 3) ls (.int r :: rest))) : W p l e R s m args below meth c H locs cells slots Q (F0 m pc ls st) := by
  refine kEiu (wr := []) G (kSu (As := As) (rest := rest) G hP hD hS (List.range cL.length) ws_all cL_nd hM w hl hrc hrs hR (fun _ h => h) hsz hst hroom hn hf hdg) hP hD hS (List.range cL.length) [] ws_all rfl rfl rfl (fun r u H1 locs1 hw hP1 hD1 hS1 hz => ?_)
  exact kk r u.1 u.2.1 u.2.2.1 u.2.2.2 H1 locs1 hw hP1 hD1 hS1
theorem utSv {n : Nat} {Post : Ly → St →  Nat → Nat → Prop} (G : GV l p s m args meth c y0 cc nL r0 g D sl A0) (hP : va_P D CL (ws g ad y σ) H) (hD : va_D A0 (ws g ad y σ)) (hS : va_S A0 s.heap H locs)
    (hM : Met l y1 (mw y1 bytes maxL ret) rm (PCu g D sl As H.size (us H) (ws g ad y σ)) (va_Qv (fun (u : Ly × St × Nat × Nat) => Post u.1 u.2.1 u.2.2.1 u.2.2.2) (QU D (va_A (ws g ad y σ) H.size) (fun u => ws g ad u.1 u.2.1) H.size (us H) (fun u => u.2.2.1) (fun u => u.2.2.2)) (va_A (ws g ad y σ) H.size)) mc ms (va_A (ws g ad y σ) H.size))
    (w : CWv y1 bytes maxL ret n ∧ Cond.static y1 ∈ lw_ok) (hl : Cond.methodLink y0.cls index y1 ∈ lw_ok) (hR : rm.frames + 1 ≤ R.frames ∧ 8 + (maxL + 11) + rm.locals ≤ R.locals) (hrc : rm.cells = mc) (hrs : rm.slots = ms) (hsz : ls.size = nL) (hst : st = As.reverse ++ rest) (hroom : (rest.map fun v => v.category).sum ≤ 8) (hn : As.length = n) (hf : cells + mc ≤ R.cells ∧ slots + ms ≤ R.slots) (hdg : decode cc pc = .ok (.invokestatic index, 3))
    (kk : ∀ (y2 : Ly) (σ1 : St) (d1 d2 : Nat) (H1 : Heap) (locs1 : List Loc), Post y2 σ1 d1 d2 → va_P D CL (ws g ad y2 σ1) H1 → va_D A0 (ws g ad y2 σ1) → va_S A0 s.heap H1 locs1 → W p l e R s m args below meth c H1 locs1 (cells + d1) (slots + d2) Q (F0 m (pc + 3) ls (rest))) : W p l e R s m args below meth c H locs cells slots Q (F0 m pc ls st) := by
  refine kEvu (wr := []) G (kSu (As := As) (rest := rest) G hP hD hS (List.range cL.length) ws_all cL_nd hM w hl hrc hrs hR (fun _ h => h) hsz hst hroom hn hf hdg) hP hD hS (List.range cL.length) [] ws_all rfl rfl rfl (fun u H1 locs1 hw hP1 hD1 hS1 hz => ?_)
  exact kk u.1 u.2.1 u.2.2.1 u.2.2.2 H1 locs1 hw hP1 hD1 hS1
theorem utSl {n : Nat} {Post : Ly → St → Int64 → Nat → Nat → Prop} (G : GV l p s m args meth c y0 cc nL r0 g D sl A0) (hP : va_P D CL (ws g ad y σ) H) (hD : va_D A0 (ws g ad y σ)) (hS : va_S A0 s.heap H locs)
    (hM : Met l y1 (mw y1 bytes maxL ret) rm (PCu g D sl As H.size (us H) (ws g ad y σ)) (va_Ql (fun (r : Int64) (u : Ly × St × Nat × Nat) => Post u.1 u.2.1 r u.2.2.1 u.2.2.2) (QU D (va_A (ws g ad y σ) H.size) (fun u => ws g ad u.1 u.2.1) H.size (us H) (fun u => u.2.2.1) (fun u => u.2.2.2)) (va_A (ws g ad y σ) H.size)) mc ms (va_A (ws g ad y σ) H.size))
    (w : CWv y1 bytes maxL ret n ∧ Cond.static y1 ∈ lw_ok) (hl : Cond.methodLink y0.cls index y1 ∈ lw_ok) (hR : rm.frames + 1 ≤ R.frames ∧ 8 + (maxL + 11) + rm.locals ≤ R.locals) (hrc : rm.cells = mc) (hrs : rm.slots = ms) (hsz : ls.size = nL) (hst : st = As.reverse ++ rest) (hroom : (rest.map fun v => v.category).sum ≤ 8) (hn : As.length = n) (hf : cells + mc ≤ R.cells ∧ slots + ms ≤ R.slots) (hdg : decode cc pc = .ok (.invokestatic index, 3))
    (kk : ∀ (r : Int64) (y2 : Ly) (σ1 : St) (d1 d2 : Nat) (H1 : Heap) (locs1 : List Loc), Post y2 σ1 r d1 d2 → va_P D CL (ws g ad y2 σ1) H1 → va_D A0 (ws g ad y2 σ1) → va_S A0 s.heap H1 locs1 → W p l e R s m args below meth c H1 locs1 (cells + d1) (slots + d2) Q (F0 m (pc + 3) ls (.long r :: rest))) : W p l e R s m args below meth c H locs cells slots Q (F0 m pc ls st) := by
  refine kElu (wr := []) G (kSu (As := As) (rest := rest) G hP hD hS (List.range cL.length) ws_all cL_nd hM w hl hrc hrs hR (fun _ h => h) hsz hst hroom hn hf hdg) hP hD hS (List.range cL.length) [] ws_all rfl rfl rfl (fun r u H1 locs1 hw hP1 hD1 hS1 hz => ?_)
  exact kk r u.1 u.2.1 u.2.2.1 u.2.2.2 H1 locs1 hw hP1 hD1 hS1
end UA9
/-! two rows of an object change their names -/
def swL (y : Ly) (a k1 k2 : Nat) : Ly := (w2 (w2 y.1 a k1 (y.1 a k2)) a k2 (y.1 a k1), w2 (w2 y.2 a k1 (y.2 a k2)) a k2 (y.2 a k1))
def swS (σ : St) (a k1 k2 : Nat) : St := uF (uF σ a k1 (sA σ a k2)) a k2 (sA σ a k1)
theorem w2_12 {α : Type} {f : Nat → Nat → α} {a k1 k2 : Nat} {x z : α} (h : k1 ≠ k2) : w2 (w2 f a k1 x) a k2 z a k1 = x := by rw [w2_ne (fun _ => h), w2_eq]
def xW (y : Ly) (σ : St) (K : Ly → St → Prop) : Prop := K y σ
section SW
variable {p : Program} {l : Launch} {e : Env} {R : Room} {s : State} {m : MethodId} {args : Array Value} {below : List Frame} {meth : Method} {c : Code} {H : Heap} {locs : List Loc} {cells slots : Nat} {Q : State → Prop}
variable {cc : ByteArray} {pc : Nat} {ls : Array Slot} {rest : List Value} {A0 : Nat → Prop} {D : va_G} {y0 : MethodName} {nL : Nat} {r0 : Option FieldType} {g : Nat → ClassId} {sl : List SL} {ad : Nat → Nat} {y : Ly} {σ : St} {a : Nat}
theorem uswA {C ref : String} {T : u_T} {N cn index k1 k2 : Nat} (G : GV l p s m args meth c y0 cc nL r0 g D sl A0) (hP : va_P D CL (ws g ad y σ) H) (hD : va_D A0 (ws g ad y σ)) (hS : va_S A0 s.heap H locs) (hcl : cl a = cn) (hin : ∀ w ∈ u_ws C T N, w ∈ lw_ok) (ty0 : Nat → FieldType) (hty : ∀ k, k < N → parseFieldDescriptor (T k).2.2.1 = some (ty0 k)) (hnm : ∀ a, a < N → ∀ b, b < N → a ≠ b → (T a).2.1 ≠ (T b).2.1) (hc : CL[cn]? = some (C, T, N)) (hk : k1 < N) (hnf : nf cn = N) (hlink : Cond.fieldLink y0.cls index ref (T k1).2.1 (T k1).2.2.1 ∈ lw_ok) (hsame : (T k1).1 = ref) (hfin : (T k1).2.2.2 = false) (hn : narrow (ty0 k1) (.ref (yP y a k2)) = .ref (yP y a k2)) (hfit : fits (ty0 k1) (.ref (yP y a k2)) = true)
    (hdg : decode cc pc = .ok (.putfield index, 3)) (kk : ∀ (q0 : Nat) (H1 : Heap) (locs1 : List Loc), cL[q0]? = some (a, 200) → va_P D CL ((ws g ad y σ).set q0 (ad a, .inr (cn, (fls ad y σ a).set k1 (.ref (yP y a k2))))) H1 → va_D A0 ((ws g ad y σ).set q0 (ad a, .inr (cn, (fls ad y σ a).set k1 (.ref (yP y a k2))))) → va_S A0 s.heap H1 locs1 → W p l e R s m args below meth c H1 locs1 cells slots Q (F0 m (pc + 3) ls rest)) : W p l e R s m args below meth c H locs cells slots Q (F0 m pc ls (.ref (yP y a k2) :: .ref (ad a) :: rest)) := by
  have h99 : cl a ≠ 99 := fun q => by rw [hcl] at q; subst q; simp at hc
  obtain ⟨q0, hq, he⟩ := ws_at (g := g) (ad := ad) (y := y) (σ := σ) (mem_obj h99)
  rw [clv_o hcl] at he
  refine kp G hin ty0 hty hnm hP hD hS q0 he hc k1 hk hlink hsame hfin hn hfit ?_ hdg (fun H1 locs1 hP1 hD1 hS1 => kk q0 H1 locs1 hq hP1 hD1 hS1)
  show k1 < (List.map _ (List.range (nf (cl a)))).length
  rw [List.length_map, List.length_range, hcl, hnf]; exact hk
theorem kd7 {c j : Nat} (h : j < nf c) : kd c j ≤ 7 := by
  have hc : c < 16 := by
    apply Decidable.byContradiction
    intro q
    have : nf c = 0 := by
      show (kdT.getD c []).length = 0
      rw [List.getD_eq_getElem?_getD, List.getElem?_eq_none (by show kdT.length ≤ _; have : kdT.length = 16 := by decide
                                                                omega)]
      rfl
    omega
  have hj2 : j < 131 := Nat.lt_of_lt_of_le h ((show ∀ c, c < 16 → nf c ≤ 131 by decide +kernel) _ hc)
  exact (show ∀ c, c < 16 → ∀ j, j < 131 → j < nf c → kd c j ≤ 7 by decide +kernel) c hc j hj2 h
theorem sw_ws {cn k1 k2 q0 t : Nat} {A : Nat → Prop} (hcl : cl a = cn) (hq : cL[q0]? = some (a, 200)) (h12 : k1 ≠ k2) (hd1 : kd cn k1 = 2) (hd2 : kd cn k2 = 2) (ht1 : tyx cn k1 = t) (ht2 : tyx cn k2 = t) (hal : ∀ b j, kd (cl b) j = 7 → sX σ b j ≠ (a, k1) ∧ sX σ b j ≠ (a, k2))
    (hP : va_P D CL (((ws g ad y σ).set q0 (ad a, .inr (cn, (fls ad y σ a).set k1 (.ref (yP y a k2))))).set q0 (ad a, .inr (cn, ((fls ad y σ a).set k1 (.ref (yP y a k2))).set k2 (.ref (yP y a k1))))) H) (hD : va_D A (((ws g ad y σ).set q0 (ad a, .inr (cn, (fls ad y σ a).set k1 (.ref (yP y a k2))))).set q0 (ad a, .inr (cn, ((fls ad y σ a).set k1 (.ref (yP y a k2))).set k2 (.ref (yP y a k1)))))) :
    va_P D CL (ws g ad (swL y a k1 k2) (swS σ a k1 k2)) H ∧ va_D A (ws g ad (swL y a k1 k2) (swS σ a k1 k2)) := by
  have hd1' : kd (cl a) k1 = 2 := by rw [hcl]; exact hd1
  have hd2' : kd (cl a) k2 = 2 := by rw [hcl]; exact hd2
  obtain ⟨i1, hi1⟩ := List.mem_iff_getElem?.mp (mem_row (a := a) (k := k1) (by rw [hd1']; decide) (by rw [hd1']; decide))
  obtain ⟨i2, hi2⟩ := List.mem_iff_getElem?.mp (mem_row (a := a) (k := k2) (by rw [hd2']; decide) (by rw [hd2']; decide))
  have n1 : k1 ≠ 200 := row_ne (a := a) (by rw [hd1']; decide) (by rw [hd1']; decide)
  have n2 : k2 ≠ 200 := row_ne (a := a) (by rw [hd2']; decide) (by rw [hd2']; decide)
  have hlen : ∀ i, i < cL.length → q0 < cL.length := fun _ _ => (List.getElem?_eq_some_iff.mp hq).1
  have hq0 : q0 < cL.length := (List.getElem?_eq_some_iff.mp hq).1
  have e01 : q0 ≠ i1 := fun z => by rw [z, hi1] at hq; injection hq with w; injection w with _ w; exact n1 w
  have e02 : q0 ≠ i2 := fun z => by rw [z, hi2] at hq; injection hq with w; injection w with _ w; exact n2 w
  have old : ∀ (i : Nat) (x : Nat × Nat), cL[i]? = some x → i ≠ q0 → (((ws g ad y σ).set q0 (ad a, .inr (cn, (fls ad y σ a).set k1 (.ref (yP y a k2))))).set q0 (ad a, .inr (cn, ((fls ad y σ a).set k1 (.ref (yP y a k2))).set k2 (.ref (yP y a k1)))))[i]? = some (clv g ad y σ x) := by
    intro i x hx hne
    rw [List.getElem?_set_ne (fun z => hne z.symm), List.getElem?_set_ne (fun z => hne z.symm)]
    show (cL.map _)[i]? = _
    rw [List.getElem?_map, hx]; rfl
  have new : (((ws g ad y σ).set q0 (ad a, .inr (cn, (fls ad y σ a).set k1 (.ref (yP y a k2))))).set q0 (ad a, .inr (cn, ((fls ad y σ a).set k1 (.ref (yP y a k2))).set k2 (.ref (yP y a k1)))))[q0]? = some (ad a, .inr (cn, ((fls ad y σ a).set k1 (.ref (yP y a k2))).set k2 (.ref (yP y a k1)))) := by
    rw [List.getElem?_set_self]
    rw [List.length_set]
    show q0 < (cL.map _).length
    rw [List.length_map]; exact hq0
  have pE : ∀ z k, (z = a → k ≠ k1 ∧ k ≠ k2) → yP (swL y a k1 k2) z k = yP y z k ∧ yN (swL y a k1 k2) z k = yN y z k := fun z k h => ⟨by show w2 (w2 _ _ _ _) _ _ _ _ _ = _; rw [w2_ne (fun q => (h q).2), w2_ne (fun q => (h q).1)]; rfl, by show w2 (w2 _ _ _ _) _ _ _ _ _ = _; rw [w2_ne (fun q => (h q).2), w2_ne (fun q => (h q).1)]; rfl⟩
  have p1 : yP (swL y a k1 k2) a k1 = yP y a k2 := w2_12 h12
  have p2 : yP (swL y a k1 k2) a k2 = yP y a k1 := w2_eq
  have m1 : yN (swL y a k1 k2) a k1 = yN y a k2 := w2_12 h12
  have m2 : yN (swL y a k1 k2) a k2 = yN y a k1 := w2_eq
  have a1 : sA (swS σ a k1 k2) a k1 = sA σ a k2 := w2_12 h12
  have a2 : sA (swS σ a k1 k2) a k2 = sA σ a k1 := w2_eq
  have aE : ∀ z k, (z = a → k ≠ k1 ∧ k ≠ k2) → sA (swS σ a k1 k2) z k = sA σ z k := fun z k h => by show w2 (w2 _ _ _ _) _ _ _ _ _ = _; rw [w2_ne (fun q => (h q).2), w2_ne (fun q => (h q).1)]; rfl
  have fE : ∀ z k t, (z = a → k ≠ k1 ∧ k ≠ k2) → t = kd (cl z) k → t ≤ 7 → fvl ad (swL y a k1 k2) (swS σ a k1 k2) z k t = fvl ad y σ z k t := by
    intro z k t h ht h8
    unfold fvl
    rw [(pE z k h).1]
    by_cases h7 : t = 7
    · have hs := hal z k (ht ▸ h7)
      have : yP (swL y a k1 k2) (sX σ z k).1 (sX σ z k).2 = yP y (sX σ z k).1 (sX σ z k).2 := (pE _ _ (fun q => ⟨fun q1 => hs.1 (Prod.ext q q1), fun q1 => hs.2 (Prod.ext q q1)⟩)).1
      show (if t = 0 then _ else if t = 1 then _ else if t ≤ 4 then _ else if t = 5 then _ else if t = 6 then _ else Value.ref (yP (swL y a k1 k2) (sX σ z k).1 (sX σ z k).2)) = _
      rw [this]; rfl
    · by_cases h6 : t ≤ 6
      · have c7 : t = 0 ∨ t = 1 ∨ t = 2 ∨ t = 3 ∨ t = 4 ∨ t = 5 ∨ t = 6 := by omega
        rcases c7 with e | e | e | e | e | e | e <;> subst e <;> rfl
      · omega
  let π : Nat → Nat := fun i => if i = i1 then i2 else if i = i2 then i1 else i
  have e12 : i1 ≠ i2 := fun z => by rw [z, hi2] at hi1; injection hi1 with w; injection w with _ w; exact h12 w.symm
  have hπ : ∀ (i : Nat) (z : Nat × va_E), (ws g ad (swL y a k1 k2) (swS σ a k1 k2))[i]? = some z → (((ws g ad y σ).set q0 (ad a, .inr (cn, (fls ad y σ a).set k1 (.ref (yP y a k2))))).set q0 (ad a, .inr (cn, ((fls ad y σ a).set k1 (.ref (yP y a k2))).set k2 (.ref (yP y a k1)))))[π i]? = some z := by
    intro i z hz
    have hz' : (cL.map (clv g ad (swL y a k1 k2) (swS σ a k1 k2)))[i]? = some z := hz
    rw [List.getElem?_map] at hz'
    cases ex : cL[i]? with
    | none => rw [ex] at hz'; cases hz'
    | some x =>
      rw [ex] at hz'
      injection hz' with hz'
      subst hz'
      by_cases c1 : i = i1
      · subst c1
        rw [hi1] at ex; injection ex with ex; subst ex
        show (_ : List _)[if i = i then i2 else _]? = _
        rw [if_pos rfl, old i2 _ hi2 (fun z => e02 z.symm), clv_r n1, clv_r n2, hcl, hd1, hd2, ht1, ht2, p1]
        show some (yP y a k2, Sum.inl (g t, (yN y a k2, Sum.inl (sA σ a k2)))) = some (yP y a k2, Sum.inl (g t, (yN (swL y a k1 k2) a k1, Sum.inl (sA (swS σ a k1 k2) a k1))))
        rw [m1, a1]
      · by_cases c2 : i = i2
        · subst c2
          rw [hi2] at ex; injection ex with ex; subst ex
          show (_ : List _)[if i = i1 then _ else if i = i then i1 else _]? = _
          rw [if_neg c1, if_pos rfl, old i1 _ hi1 (fun z => e01 z.symm), clv_r n1, clv_r n2, hcl, hd1, hd2, ht1, ht2, p2]
          show some (yP y a k1, Sum.inl (g t, (yN y a k1, Sum.inl (sA σ a k1)))) = some (yP y a k1, Sum.inl (g t, (yN (swL y a k1 k2) a k2, Sum.inl (sA (swS σ a k1 k2) a k2))))
          rw [m2, a2]
        · show (_ : List _)[if i = i1 then _ else if i = i2 then i1 else i]? = _
          rw [if_neg c1, if_neg c2]
          by_cases c0 : i = q0
          · subst c0
            rw [hq] at ex; injection ex with ex; subst ex
            rw [new, clv_o hcl]
            have : ((fls ad y σ a).set k1 (.ref (yP y a k2))).set k2 (.ref (yP y a k1)) = fls ad (swL y a k1 k2) (swS σ a k1 k2) a := by
              apply List.ext_getElem?
              intro j
              show ((((List.range (nf (cl a))).map (fun k => fvl ad y σ a k (kd (cl a) k))).set k1 _).set k2 _)[j]? = ((List.range (nf (cl a))).map (fun k => fvl ad (swL y a k1 k2) (swS σ a k1 k2) a k (kd (cl a) k)))[j]?
              have hn1 : k1 < nf (cl a) := kd_lt (by rw [hd1']; decide)
              have hn2 : k2 < nf (cl a) := kd_lt (by rw [hd2']; decide)
              by_cases j2 : k2 = j
              · subst j2
                rw [List.getElem?_set_self (by rw [List.length_set, List.length_map, List.length_range]; exact hn2), List.getElem?_map, List.getElem?_range hn2]
                show _ = some (fvl ad (swL y a k1 k2) (swS σ a k1 k2) a k2 (kd (cl a) k2))
                rw [hd2']
                show _ = some (Value.ref (yP (swL y a k1 k2) a k2))
                rw [p2]
              · rw [List.getElem?_set_ne j2]
                by_cases j1 : k1 = j
                · subst j1
                  rw [List.getElem?_set_self (by rw [List.length_map, List.length_range]; exact hn1), List.getElem?_map, List.getElem?_range hn1]
                  show _ = some (fvl ad (swL y a k1 k2) (swS σ a k1 k2) a k1 (kd (cl a) k1))
                  rw [hd1']
                  show _ = some (Value.ref (yP (swL y a k1 k2) a k1))
                  rw [p1]
                · rw [List.getElem?_set_ne j1, List.getElem?_map, List.getElem?_map]
                  cases er : (List.range (nf (cl a)))[j]? with
                  | none => rfl
                  | some j' =>
                    have hl := (List.getElem?_eq_some_iff.mp er).1
                    rw [List.length_range] at hl
                    have hj : j' = j := by
                      rw [List.getElem?_range hl] at er
                      exact (Option.some.inj er).symm
                    subst hj
                    exact congrArg some (fE a j' _ (fun _ => ⟨fun z => j1 z.symm, fun z => j2 z.symm⟩) rfl (kd7 hl)).symm
            rw [this]
          · rw [old i x ex c0]
            have x0 : x ≠ (a, 200) := fun z => c0 (cL_inj ex (z ▸ hq))
            have x1 : x ≠ (a, k1) := fun z => c1 (cL_inj ex (z ▸ hi1))
            have x2 : x ≠ (a, k2) := fun z => c2 (cL_inj ex (z ▸ hi2))
            refine congrArg some ?_
            show (if x.2 = 200 then _ else _) = (if x.2 = 200 then _ else _)
            by_cases hx : x.2 = 200
            · rw [if_pos hx, if_pos hx]
              have hne : x.1 ≠ a := fun q => x0 (Prod.ext q hx)
              have : fls ad (swL y a k1 k2) (swS σ a k1 k2) x.1 = fls ad y σ x.1 := by
                unfold fls
                apply List.map_congr_left
                intro j hj
                exact fE x.1 j _ (fun q => absurd q hne) rfl (kd7 (List.mem_range.mp hj))
              rw [this]
            · rw [if_neg hx, if_neg hx]
              have hz : x.1 = a → x.2 ≠ k1 ∧ x.2 ≠ k2 := fun q => ⟨fun w => x1 (Prod.ext q w), fun w => x2 (Prod.ext q w)⟩
              unfold rwd
              rw [(pE _ _ hz).1, (pE _ _ hz).2, aE _ _ hz]
              rfl
  have hinj : ∀ i j : Nat, π i = π j → i = j := by
    intro i j h
    have h' : (if i = i1 then i2 else if i = i2 then i1 else i) = (if j = i1 then i2 else if j = i2 then i1 else j) := h
    by_cases a1 : i = i1 <;> by_cases a2 : i = i2 <;> by_cases b1 : j = i1 <;> by_cases b2 : j = i2 <;> simp only [a1, a2, b1, b2, if_true, if_false] at h' <;> first | omega | (simp at h'; omega) | exact (a1.trans b1.symm) | exact (a2.trans b2.symm) | exact h'
  exact ⟨hP.by π hπ, hD.by π hπ (fun i j _ _ h => hinj i j h)⟩
end SW

