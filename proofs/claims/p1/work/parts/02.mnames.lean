def R_MM : String := "SourceBackModel"
def F_MM : u_T := fun k => match k with
  | 0 => ("SourceBackModel", "thrown", "I", false)
  | 1 => ("SourceBackModel", "halt", "LSourceBackModel$Halt;", true)
  | 2 => ("SourceBackModel", "tape", "LSourceBackModel$Bytes;", true)
  | 3 => ("SourceBackModel", "letters", "LSourceBackModel$Bytes;", true)
  | 4 => ("SourceBackModel", "wordFrom", "LSourceBackModel$Ints;", true)
  | 5 => ("SourceBackModel", "wordSize", "LSourceBackModel$Ints;", true)
  | 6 => ("SourceBackModel", "size", "I", false)
  | 7 => ("SourceBackModel", "at", "I", false)
  | 8 => ("SourceBackModel", "count", "I", false)
  | 9 => ("SourceBackModel", "files", "[LSourceBackModel$Box;", true)
  | 10 => ("SourceBackModel", "older", "[LSourceBackModel$Box;", true)
  | 11 => ("SourceBackModel", "edits", "[I", true)
  | 12 => ("SourceBackModel", "spares", "[LSourceBackModel$Box;", true)
  | 13 => ("SourceBackModel", "spareCount", "I", false)
  | 14 => ("SourceBackModel", "box", "LSourceBackModel$Box;", false)
  | 15 => ("SourceBackModel", "places", "LSourceBackModel$Ints;", true)
  | 16 => ("SourceBackModel", "nameAt", "I", false)
  | 17 => ("SourceBackModel", "reading", "LSourceBackModel$Member;", true)
  | 18 => ("SourceBackModel", "localKind", "[B", true)
  | 19 => ("SourceBackModel", "pileKind", "[B", true)
  | 20 => ("SourceBackModel", "depth", "[I", true)
  | 21 => ("SourceBackModel", "nowLocal", "[B", true)
  | 22 => ("SourceBackModel", "nowPile", "[B", true)
  | 23 => ("SourceBackModel", "nowDepth", "I", false)
  | 24 => ("SourceBackModel", "deepest", "I", false)
  | 25 => ("SourceBackModel", "changes", "Z", false)
  | 26 => ("SourceBackModel", "blocks", "I", false)
  | 27 => ("SourceBackModel", "begins", "[Z", true)
  | 28 => ("SourceBackModel", "order", "[I", true)
  | 29 => ("SourceBackModel", "first", "[I", true)
  | 30 => ("SourceBackModel", "last", "[I", true)
  | 31 => ("SourceBackModel", "parent", "[I", true)
  | 32 => ("SourceBackModel", "isHead", "[Z", true)
  | 33 => ("SourceBackModel", "isMet", "[Z", true)
  | 34 => ("SourceBackModel", "knotted", "Z", false)
  | 35 => ("SourceBackModel", "wayFrom", "[I", true)
  | 36 => ("SourceBackModel", "ways", "LSourceBackModel$Ints;", true)
  | 37 => ("SourceBackModel", "some", "LSourceBackModel$Ints;", true)
  | 38 => ("SourceBackModel", "stack", "LSourceBackModel$Ints;", true)
  | 39 => ("SourceBackModel", "left", "LSourceBackModel$Ints;", true)
  | 40 => ("SourceBackModel", "stackWay", "LSourceBackModel$Ints;", true)
  | 41 => ("SourceBackModel", "stackOf", "[I", true)
  | 42 => ("SourceBackModel", "termSort", "LSourceBackModel$Ints;", true)
  | 43 => ("SourceBackModel", "termA", "LSourceBackModel$Ints;", true)
  | 44 => ("SourceBackModel", "termB", "LSourceBackModel$Ints;", true)
  | 45 => ("SourceBackModel", "termC", "LSourceBackModel$Ints;", true)
  | 46 => ("SourceBackModel", "termV", "LSourceBackModel$Longs;", true)
  | 47 => ("SourceBackModel", "parts", "LSourceBackModel$Ints;", true)
  | 48 => ("SourceBackModel", "sort", "LSourceBackModel$Ints;", true)
  | 49 => ("SourceBackModel", "label", "LSourceBackModel$Ints;", true)
  | 50 => ("SourceBackModel", "sa", "LSourceBackModel$Ints;", true)
  | 51 => ("SourceBackModel", "sb", "LSourceBackModel$Ints;", true)
  | 52 => ("SourceBackModel", "sc", "LSourceBackModel$Ints;", true)
  | 53 => ("SourceBackModel", "sv", "LSourceBackModel$Longs;", true)
  | 54 => ("SourceBackModel", "body", "LSourceBackModel$Ints;", true)
  | 55 => ("SourceBackModel", "other", "LSourceBackModel$Ints;", true)
  | 56 => ("SourceBackModel", "next", "LSourceBackModel$Ints;", true)
  | 57 => ("SourceBackModel", "caseFrom", "LSourceBackModel$Ints;", true)
  | 58 => ("SourceBackModel", "caseMany", "LSourceBackModel$Ints;", true)
  | 59 => ("SourceBackModel", "caseBody", "LSourceBackModel$Ints;", true)
  | 60 => ("SourceBackModel", "caseNext", "LSourceBackModel$Ints;", true)
  | 61 => ("SourceBackModel", "caseKey", "LSourceBackModel$Longs;", true)
  | 62 => ("SourceBackModel", "temporaries", "I", false)
  | 63 => ("SourceBackModel", "arrays", "I", false)
  | 64 => ("SourceBackModel", "pile", "[I", true)
  | 65 => ("SourceBackModel", "high", "I", false)
  | 66 => ("SourceBackModel", "firstOut", "I", false)
  | 67 => ("SourceBackModel", "lastOut", "I", false)
  | 68 => ("SourceBackModel", "listFirst", "I", false)
  | 69 => ("SourceBackModel", "listLast", "I", false)
  | 70 => ("SourceBackModel", "lists", "LSourceBackModel$Ints;", true)
  | 71 => ("SourceBackModel", "page", "LSourceBackModel$Bytes;", false)
  | 72 => ("SourceBackModel", "tasks", "LSourceBackModel$Ints;", true)
  | 73 => ("SourceBackModel", "hasLocal", "[Z", true)
  | 74 => ("SourceBackModel", "placesSeen", "I", false)
  | 75 => ("SourceBackModel", "atSeen", "Z", false)
  | 76 => ("SourceBackModel", "seenTemporary", "LSourceBackModel$Ints;", true)
  | 77 => ("SourceBackModel", "seenArray", "LSourceBackModel$Ints;", true)
  | 78 => ("SourceBackModel", "signWords", "[Ljava/lang/String;", true)
  | 79 => ("SourceBackModel", "saidVariables", "I", false)
  | 80 => ("SourceBackModel", "comparedWords", "[Ljava/lang/String;", true)
  | 81 => ("SourceBackModel", "source", "LSourceBackModel$Bytes;", false)
  | 82 => ("SourceBackModel", "length", "I", false)
  | 83 => ("SourceBackModel", "token", "I", false)
  | 84 => ("SourceBackModel", "from", "I", false)
  | 85 => ("SourceBackModel", "to", "I", false)
  | 86 => ("SourceBackModel", "mark", "I", false)
  | 87 => ("SourceBackModel", "judged", "LSourceBackModel$Box;", false)
  | 88 => ("SourceBackModel", "making", "LSourceBackModel$Member;", false)
  | 89 => ("SourceBackModel", "variables", "I", false)
  | 90 => ("SourceBackModel", "variableWord", "[I", true)
  | 91 => ("SourceBackModel", "variableKind", "[I", true)
  | 92 => ("SourceBackModel", "labels", "I", false)
  | 93 => ("SourceBackModel", "labelWord", "[I", true)
  | 94 => ("SourceBackModel", "isLoop", "[Z", true)
  | 95 => ("SourceBackModel", "loopBegin", "[I", true)
  | 96 => ("SourceBackModel", "breakChain", "[I", true)
  | 97 => ("SourceBackModel", "nested", "I", false)
  | 98 => ("SourceBackModel", "bracketed", "I", false)
  | 99 => ("SourceBackModel", "given", "I", false)
  | 100 => ("SourceBackModel", "codeBytes", "I", false)
  | 101 => ("SourceBackModel", "lying", "I", false)
  | 102 => ("SourceBackModel", "mostLying", "I", false)
  | 103 => ("SourceBackModel", "keys", "LSourceBackModel$Longs;", true)
  | 104 => ("SourceBackModel", "keyEnds", "LSourceBackModel$Ints;", true)
  | 105 => ("SourceBackModel", "firstPlace", "I", false)
  | 106 => ("SourceBackModel", "draftMember", "LSourceBackModel$Member;", true)
  | 107 => ("SourceBackModel", "analysed", "LSourceBackModel$Member;", false)
  | 108 => ("SourceBackModel", "draft", "LSourceBackModel$Bytes;", true)
  | 109 => ("SourceBackModel", "assembled", "LSourceBackModel$Bytes;", true)
  | 110 => ("SourceBackModel", "phase", "[I", true)
  | 111 => ("SourceBackModel", "came", "[J", true)
  | 112 => ("SourceBackModel", "failure", "[I", true)
  | 113 => ("SourceBackModel", "failNumber", "[J", true)
  | 114 => ("SourceBackModel", "done", "[J", true)
  | 115 => ("SourceBackModel", "begun", "I", false)
  | 116 => ("SourceBackModel", "fieldValue", "[J", true)
  | 117 => ("SourceBackModel", "arrayCount", "[I", true)
  | 118 => ("SourceBackModel", "elementCount", "[I", true)
  | 119 => ("SourceBackModel", "arrayFrom", "[I", true)
  | 120 => ("SourceBackModel", "arraySize", "[I", true)
  | 121 => ("SourceBackModel", "elements", "[J", true)
  | 122 => ("SourceBackModel", "frames", "[I", true)
  | 123 => ("SourceBackModel", "frameFile", "[I", true)
  | 124 => ("SourceBackModel", "frameMember", "[I", true)
  | 125 => ("SourceBackModel", "frameCode", "[LSourceBackModel$Member;", true)
  | 126 => ("SourceBackModel", "frameAct", "[I", true)
  | 127 => ("SourceBackModel", "frameHigh", "[I", true)
  | 128 => ("SourceBackModel", "frameLocal", "[J", true)
  | 129 => ("SourceBackModel", "framePile", "[J", true)
  | 130 => ("SourceBackModel", "side", "I", false)
  | _ => ("SourceBackModel", "top", "I", false)
def t_MM : Nat → FieldType := fun k => match k with
  | 0 => .int
  | 1 => .object "SourceBackModel$Halt"
  | 2 => .object "SourceBackModel$Bytes"
  | 3 => .object "SourceBackModel$Bytes"
  | 4 => .object "SourceBackModel$Ints"
  | 5 => .object "SourceBackModel$Ints"
  | 6 => .int
  | 7 => .int
  | 8 => .int
  | 9 => .array (.object "SourceBackModel$Box")
  | 10 => .array (.object "SourceBackModel$Box")
  | 11 => .array (.int)
  | 12 => .array (.object "SourceBackModel$Box")
  | 13 => .int
  | 14 => .object "SourceBackModel$Box"
  | 15 => .object "SourceBackModel$Ints"
  | 16 => .int
  | 17 => .object "SourceBackModel$Member"
  | 18 => .array (.byte)
  | 19 => .array (.byte)
  | 20 => .array (.int)
  | 21 => .array (.byte)
  | 22 => .array (.byte)
  | 23 => .int
  | 24 => .int
  | 25 => .boolean
  | 26 => .int
  | 27 => .array (.boolean)
  | 28 => .array (.int)
  | 29 => .array (.int)
  | 30 => .array (.int)
  | 31 => .array (.int)
  | 32 => .array (.boolean)
  | 33 => .array (.boolean)
  | 34 => .boolean
  | 35 => .array (.int)
  | 36 => .object "SourceBackModel$Ints"
  | 37 => .object "SourceBackModel$Ints"
  | 38 => .object "SourceBackModel$Ints"
  | 39 => .object "SourceBackModel$Ints"
  | 40 => .object "SourceBackModel$Ints"
  | 41 => .array (.int)
  | 42 => .object "SourceBackModel$Ints"
  | 43 => .object "SourceBackModel$Ints"
  | 44 => .object "SourceBackModel$Ints"
  | 45 => .object "SourceBackModel$Ints"
  | 46 => .object "SourceBackModel$Longs"
  | 47 => .object "SourceBackModel$Ints"
  | 48 => .object "SourceBackModel$Ints"
  | 49 => .object "SourceBackModel$Ints"
  | 50 => .object "SourceBackModel$Ints"
  | 51 => .object "SourceBackModel$Ints"
  | 52 => .object "SourceBackModel$Ints"
  | 53 => .object "SourceBackModel$Longs"
  | 54 => .object "SourceBackModel$Ints"
  | 55 => .object "SourceBackModel$Ints"
  | 56 => .object "SourceBackModel$Ints"
  | 57 => .object "SourceBackModel$Ints"
  | 58 => .object "SourceBackModel$Ints"
  | 59 => .object "SourceBackModel$Ints"
  | 60 => .object "SourceBackModel$Ints"
  | 61 => .object "SourceBackModel$Longs"
  | 62 => .int
  | 63 => .int
  | 64 => .array (.int)
  | 65 => .int
  | 66 => .int
  | 67 => .int
  | 68 => .int
  | 69 => .int
  | 70 => .object "SourceBackModel$Ints"
  | 71 => .object "SourceBackModel$Bytes"
  | 72 => .object "SourceBackModel$Ints"
  | 73 => .array (.boolean)
  | 74 => .int
  | 75 => .boolean
  | 76 => .object "SourceBackModel$Ints"
  | 77 => .object "SourceBackModel$Ints"
  | 78 => .array (.object "java/lang/String")
  | 79 => .int
  | 80 => .array (.object "java/lang/String")
  | 81 => .object "SourceBackModel$Bytes"
  | 82 => .int
  | 83 => .int
  | 84 => .int
  | 85 => .int
  | 86 => .int
  | 87 => .object "SourceBackModel$Box"
  | 88 => .object "SourceBackModel$Member"
  | 89 => .int
  | 90 => .array (.int)
  | 91 => .array (.int)
  | 92 => .int
  | 93 => .array (.int)
  | 94 => .array (.boolean)
  | 95 => .array (.int)
  | 96 => .array (.int)
  | 97 => .int
  | 98 => .int
  | 99 => .int
  | 100 => .int
  | 101 => .int
  | 102 => .int
  | 103 => .object "SourceBackModel$Longs"
  | 104 => .object "SourceBackModel$Ints"
  | 105 => .int
  | 106 => .object "SourceBackModel$Member"
  | 107 => .object "SourceBackModel$Member"
  | 108 => .object "SourceBackModel$Bytes"
  | 109 => .object "SourceBackModel$Bytes"
  | 110 => .array (.int)
  | 111 => .array (.long)
  | 112 => .array (.int)
  | 113 => .array (.long)
  | 114 => .array (.long)
  | 115 => .int
  | 116 => .array (.long)
  | 117 => .array (.int)
  | 118 => .array (.int)
  | 119 => .array (.int)
  | 120 => .array (.int)
  | 121 => .array (.long)
  | 122 => .array (.int)
  | 123 => .array (.int)
  | 124 => .array (.int)
  | 125 => .array (.object "SourceBackModel$Member")
  | 126 => .array (.int)
  | 127 => .array (.int)
  | 128 => .array (.long)
  | 129 => .array (.long)
  | 130 => .int
  | _ => .int
set_option maxRecDepth 20000 in
theorem n_MM : ∀ a, a < 132 → ∀ b, b < 132 → a ≠ b → (F_MM a).2.1 ≠ (F_MM b).2.1 := by decide +kernel
set_option maxRecDepth 20000 in
theorem t_MM_ok : ∀ k, k < 132 → parseFieldDescriptor (F_MM k).2.2.1 = some (t_MM k) := by decide +kernel
def R_MH : String := "SourceBackModel$Halt"
def F_MH : u_T := fun k => match k with
  | 0 => ("java/lang/Throwable", "cause", "Ljava/lang/Throwable;", false)
  | 1 => ("java/lang/Throwable", "stackTrace", "[Ljava/lang/StackTraceElement;", false)
  | 2 => ("java/lang/Throwable", "suppressedExceptions", "Ljava/util/List;", false)
  | 3 => ("java/lang/Throwable", "detailMessage", "Ljava/lang/String;", false)
  | 4 => ("java/lang/Throwable", "backtrace", "Ljava/lang/Object;", false)
  | 5 => ("SourceBackModel$Halt", "number", "I", false)
  | 6 => ("SourceBackModel$Halt", "place", "I", false)
  | _ => ("java/lang/Throwable", "depth", "I", false)
def t_MH : Nat → FieldType := fun k => match k with
  | 0 => .object "java/lang/Throwable"
  | 1 => .array (.object "java/lang/StackTraceElement")
  | 2 => .object "java/util/List"
  | 3 => .object "java/lang/String"
  | 4 => .object "java/lang/Object"
  | 5 => .int
  | 6 => .int
  | _ => .int
set_option maxRecDepth 20000 in
theorem n_MH : ∀ a, a < 8 → ∀ b, b < 8 → a ≠ b → (F_MH a).2.1 ≠ (F_MH b).2.1 := by decide +kernel
set_option maxRecDepth 20000 in
theorem t_MH_ok : ∀ k, k < 8 → parseFieldDescriptor (F_MH k).2.2.1 = some (t_MH k) := by decide +kernel
def R_MB : String := "SourceBackModel$Bytes"
def F_MB : u_T := fun k => match k with
  | 0 => ("SourceBackModel$Bytes", "a", "[B", false)
  | _ => ("SourceBackModel$Bytes", "size", "I", false)
def t_MB : Nat → FieldType := fun k => match k with
  | 0 => .array (.byte)
  | _ => .int
set_option maxRecDepth 20000 in
theorem n_MB : ∀ a, a < 2 → ∀ b, b < 2 → a ≠ b → (F_MB a).2.1 ≠ (F_MB b).2.1 := by decide +kernel
set_option maxRecDepth 20000 in
theorem t_MB_ok : ∀ k, k < 2 → parseFieldDescriptor (F_MB k).2.2.1 = some (t_MB k) := by decide +kernel
def R_MI : String := "SourceBackModel$Ints"
def F_MI : u_T := fun k => match k with
  | 0 => ("SourceBackModel$Ints", "a", "[I", false)
  | _ => ("SourceBackModel$Ints", "size", "I", false)
def t_MI : Nat → FieldType := fun k => match k with
  | 0 => .array (.int)
  | _ => .int
set_option maxRecDepth 20000 in
theorem n_MI : ∀ a, a < 2 → ∀ b, b < 2 → a ≠ b → (F_MI a).2.1 ≠ (F_MI b).2.1 := by decide +kernel
set_option maxRecDepth 20000 in
theorem t_MI_ok : ∀ k, k < 2 → parseFieldDescriptor (F_MI k).2.2.1 = some (t_MI k) := by decide +kernel
def R_ML : String := "SourceBackModel$Longs"
def F_ML : u_T := fun k => match k with
  | 0 => ("SourceBackModel$Longs", "a", "[J", false)
  | _ => ("SourceBackModel$Longs", "size", "I", false)
def t_ML : Nat → FieldType := fun k => match k with
  | 0 => .array (.long)
  | _ => .int
set_option maxRecDepth 20000 in
theorem n_ML : ∀ a, a < 2 → ∀ b, b < 2 → a ≠ b → (F_ML a).2.1 ≠ (F_ML b).2.1 := by decide +kernel
set_option maxRecDepth 20000 in
theorem t_ML_ok : ∀ k, k < 2 → parseFieldDescriptor (F_ML k).2.2.1 = some (t_ML k) := by decide +kernel
def R_MR : String := "SourceBackModel$Member"
def F_MR : u_T := fun k => match k with
  | 0 => ("SourceBackModel$Member", "entry", "I", false)
  | 1 => ("SourceBackModel$Member", "name", "I", false)
  | 2 => ("SourceBackModel$Member", "sign", "I", false)
  | 3 => ("SourceBackModel$Member", "locals", "I", false)
  | 4 => ("SourceBackModel$Member", "pile", "I", false)
  | 5 => ("SourceBackModel$Member", "bytes", "I", false)
  | 6 => ("SourceBackModel$Member", "from", "I", false)
  | 7 => ("SourceBackModel$Member", "at", "LSourceBackModel$Ints;", true)
  | 8 => ("SourceBackModel$Member", "op", "LSourceBackModel$Ints;", true)
  | 9 => ("SourceBackModel$Member", "a", "LSourceBackModel$Ints;", true)
  | 10 => ("SourceBackModel$Member", "b", "LSourceBackModel$Ints;", true)
  | 11 => ("SourceBackModel$Member", "v", "LSourceBackModel$Longs;", true)
  | 12 => ("SourceBackModel$Member", "owner", "LSourceBackModel$Ints;", true)
  | 13 => ("SourceBackModel$Member", "of", "LSourceBackModel$Ints;", true)
  | 14 => ("SourceBackModel$Member", "sort", "LSourceBackModel$Ints;", true)
  | 15 => ("SourceBackModel$Member", "key", "LSourceBackModel$Longs;", true)
  | 16 => ("SourceBackModel$Member", "end", "LSourceBackModel$Ints;", true)
  | 17 => ("SourceBackModel$Member", "text", "LSourceBackModel$Bytes;", false)
  | 18 => ("SourceBackModel$Member", "remade", "I", false)
  | 19 => ("SourceBackModel$Member", "reached", "I", false)
  | 20 => ("SourceBackModel$Member", "blockCount", "I", false)
  | 21 => ("SourceBackModel$Member", "isKnotted", "Z", false)
  | 22 => ("SourceBackModel$Member", "made", "LSourceBackModel$Member;", false)
  | _ => ("SourceBackModel$Member", "isGood", "Z", false)
def t_MR : Nat → FieldType := fun k => match k with
  | 0 => .int
  | 1 => .int
  | 2 => .int
  | 3 => .int
  | 4 => .int
  | 5 => .int
  | 6 => .int
  | 7 => .object "SourceBackModel$Ints"
  | 8 => .object "SourceBackModel$Ints"
  | 9 => .object "SourceBackModel$Ints"
  | 10 => .object "SourceBackModel$Ints"
  | 11 => .object "SourceBackModel$Longs"
  | 12 => .object "SourceBackModel$Ints"
  | 13 => .object "SourceBackModel$Ints"
  | 14 => .object "SourceBackModel$Ints"
  | 15 => .object "SourceBackModel$Longs"
  | 16 => .object "SourceBackModel$Ints"
  | 17 => .object "SourceBackModel$Bytes"
  | 18 => .int
  | 19 => .int
  | 20 => .int
  | 21 => .boolean
  | 22 => .object "SourceBackModel$Member"
  | _ => .boolean
set_option maxRecDepth 20000 in
theorem n_MR : ∀ a, a < 24 → ∀ b, b < 24 → a ≠ b → (F_MR a).2.1 ≠ (F_MR b).2.1 := by decide +kernel
set_option maxRecDepth 20000 in
theorem t_MR_ok : ∀ k, k < 24 → parseFieldDescriptor (F_MR k).2.2.1 = some (t_MR k) := by decide +kernel
def R_MX : String := "SourceBackModel$Box"
def F_MX : u_T := fun k => match k with
  | 0 => ("SourceBackModel$Box", "bytes", "LSourceBackModel$Bytes;", true)
  | 1 => ("SourceBackModel$Box", "version", "I", false)
  | 2 => ("SourceBackModel$Box", "nameEntry", "I", false)
  | 3 => ("SourceBackModel$Box", "tag", "LSourceBackModel$Ints;", true)
  | 4 => ("SourceBackModel$Box", "word", "LSourceBackModel$Ints;", true)
  | 5 => ("SourceBackModel$Box", "owner", "LSourceBackModel$Ints;", true)
  | 6 => ("SourceBackModel$Box", "name", "LSourceBackModel$Ints;", true)
  | 7 => ("SourceBackModel$Box", "sort", "LSourceBackModel$Ints;", true)
  | 8 => ("SourceBackModel$Box", "number", "LSourceBackModel$Longs;", true)
  | 9 => ("SourceBackModel$Box", "fields", "LSourceBackModel$Ints;", true)
  | 10 => ("SourceBackModel$Box", "entryOf", "LSourceBackModel$Ints;", true)
  | 11 => ("SourceBackModel$Box", "members", "[LSourceBackModel$Member;", true)
  | 12 => ("SourceBackModel$Box", "memberCount", "I", false)
  | 13 => ("SourceBackModel$Box", "hasMade", "Z", false)
  | _ => ("SourceBackModel$Box", "made", "LSourceBackModel$Box;", false)
def t_MX : Nat → FieldType := fun k => match k with
  | 0 => .object "SourceBackModel$Bytes"
  | 1 => .int
  | 2 => .int
  | 3 => .object "SourceBackModel$Ints"
  | 4 => .object "SourceBackModel$Ints"
  | 5 => .object "SourceBackModel$Ints"
  | 6 => .object "SourceBackModel$Ints"
  | 7 => .object "SourceBackModel$Ints"
  | 8 => .object "SourceBackModel$Longs"
  | 9 => .object "SourceBackModel$Ints"
  | 10 => .object "SourceBackModel$Ints"
  | 11 => .array (.object "SourceBackModel$Member")
  | 12 => .int
  | 13 => .boolean
  | _ => .object "SourceBackModel$Box"
set_option maxRecDepth 20000 in
theorem n_MX : ∀ a, a < 15 → ∀ b, b < 15 → a ≠ b → (F_MX a).2.1 ≠ (F_MX b).2.1 := by decide +kernel
set_option maxRecDepth 20000 in
theorem t_MX_ok : ∀ k, k < 15 → parseFieldDescriptor (F_MX k).2.2.1 = some (t_MX k) := by decide +kernel
def R_SS : String := "SourceBack"
def F_SS : u_T := fun k => match k with
  | 0 => ("SourceBack", "tape", "[B", false)
  | 1 => ("SourceBack", "tapeLength", "I", false)
  | 2 => ("SourceBack", "forms", "[LSourceBack$Form;", true)
  | 3 => ("SourceBack", "fileCount", "I", false)
  | 4 => ("SourceBack", "kept", "[LSourceBack$Form;", true)
  | 5 => ("SourceBack", "undoable", "[I", true)
  | 6 => ("SourceBack", "begun", "I", false)
  | 7 => ("SourceBack", "sides", "[LSourceBack$Side;", true)
  | 8 => ("SourceBack", "reader", "LSourceBack$Reader;", true)
  | 9 => ("SourceBack", "flow", "LSourceBack$Flow;", true)
  | 10 => ("SourceBack", "blocks", "LSourceBack$Blocks;", true)
  | 11 => ("SourceBack", "nodes", "LSourceBack$Nodes;", true)
  | 12 => ("SourceBack", "tree", "LSourceBack$Tree;", true)
  | 13 => ("SourceBack", "printer", "LSourceBack$Printer;", true)
  | 14 => ("SourceBack", "maker", "LSourceBack$Maker;", true)
  | 15 => ("SourceBack", "judge", "LSourceBack$Judge;", true)
  | 16 => ("SourceBack", "seenForm", "LSourceBack$Form;", false)
  | _ => ("SourceBack", "seenMember", "I", false)
def t_SS : Nat → FieldType := fun k => match k with
  | 0 => .array (.byte)
  | 1 => .int
  | 2 => .array (.object "SourceBack$Form")
  | 3 => .int
  | 4 => .array (.object "SourceBack$Form")
  | 5 => .array (.int)
  | 6 => .int
  | 7 => .array (.object "SourceBack$Side")
  | 8 => .object "SourceBack$Reader"
  | 9 => .object "SourceBack$Flow"
  | 10 => .object "SourceBack$Blocks"
  | 11 => .object "SourceBack$Nodes"
  | 12 => .object "SourceBack$Tree"
  | 13 => .object "SourceBack$Printer"
  | 14 => .object "SourceBack$Maker"
  | 15 => .object "SourceBack$Judge"
  | 16 => .object "SourceBack$Form"
  | _ => .int
set_option maxRecDepth 20000 in
theorem n_SS : ∀ a, a < 18 → ∀ b, b < 18 → a ≠ b → (F_SS a).2.1 ≠ (F_SS b).2.1 := by decide +kernel
set_option maxRecDepth 20000 in
theorem t_SS_ok : ∀ k, k < 18 → parseFieldDescriptor (F_SS k).2.2.1 = some (t_SS k) := by decide +kernel
def R_SR : String := "SourceBack$Reader"
def F_SR : u_T := fun k => match k with
  | 0 => ("SourceBack$Reader", "form", "LSourceBack$Form;", false)
  | 1 => ("SourceBack$Reader", "at", "I", false)
  | _ => ("SourceBack$Reader", "fault", "I", false)
def t_SR : Nat → FieldType := fun k => match k with
  | 0 => .object "SourceBack$Form"
  | 1 => .int
  | _ => .int
set_option maxRecDepth 20000 in
theorem n_SR : ∀ a, a < 3 → ∀ b, b < 3 → a ≠ b → (F_SR a).2.1 ≠ (F_SR b).2.1 := by decide +kernel
set_option maxRecDepth 20000 in
theorem t_SR_ok : ∀ k, k < 3 → parseFieldDescriptor (F_SR k).2.2.1 = some (t_SR k) := by decide +kernel
def R_SF : String := "SourceBack$Flow"
def F_SF : u_T := fun k => match k with
  | 0 => ("SourceBack$Flow", "form", "LSourceBack$Form;", false)
  | 1 => ("SourceBack$Flow", "code", "[B", false)
  | 2 => ("SourceBack$Flow", "base", "I", false)
  | 3 => ("SourceBack$Flow", "length", "I", false)
  | 4 => ("SourceBack$Flow", "locals", "I", false)
  | 5 => ("SourceBack$Flow", "most", "I", false)
  | 6 => ("SourceBack$Flow", "sign", "I", false)
  | 7 => ("SourceBack$Flow", "acts", "I", false)
  | 8 => ("SourceBack$Flow", "at", "[I", false)
  | 9 => ("SourceBack$Flow", "index", "[I", false)
  | 10 => ("SourceBack$Flow", "deep", "[I", false)
  | 11 => ("SourceBack$Flow", "low", "[J", false)
  | 12 => ("SourceBack$Flow", "high", "[J", false)
  | 13 => ("SourceBack$Flow", "pile", "[J", false)
  | 14 => ("SourceBack$Flow", "nowLow", "J", false)
  | 15 => ("SourceBack$Flow", "nowHigh", "J", false)
  | 16 => ("SourceBack$Flow", "nowPile", "J", false)
  | 17 => ("SourceBack$Flow", "nowDeep", "I", false)
  | _ => ("SourceBack$Flow", "changed", "Z", false)
def t_SF : Nat → FieldType := fun k => match k with
  | 0 => .object "SourceBack$Form"
  | 1 => .array (.byte)
  | 2 => .int
  | 3 => .int
  | 4 => .int
  | 5 => .int
  | 6 => .int
  | 7 => .int
  | 8 => .array (.int)
  | 9 => .array (.int)
  | 10 => .array (.int)
  | 11 => .array (.long)
  | 12 => .array (.long)
  | 13 => .array (.long)
  | 14 => .long
  | 15 => .long
  | 16 => .long
  | 17 => .int
  | _ => .boolean
set_option maxRecDepth 20000 in
theorem n_SF : ∀ a, a < 19 → ∀ b, b < 19 → a ≠ b → (F_SF a).2.1 ≠ (F_SF b).2.1 := by decide +kernel
set_option maxRecDepth 20000 in
theorem t_SF_ok : ∀ k, k < 19 → parseFieldDescriptor (F_SF k).2.2.1 = some (t_SF k) := by decide +kernel
def R_SK : String := "SourceBack$Blocks"
def F_SK : u_T := fun k => match k with
  | 0 => ("SourceBack$Blocks", "count", "I", false)
  | 1 => ("SourceBack$Blocks", "knotted", "Z", false)
  | 2 => ("SourceBack$Blocks", "flow", "LSourceBack$Flow;", false)
  | 3 => ("SourceBack$Blocks", "begins", "[I", false)
  | 4 => ("SourceBack$Blocks", "holder", "[I", false)
  | 5 => ("SourceBack$Blocks", "first", "[I", false)
  | 6 => ("SourceBack$Blocks", "last", "[I", false)
  | 7 => ("SourceBack$Blocks", "from", "[I", false)
  | 8 => ("SourceBack$Blocks", "numberOf", "[I", false)
  | 9 => ("SourceBack$Blocks", "nextWay", "[I", false)
  | 10 => ("SourceBack$Blocks", "ends", "[I", false)
  | 11 => ("SourceBack$Blocks", "endCount", "I", false)
  | 12 => ("SourceBack$Blocks", "standing", "[I", false)
  | 13 => ("SourceBack$Blocks", "parents", "[I", false)
  | 14 => ("SourceBack$Blocks", "marks", "[I", false)
  | _ => ("SourceBack$Blocks", "stack", "[I", false)
def t_SK : Nat → FieldType := fun k => match k with
  | 0 => .int
  | 1 => .boolean
  | 2 => .object "SourceBack$Flow"
  | 3 => .array (.int)
  | 4 => .array (.int)
  | 5 => .array (.int)
  | 6 => .array (.int)
  | 7 => .array (.int)
  | 8 => .array (.int)
  | 9 => .array (.int)
  | 10 => .array (.int)
  | 11 => .int
  | 12 => .array (.int)
  | 13 => .array (.int)
  | 14 => .array (.int)
  | _ => .array (.int)
set_option maxRecDepth 20000 in
theorem n_SK : ∀ a, a < 16 → ∀ b, b < 16 → a ≠ b → (F_SK a).2.1 ≠ (F_SK b).2.1 := by decide +kernel
set_option maxRecDepth 20000 in
theorem t_SK_ok : ∀ k, k < 16 → parseFieldDescriptor (F_SK k).2.2.1 = some (t_SK k) := by decide +kernel
def R_SN : String := "SourceBack$Nodes"
def F_SN : u_T := fun k => match k with
  | 0 => ("SourceBack$Nodes", "row", "[I", false)
  | _ => ("SourceBack$Nodes", "nodes", "I", false)
def t_SN : Nat → FieldType := fun k => match k with
  | 0 => .array (.int)
  | _ => .int
set_option maxRecDepth 20000 in
theorem n_SN : ∀ a, a < 2 → ∀ b, b < 2 → a ≠ b → (F_SN a).2.1 ≠ (F_SN b).2.1 := by decide +kernel
set_option maxRecDepth 20000 in
theorem t_SN_ok : ∀ k, k < 2 → parseFieldDescriptor (F_SN k).2.2.1 = some (t_SN k) := by decide +kernel
def R_ST : String := "SourceBack$Tree"
def F_ST : u_T := fun k => match k with
  | 0 => ("SourceBack$Tree", "nodes", "LSourceBack$Nodes;", true)
  | 1 => ("SourceBack$Tree", "flow", "LSourceBack$Flow;", false)
  | 2 => ("SourceBack$Tree", "blocks", "LSourceBack$Blocks;", false)
  | 3 => ("SourceBack$Tree", "numbers", "J", false)
  | 4 => ("SourceBack$Tree", "arrays", "J", false)
  | 5 => ("SourceBack$Tree", "numberTemporaries", "I", false)
  | 6 => ("SourceBack$Tree", "arrayTemporaries", "I", false)
  | 7 => ("SourceBack$Tree", "numberPlace", "Z", false)
  | 8 => ("SourceBack$Tree", "arrayPlace", "Z", false)
  | 9 => ("SourceBack$Tree", "pile", "[I", true)
  | 10 => ("SourceBack$Tree", "deep", "I", false)
  | 11 => ("SourceBack$Tree", "list", "I", false)
  | 12 => ("SourceBack$Tree", "blockNode", "[I", false)
  | 13 => ("SourceBack$Tree", "loopNode", "[I", false)
  | 14 => ("SourceBack$Tree", "work", "[I", false)
  | 15 => ("SourceBack$Tree", "waiting", "I", false)
  | 16 => ("SourceBack$Tree", "dispatcher", "I", false)
  | _ => ("SourceBack$Tree", "tooDeep", "Z", false)
def t_ST : Nat → FieldType := fun k => match k with
  | 0 => .object "SourceBack$Nodes"
  | 1 => .object "SourceBack$Flow"
  | 2 => .object "SourceBack$Blocks"
  | 3 => .long
  | 4 => .long
  | 5 => .int
  | 6 => .int
  | 7 => .boolean
  | 8 => .boolean
  | 9 => .array (.int)
  | 10 => .int
  | 11 => .int
  | 12 => .array (.int)
  | 13 => .array (.int)
  | 14 => .array (.int)
  | 15 => .int
  | 16 => .int
  | _ => .boolean
set_option maxRecDepth 20000 in
theorem n_ST : ∀ a, a < 18 → ∀ b, b < 18 → a ≠ b → (F_ST a).2.1 ≠ (F_ST b).2.1 := by decide +kernel
set_option maxRecDepth 20000 in
theorem t_ST_ok : ∀ k, k < 18 → parseFieldDescriptor (F_ST k).2.2.1 = some (t_ST k) := by decide +kernel
def R_SP : String := "SourceBack$Printer"
def F_SP : u_T := fun k => match k with
  | 0 => ("SourceBack$Printer", "out", "[B", false)
  | 1 => ("SourceBack$Printer", "length", "I", false)
  | 2 => ("SourceBack$Printer", "nodes", "LSourceBack$Nodes;", true)
  | 3 => ("SourceBack$Printer", "form", "LSourceBack$Form;", false)
  | 4 => ("SourceBack$Printer", "flow", "LSourceBack$Flow;", false)
  | 5 => ("SourceBack$Printer", "stack", "[I", false)
  | _ => ("SourceBack$Printer", "top", "I", false)
def t_SP : Nat → FieldType := fun k => match k with
  | 0 => .array (.byte)
  | 1 => .int
  | 2 => .object "SourceBack$Nodes"
  | 3 => .object "SourceBack$Form"
  | 4 => .object "SourceBack$Flow"
  | 5 => .array (.int)
  | _ => .int
set_option maxRecDepth 20000 in
theorem n_SP : ∀ a, a < 7 → ∀ b, b < 7 → a ≠ b → (F_SP a).2.1 ≠ (F_SP b).2.1 := by decide +kernel
set_option maxRecDepth 20000 in
theorem t_SP_ok : ∀ k, k < 7 → parseFieldDescriptor (F_SP k).2.2.1 = some (t_SP k) := by decide +kernel
def R_SM : String := "SourceBack$Maker"
def F_SM : u_T := fun k => match k with
  | 0 => ("SourceBack$Maker", "rows", "[I", false)
  | 1 => ("SourceBack$Maker", "rowCount", "I", false)
  | 2 => ("SourceBack$Maker", "offsets", "[I", false)
  | 3 => ("SourceBack$Maker", "labels", "[I", false)
  | 4 => ("SourceBack$Maker", "labelCount", "I", false)
  | 5 => ("SourceBack$Maker", "keys", "[I", false)
  | 6 => ("SourceBack$Maker", "keyCount", "I", false)
  | 7 => ("SourceBack$Maker", "switches", "I", false)
  | 8 => ("SourceBack$Maker", "numbers", "[J", false)
  | 9 => ("SourceBack$Maker", "numberCount", "I", false)
  | 10 => ("SourceBack$Maker", "code", "[B", false)
  | 11 => ("SourceBack$Maker", "codeLength", "I", false)
  | 12 => ("SourceBack$Maker", "locals", "I", false)
  | 13 => ("SourceBack$Maker", "pile", "I", false)
  | 14 => ("SourceBack$Maker", "pool", "[B", false)
  | 15 => ("SourceBack$Maker", "poolLength", "I", false)
  | 16 => ("SourceBack$Maker", "entryAt", "[I", false)
  | 17 => ("SourceBack$Maker", "entryCount", "I", false)
  | 18 => ("SourceBack$Maker", "bodies", "[B", false)
  | _ => ("SourceBack$Maker", "bodyLength", "I", false)
def t_SM : Nat → FieldType := fun k => match k with
  | 0 => .array (.int)
  | 1 => .int
  | 2 => .array (.int)
  | 3 => .array (.int)
  | 4 => .int
  | 5 => .array (.int)
  | 6 => .int
  | 7 => .int
  | 8 => .array (.long)
  | 9 => .int
  | 10 => .array (.byte)
  | 11 => .int
  | 12 => .int
  | 13 => .int
  | 14 => .array (.byte)
  | 15 => .int
  | 16 => .array (.int)
  | 17 => .int
  | 18 => .array (.byte)
  | _ => .int
set_option maxRecDepth 20000 in
theorem n_SM : ∀ a, a < 20 → ∀ b, b < 20 → a ≠ b → (F_SM a).2.1 ≠ (F_SM b).2.1 := by decide +kernel
set_option maxRecDepth 20000 in
theorem t_SM_ok : ∀ k, k < 20 → parseFieldDescriptor (F_SM k).2.2.1 = some (t_SM k) := by decide +kernel
def R_SJ : String := "SourceBack$Judge"
def F_SJ : u_T := fun k => match k with
  | 0 => ("SourceBack$Judge", "tokens", "LSourceBack$Tokens;", true)
  | 1 => ("SourceBack$Judge", "maker", "LSourceBack$Maker;", true)
  | 2 => ("SourceBack$Judge", "form", "LSourceBack$Form;", false)
  | 3 => ("SourceBack$Judge", "fault", "I", false)
  | 4 => ("SourceBack$Judge", "state", "I", false)
  | 5 => ("SourceBack$Judge", "purpose", "I", false)
  | 6 => ("SourceBack$Judge", "subject", "I", false)
  | 7 => ("SourceBack$Judge", "termKind", "I", false)
  | 8 => ("SourceBack$Judge", "termAt", "I", false)
  | 9 => ("SourceBack$Judge", "termIs", "I", false)
  | 10 => ("SourceBack$Judge", "stack", "[I", true)
  | 11 => ("SourceBack$Judge", "top", "I", false)
  | 12 => ("SourceBack$Judge", "nested", "I", false)
  | 13 => ("SourceBack$Judge", "frames", "[I", true)
  | 14 => ("SourceBack$Judge", "open", "I", false)
  | 15 => ("SourceBack$Judge", "told", "[I", true)
  | 16 => ("SourceBack$Judge", "variables", "I", false)
  | 17 => ("SourceBack$Judge", "parameters", "I", false)
  | 18 => ("SourceBack$Judge", "result", "I", false)
  | 19 => ("SourceBack$Judge", "firstAt", "I", false)
  | _ => ("SourceBack$Judge", "nameAt", "I", false)
def t_SJ : Nat → FieldType := fun k => match k with
  | 0 => .object "SourceBack$Tokens"
  | 1 => .object "SourceBack$Maker"
  | 2 => .object "SourceBack$Form"
  | 3 => .int
  | 4 => .int
  | 5 => .int
  | 6 => .int
  | 7 => .int
  | 8 => .int
  | 9 => .int
  | 10 => .array (.int)
  | 11 => .int
  | 12 => .int
  | 13 => .array (.int)
  | 14 => .int
  | 15 => .array (.int)
  | 16 => .int
  | 17 => .int
  | 18 => .int
  | 19 => .int
  | _ => .int
set_option maxRecDepth 20000 in
theorem n_SJ : ∀ a, a < 21 → ∀ b, b < 21 → a ≠ b → (F_SJ a).2.1 ≠ (F_SJ b).2.1 := by decide +kernel
set_option maxRecDepth 20000 in
theorem t_SJ_ok : ∀ k, k < 21 → parseFieldDescriptor (F_SJ k).2.2.1 = some (t_SJ k) := by decide +kernel
def R_SO : String := "SourceBack$Tokens"
def F_SO : u_T := fun k => match k with
  | 0 => ("SourceBack$Tokens", "text", "[B", false)
  | 1 => ("SourceBack$Tokens", "length", "I", false)
  | 2 => ("SourceBack$Tokens", "type", "I", false)
  | 3 => ("SourceBack$Tokens", "start", "I", false)
  | _ => ("SourceBack$Tokens", "stop", "I", false)
def t_SO : Nat → FieldType := fun k => match k with
  | 0 => .array (.byte)
  | 1 => .int
  | 2 => .int
  | 3 => .int
  | _ => .int
set_option maxRecDepth 20000 in
theorem n_SO : ∀ a, a < 5 → ∀ b, b < 5 → a ≠ b → (F_SO a).2.1 ≠ (F_SO b).2.1 := by decide +kernel
set_option maxRecDepth 20000 in
theorem t_SO_ok : ∀ k, k < 5 → parseFieldDescriptor (F_SO k).2.2.1 = some (t_SO k) := by decide +kernel
def R_SD : String := "SourceBack$Side"
def F_SD : u_T := fun k => match k with
  | 0 => ("SourceBack$Side", "forms", "[LSourceBack$Form;", true)
  | 1 => ("SourceBack$Side", "files", "I", false)
  | 2 => ("SourceBack$Side", "fields", "[[J", true)
  | 3 => ("SourceBack$Side", "arrays", "I", false)
  | 4 => ("SourceBack$Side", "arrayAt", "[I", false)
  | 5 => ("SourceBack$Side", "cells", "[J", false)
  | 6 => ("SourceBack$Side", "frames", "[I", true)
  | 7 => ("SourceBack$Side", "open", "I", false)
  | 8 => ("SourceBack$Side", "values", "[J", false)
  | 9 => ("SourceBack$Side", "status", "I", false)
  | 10 => ("SourceBack$Side", "failure", "I", false)
  | 11 => ("SourceBack$Side", "failNumber", "J", false)
  | 12 => ("SourceBack$Side", "result", "J", false)
  | _ => ("SourceBack$Side", "steps", "I", false)
def t_SD : Nat → FieldType := fun k => match k with
  | 0 => .array (.object "SourceBack$Form")
  | 1 => .int
  | 2 => .array (.array (.long))
  | 3 => .int
  | 4 => .array (.int)
  | 5 => .array (.long)
  | 6 => .array (.int)
  | 7 => .int
  | 8 => .array (.long)
  | 9 => .int
  | 10 => .int
  | 11 => .long
  | 12 => .long
  | _ => .int
set_option maxRecDepth 20000 in
theorem n_SD : ∀ a, a < 14 → ∀ b, b < 14 → a ≠ b → (F_SD a).2.1 ≠ (F_SD b).2.1 := by decide +kernel
set_option maxRecDepth 20000 in
theorem t_SD_ok : ∀ k, k < 14 → parseFieldDescriptor (F_SD k).2.2.1 = some (t_SD k) := by decide +kernel
def R_SQ : String := "SourceBack$Form"
def F_SQ : u_T := fun k => match k with
  | 0 => ("SourceBack$Form", "bytes", "[B", false)
  | 1 => ("SourceBack$Form", "size", "I", false)
  | 2 => ("SourceBack$Form", "entryCount", "I", false)
  | 3 => ("SourceBack$Form", "entryAt", "[I", false)
  | 4 => ("SourceBack$Form", "nameAt", "I", false)
  | 5 => ("SourceBack$Form", "fields", "I", false)
  | 6 => ("SourceBack$Form", "fieldEntry", "[I", false)
  | 7 => ("SourceBack$Form", "members", "I", false)
  | 8 => ("SourceBack$Form", "memberAt", "[I", false)
  | 9 => ("SourceBack$Form", "texts", "[[B", false)
  | 10 => ("SourceBack$Form", "textKnown", "[B", false)
  | 11 => ("SourceBack$Form", "againKnown", "[B", false)
  | 12 => ("SourceBack$Form", "again", "[I", false)
  | 13 => ("SourceBack$Form", "madeKnown", "Z", false)
  | 14 => ("SourceBack$Form", "made", "LSourceBack$Form;", false)
  | _ => ("SourceBack$Form", "edited", "I", false)
def t_SQ : Nat → FieldType := fun k => match k with
  | 0 => .array (.byte)
  | 1 => .int
  | 2 => .int
  | 3 => .array (.int)
  | 4 => .int
  | 5 => .int
  | 6 => .array (.int)
  | 7 => .int
  | 8 => .array (.int)
  | 9 => .array (.array (.byte))
  | 10 => .array (.byte)
  | 11 => .array (.byte)
  | 12 => .array (.int)
  | 13 => .boolean
  | 14 => .object "SourceBack$Form"
  | _ => .int
set_option maxRecDepth 20000 in
theorem n_SQ : ∀ a, a < 16 → ∀ b, b < 16 → a ≠ b → (F_SQ a).2.1 ≠ (F_SQ b).2.1 := by decide +kernel
set_option maxRecDepth 20000 in
theorem t_SQ_ok : ∀ k, k < 16 → parseFieldDescriptor (F_SQ k).2.2.1 = some (t_SQ k) := by decide +kernel
abbrev classes : List vw_C := [(R_MM, F_MM, 132), (R_MH, F_MH, 8), (R_MB, F_MB, 2), (R_MI, F_MI, 2), (R_ML, F_ML, 2), (R_MR, F_MR, 24), (R_MX, F_MX, 15), (R_SS, F_SS, 18), (R_SR, F_SR, 3), (R_SF, F_SF, 19), (R_SK, F_SK, 16), (R_SN, F_SN, 2), (R_ST, F_ST, 18), (R_SP, F_SP, 7), (R_SM, F_SM, 20), (R_SJ, F_SJ, 21), (R_SO, F_SO, 5), (R_SD, F_SD, 14), (R_SQ, F_SQ, 16)]
abbrev ax_tys (ca : Nat → ClassId) : List (ClassId × FieldType) := [(ca 0, .byte), (ca 1, .int), (ca 2, .long), (ca 3, .boolean), (ca 4, .object "SourceBackModel$Box"), (ca 5, .object "SourceBack$Side"), (ca 6, .object "SourceBack$Form"), (ca 7, .object "java/lang/String")]
abbrev b_MM_init : ByteArray := prog_14_method_1_code
def y_MM_init : MethodName := ⟨R_MM, "<init>", "()V"⟩
abbrev b_MM_thrown : ByteArray := prog_14_method_2_code
def y_MM_thrown : MethodName := ⟨R_MM, "thrown", "()I"⟩
abbrev b_MM_in : ByteArray := prog_14_method_3_code
def y_MM_in : MethodName := ⟨R_MM, "in", "(JJJ)Z"⟩
abbrev b_MM_feed : ByteArray := prog_14_method_4_code
def y_MM_feed : MethodName := ⟨R_MM, "feed", "(JI)I"⟩
abbrev b_MM_must : ByteArray := prog_14_method_12_code
def y_MM_must : MethodName := ⟨R_MM, "must", "(ZII)V"⟩
abbrev b_MM_reads : ByteArray := prog_14_method_13_code
def y_MM_reads : MethodName := ⟨R_MM, "reads", "(I)J"⟩
abbrev b_MM_newBox : ByteArray := prog_14_method_16_code
def y_MM_newBox : MethodName := ⟨R_MM, "newBox", "()LSourceBackModel$Box;"⟩
abbrev b_MM_gives : ByteArray := prog_14_method_17_code
def y_MM_gives : MethodName := ⟨R_MM, "gives", "(LSourceBackModel$Box;)V"⟩
abbrev b_MM_take : ByteArray := prog_14_method_18_code
def y_MM_take : MethodName := ⟨R_MM, "take", "()I"⟩
abbrev b_MM_readsFile : ByteArray := prog_14_method_19_code
def y_MM_readsFile : MethodName := ⟨R_MM, "readsFile", "()V"⟩
abbrev b_MM_act_1 : ByteArray := prog_14_method_60_code
def y_MM_act_1 : MethodName := ⟨R_MM, "act", "(LSourceBackModel$Member;I)V"⟩
abbrev b_MM_member_0 : ByteArray := prog_14_method_156_code
def y_MM_member_0 : MethodName := ⟨R_MM, "member", "(II)I"⟩
abbrev b_MM_judge : ByteArray := prog_14_method_182_code
def y_MM_judge : MethodName := ⟨R_MM, "judge", "(I)I"⟩
abbrev b_MM_edit : ByteArray := prog_14_method_202_code
def y_MM_edit : MethodName := ⟨R_MM, "edit", "(II)I"⟩
abbrev b_MM_undo : ByteArray := prog_14_method_204_code
def y_MM_undo : MethodName := ⟨R_MM, "undo", "(I)Z"⟩
abbrev b_MM_isMember : ByteArray := prog_14_method_205_code
def y_MM_isMember : MethodName := ⟨R_MM, "isMember", "(II)Z"⟩
abbrev b_MM_pair : ByteArray := prog_14_method_206_code
def y_MM_pair : MethodName := ⟨R_MM, "pair", "(III)I"⟩
abbrev b_MM_alike : ByteArray := prog_14_method_207_code
def y_MM_alike : MethodName := ⟨R_MM, "alike", "(III)I"⟩
abbrev b_MM_settles : ByteArray := prog_14_method_208_code
def y_MM_settles : MethodName := ⟨R_MM, "settles", "()V"⟩
abbrev b_MM_settle : ByteArray := prog_14_method_209_code
def y_MM_settle : MethodName := ⟨R_MM, "settle", "()V"⟩
abbrev b_MM_call : ByteArray := prog_14_method_214_code
def y_MM_call : MethodName := ⟨R_MM, "call", "(IIIJJ)Z"⟩
abbrev b_MM_steps : ByteArray := prog_14_method_215_code
def y_MM_steps : MethodName := ⟨R_MM, "steps", "(II)I"⟩
abbrev b_MM_file : ByteArray := prog_14_method_227_code
def y_MM_file : MethodName := ⟨R_MM, "file", "(II)I"⟩
abbrev b_MM_byteAt : ByteArray := prog_14_method_228_code
def y_MM_byteAt : MethodName := ⟨R_MM, "byteAt", "(III)I"⟩
abbrev b_MM_entry : ByteArray := prog_14_method_229_code
def y_MM_entry : MethodName := ⟨R_MM, "entry", "(III)J"⟩
abbrev b_MM_member_1 : ByteArray := prog_14_method_230_code
def y_MM_member_1 : MethodName := ⟨R_MM, "member", "(III)I"⟩
abbrev b_MM_act_0 : ByteArray := prog_14_method_231_code
def y_MM_act_0 : MethodName := ⟨R_MM, "act", "(IIII)I"⟩
abbrev b_MM_kind : ByteArray := prog_14_method_232_code
def y_MM_kind : MethodName := ⟨R_MM, "kind", "(IIII)I"⟩
abbrev b_MM_block : ByteArray := prog_14_method_233_code
def y_MM_block : MethodName := ⟨R_MM, "block", "(IIII)I"⟩
abbrev b_MM_text : ByteArray := prog_14_method_234_code
def y_MM_text : MethodName := ⟨R_MM, "text", "(III)I"⟩
abbrev b_MM_state : ByteArray := prog_14_method_235_code
def y_MM_state : MethodName := ⟨R_MM, "state", "(II)J"⟩
abbrev b_MM_field : ByteArray := prog_14_method_236_code
def y_MM_field : MethodName := ⟨R_MM, "field", "(III)J"⟩
abbrev b_MM_element : ByteArray := prog_14_method_237_code
def y_MM_element : MethodName := ⟨R_MM, "element", "(III)J"⟩
abbrev b_MM_count : ByteArray := prog_14_method_238_code
def y_MM_count : MethodName := ⟨R_MM, "count", "(I)I"⟩
abbrev b_MX_init : ByteArray := prog_15_method_1_code
def y_MX_init : MethodName := ⟨R_MX, "<init>", "()V"⟩
abbrev b_MX_clear : ByteArray := prog_15_method_2_code
def y_MX_clear : MethodName := ⟨R_MX, "clear", "()V"⟩
abbrev b_MX_add : ByteArray := prog_15_method_3_code
def y_MX_add : MethodName := ⟨R_MX, "add", "(I)I"⟩
abbrev b_MB_init : ByteArray := prog_16_method_1_code
def y_MB_init : MethodName := ⟨R_MB, "<init>", "()V"⟩
abbrev b_MB_add : ByteArray := prog_16_method_4_code
def y_MB_add : MethodName := ⟨R_MB, "add", "(I)V"⟩
abbrev b_MB_addLong : ByteArray := prog_16_method_6_code
def y_MB_addLong : MethodName := ⟨R_MB, "addLong", "(JI)V"⟩
abbrev b_MH_init : ByteArray := prog_17_method_1_code
def y_MH_init : MethodName := ⟨R_MH, "<init>", "()V"⟩
abbrev b_MH_of : ByteArray := prog_17_method_2_code
def y_MH_of : MethodName := ⟨R_MH, "of", "(II)LSourceBackModel$Halt;"⟩
abbrev b_MI_init : ByteArray := prog_18_method_1_code
def y_MI_init : MethodName := ⟨R_MI, "<init>", "(I)V"⟩
abbrev b_MI_add : ByteArray := prog_18_method_5_code
def y_MI_add : MethodName := ⟨R_MI, "add", "(I)V"⟩
abbrev b_ML_init : ByteArray := prog_19_method_1_code
def y_ML_init : MethodName := ⟨R_ML, "<init>", "(I)V"⟩
abbrev b_ML_add : ByteArray := prog_19_method_4_code
def y_ML_add : MethodName := ⟨R_ML, "add", "(J)V"⟩
abbrev b_MR_init : ByteArray := prog_20_method_1_code
def y_MR_init : MethodName := ⟨R_MR, "<init>", "(II)V"⟩
def wm_l : List Cond := [.initialized R_MM,
  .initialized R_MH,
  .initialized R_MB,
  .initialized R_MI,
  .initialized R_MR,
  .initialized R_ML,
  .initialized "java/lang/String",
  .initialized R_MX,
  .instanceMethod objectInit,
  .code objectInit ⟨#[0xb1]⟩ 1 none,
  .arrayClass FieldType.byte,
  .arrayClass FieldType.int,
  .arrayClass FieldType.long,
  .instantiable "java/lang/String" 4,
  .instantiable R_MM 132,
  .instanceMethod y_MM_init,
  .code y_MM_init b_MM_init 1 none,
  .methodLink R_MM 1 objectInit,
  .classLink R_MM 7 R_MH,
  .instantiable R_MH 8,
  .instanceMethod y_MH_init,
  .code y_MH_init b_MH_init 1 none,
  .methodLink R_MH 1 ⟨"java/lang/RuntimeException", "<init>", "()V"⟩,
  .fieldLink R_MH 7 "SourceBackModel$Halt" "number" "I",
  .fieldLink R_MH 13 "SourceBackModel$Halt" "place" "I",
  .classLink R_MM 16 R_MB,
  .instantiable R_MB 2,
  .instanceMethod y_MB_init,
  .code y_MB_init b_MB_init 1 none,
  .methodLink R_MB 1 objectInit,
  .fieldLink R_MB 7 "SourceBackModel$Bytes" "a" "[B",
  .fieldLink R_MB 13 "SourceBackModel$Bytes" "size" "I",
  .classLink R_MM 26 R_MI,
  .instantiable R_MI 2,
  .methodLink R_MM 28 y_MI_init,
  .instanceMethod y_MI_init,
  .code y_MI_init b_MI_init 2 none,
  .methodLink R_MI 1 objectInit,
  .fieldLink R_MI 7 "SourceBackModel$Ints" "a" "[I",
  .fieldLink R_MI 13 "SourceBackModel$Ints" "size" "I",
  .classLink R_MM 38 R_MX,
  .classLink R_MM 57 R_MR,
  .instantiable R_MR 24,
  .methodLink R_MM 59 y_MR_init,
  .instanceMethod y_MR_init,
  .code y_MR_init b_MR_init 3 none,
  .methodLink R_MR 3 objectInit,
  .classLink R_MR 9 R_MI,
  .methodLink R_MR 11 y_MI_init,
  .classLink R_MR 29 R_ML,
  .instantiable R_ML 2,
  .methodLink R_MR 31 y_ML_init,
  .instanceMethod y_ML_init,
  .code y_ML_init b_ML_init 2 none,
  .methodLink R_ML 1 objectInit,
  .fieldLink R_ML 7 "SourceBackModel$Longs" "a" "[J",
  .fieldLink R_ML 13 "SourceBackModel$Longs" "size" "I",
  .fieldLink R_MR 14 "SourceBackModel$Member" "at" "LSourceBackModel$Ints;",
  .fieldLink R_MR 20 "SourceBackModel$Member" "op" "LSourceBackModel$Ints;",
  .fieldLink R_MR 23 "SourceBackModel$Member" "a" "LSourceBackModel$Ints;",
  .fieldLink R_MR 26 "SourceBackModel$Member" "b" "LSourceBackModel$Ints;",
  .fieldLink R_MR 32 "SourceBackModel$Member" "v" "LSourceBackModel$Longs;",
  .fieldLink R_MR 36 "SourceBackModel$Member" "owner" "LSourceBackModel$Ints;",
  .fieldLink R_MR 39 "SourceBackModel$Member" "of" "LSourceBackModel$Ints;",
  .fieldLink R_MR 42 "SourceBackModel$Member" "sort" "LSourceBackModel$Ints;",
  .fieldLink R_MR 45 "SourceBackModel$Member" "key" "LSourceBackModel$Longs;",
  .fieldLink R_MR 48 "SourceBackModel$Member" "end" "LSourceBackModel$Ints;",
  .constant R_MM 66 (240000 : Int32),
  .constant R_MM 71 (244000 : Int32),
  .classLink R_MM 139 R_ML,
  .methodLink R_MM 141 y_ML_init,
  .classLink R_MM 209 "java/lang/String",
  .constant R_MM 314 (80000 : Int32),
  .fieldLink R_MM 343 "SourceBackModel" "thrown" "I",
  .fieldLink R_MM 10 "SourceBackModel" "halt" "LSourceBackModel$Halt;",
  .fieldLink R_MM 19 "SourceBackModel" "tape" "LSourceBackModel$Bytes;",
  .fieldLink R_MM 23 "SourceBackModel" "letters" "LSourceBackModel$Bytes;",
  .fieldLink R_MM 31 "SourceBackModel" "wordFrom" "LSourceBackModel$Ints;",
  .fieldLink R_MM 35 "SourceBackModel" "wordSize" "LSourceBackModel$Ints;",
  .fieldLink R_MM 390 "SourceBackModel" "size" "I",
  .fieldLink R_MM 387 "SourceBackModel" "at" "I",
  .fieldLink R_MM 410 "SourceBackModel" "count" "I",
  .fieldLink R_MM 40 "SourceBackModel" "files" "[LSourceBackModel$Box;",
  .fieldLink R_MM 44 "SourceBackModel" "older" "[LSourceBackModel$Box;",
  .fieldLink R_MM 47 "SourceBackModel" "edits" "[I",
  .fieldLink R_MM 51 "SourceBackModel" "spares" "[LSourceBackModel$Box;",
  .fieldLink R_MM 403 "SourceBackModel" "spareCount" "I",
  .fieldLink R_MM 417 "SourceBackModel" "box" "LSourceBackModel$Box;",
  .fieldLink R_MM 54 "SourceBackModel" "places" "LSourceBackModel$Ints;",
  .fieldLink R_MM 498 "SourceBackModel" "nameAt" "I",
  .fieldLink R_MM 62 "SourceBackModel" "reading" "LSourceBackModel$Member;",
  .fieldLink R_MM 67 "SourceBackModel" "localKind" "[B",
  .fieldLink R_MM 72 "SourceBackModel" "pileKind" "[B",
  .fieldLink R_MM 75 "SourceBackModel" "depth" "[I",
  .fieldLink R_MM 78 "SourceBackModel" "nowLocal" "[B",
  .fieldLink R_MM 81 "SourceBackModel" "nowPile" "[B",
  .fieldLink R_MM 712 "SourceBackModel" "blocks" "I",
  .fieldLink R_MM 84 "SourceBackModel" "begins" "[Z",
  .fieldLink R_MM 88 "SourceBackModel" "order" "[I",
  .fieldLink R_MM 91 "SourceBackModel" "first" "[I",
  .fieldLink R_MM 94 "SourceBackModel" "last" "[I",
  .fieldLink R_MM 97 "SourceBackModel" "parent" "[I",
  .fieldLink R_MM 100 "SourceBackModel" "isHead" "[Z",
  .fieldLink R_MM 103 "SourceBackModel" "isMet" "[Z",
  .fieldLink R_MM 106 "SourceBackModel" "wayFrom" "[I",
  .fieldLink R_MM 109 "SourceBackModel" "ways" "LSourceBackModel$Ints;",
  .fieldLink R_MM 112 "SourceBackModel" "some" "LSourceBackModel$Ints;",
  .fieldLink R_MM 115 "SourceBackModel" "stack" "LSourceBackModel$Ints;",
  .fieldLink R_MM 118 "SourceBackModel" "left" "LSourceBackModel$Ints;",
  .fieldLink R_MM 121 "SourceBackModel" "stackWay" "LSourceBackModel$Ints;",
  .fieldLink R_MM 124 "SourceBackModel" "stackOf" "[I",
  .fieldLink R_MM 127 "SourceBackModel" "termSort" "LSourceBackModel$Ints;",
  .fieldLink R_MM 130 "SourceBackModel" "termA" "LSourceBackModel$Ints;",
  .fieldLink R_MM 133 "SourceBackModel" "termB" "LSourceBackModel$Ints;",
  .fieldLink R_MM 136 "SourceBackModel" "termC" "LSourceBackModel$Ints;",
  .fieldLink R_MM 142 "SourceBackModel" "termV" "LSourceBackModel$Longs;",
  .fieldLink R_MM 146 "SourceBackModel" "parts" "LSourceBackModel$Ints;",
  .fieldLink R_MM 149 "SourceBackModel" "sort" "LSourceBackModel$Ints;",
  .fieldLink R_MM 152 "SourceBackModel" "label" "LSourceBackModel$Ints;",
  .fieldLink R_MM 155 "SourceBackModel" "sa" "LSourceBackModel$Ints;",
  .fieldLink R_MM 158 "SourceBackModel" "sb" "LSourceBackModel$Ints;",
  .fieldLink R_MM 161 "SourceBackModel" "sc" "LSourceBackModel$Ints;",
  .fieldLink R_MM 164 "SourceBackModel" "sv" "LSourceBackModel$Longs;",
  .fieldLink R_MM 167 "SourceBackModel" "body" "LSourceBackModel$Ints;",
  .fieldLink R_MM 170 "SourceBackModel" "other" "LSourceBackModel$Ints;",
  .fieldLink R_MM 173 "SourceBackModel" "next" "LSourceBackModel$Ints;",
  .fieldLink R_MM 176 "SourceBackModel" "caseFrom" "LSourceBackModel$Ints;",
  .fieldLink R_MM 179 "SourceBackModel" "caseMany" "LSourceBackModel$Ints;",
  .fieldLink R_MM 182 "SourceBackModel" "caseBody" "LSourceBackModel$Ints;",
  .fieldLink R_MM 185 "SourceBackModel" "caseNext" "LSourceBackModel$Ints;",
  .fieldLink R_MM 188 "SourceBackModel" "caseKey" "LSourceBackModel$Longs;",
  .fieldLink R_MM 191 "SourceBackModel" "pile" "[I",
  .fieldLink R_MM 760 "SourceBackModel" "high" "I",
  .fieldLink R_MM 194 "SourceBackModel" "lists" "LSourceBackModel$Ints;",
  .fieldLink R_MM 197 "SourceBackModel" "tasks" "LSourceBackModel$Ints;",
  .fieldLink R_MM 200 "SourceBackModel" "hasLocal" "[Z",
  .fieldLink R_MM 203 "SourceBackModel" "seenTemporary" "LSourceBackModel$Ints;",
  .fieldLink R_MM 206 "SourceBackModel" "seenArray" "LSourceBackModel$Ints;",
  .fieldLink R_MM 231 "SourceBackModel" "signWords" "[Ljava/lang/String;",
  .fieldLink R_MM 247 "SourceBackModel" "comparedWords" "[Ljava/lang/String;",
  .fieldLink R_MM 250 "SourceBackModel" "variableWord" "[I",
  .fieldLink R_MM 253 "SourceBackModel" "variableKind" "[I",
  .fieldLink R_MM 256 "SourceBackModel" "labelWord" "[I",
  .fieldLink R_MM 259 "SourceBackModel" "isLoop" "[Z",
  .fieldLink R_MM 262 "SourceBackModel" "loopBegin" "[I",
  .fieldLink R_MM 265 "SourceBackModel" "breakChain" "[I",
  .fieldLink R_MM 268 "SourceBackModel" "keys" "LSourceBackModel$Longs;",
  .fieldLink R_MM 271 "SourceBackModel" "keyEnds" "LSourceBackModel$Ints;",
  .fieldLink R_MM 1345 "SourceBackModel" "firstPlace" "I",
  .fieldLink R_MM 274 "SourceBackModel" "draftMember" "LSourceBackModel$Member;",
  .fieldLink R_MM 277 "SourceBackModel" "draft" "LSourceBackModel$Bytes;",
  .fieldLink R_MM 280 "SourceBackModel" "assembled" "LSourceBackModel$Bytes;",
  .fieldLink R_MM 283 "SourceBackModel" "phase" "[I",
  .fieldLink R_MM 286 "SourceBackModel" "came" "[J",
  .fieldLink R_MM 290 "SourceBackModel" "failure" "[I",
  .fieldLink R_MM 293 "SourceBackModel" "failNumber" "[J",
  .fieldLink R_MM 296 "SourceBackModel" "done" "[J",
  .fieldLink R_MM 1488 "SourceBackModel" "begun" "I",
  .fieldLink R_MM 299 "SourceBackModel" "fieldValue" "[J",
  .fieldLink R_MM 302 "SourceBackModel" "arrayCount" "[I",
  .fieldLink R_MM 305 "SourceBackModel" "elementCount" "[I",
  .fieldLink R_MM 308 "SourceBackModel" "arrayFrom" "[I",
  .fieldLink R_MM 311 "SourceBackModel" "arraySize" "[I",
  .fieldLink R_MM 315 "SourceBackModel" "elements" "[J",
  .fieldLink R_MM 318 "SourceBackModel" "frames" "[I",
  .fieldLink R_MM 321 "SourceBackModel" "frameFile" "[I",
  .fieldLink R_MM 324 "SourceBackModel" "frameMember" "[I",
  .fieldLink R_MM 327 "SourceBackModel" "frameCode" "[LSourceBackModel$Member;",
  .fieldLink R_MM 331 "SourceBackModel" "frameAct" "[I",
  .fieldLink R_MM 334 "SourceBackModel" "frameHigh" "[I",
  .fieldLink R_MM 337 "SourceBackModel" "frameLocal" "[J",
  .fieldLink R_MM 340 "SourceBackModel" "framePile" "[J",
  .fieldLink R_MM 1476 "SourceBackModel" "side" "I",
  .fieldLink R_MM 1482 "SourceBackModel" "top" "I",
  .arrayClass FieldType.boolean,
  .instanceMethod y_MM_thrown,
  .selects R_MM y_MM_thrown y_MM_thrown,
  .code y_MM_thrown b_MM_thrown 1 (some (.int)),
  .instanceMethod y_MM_feed,
  .selects R_MM y_MM_feed y_MM_feed,
  .code y_MM_feed b_MM_feed 4 (some (.int)),
  .constantLong R_MM 347 (8 : Int64),
  .methodLink R_MM 349 y_MM_in,
  .static y_MM_in,
  .code y_MM_in b_MM_in 6 (some (.boolean)),
  .constant R_MM 356 (65536 : Int32),
  .methodLink R_MM 357 y_MB_addLong,
  .instanceMethod y_MB_addLong,
  .selects R_MB y_MB_addLong y_MB_addLong,
  .code y_MB_addLong b_MB_addLong 5 none,
  .methodLink R_MB 17 y_MB_add,
  .instanceMethod y_MB_add,
  .selects R_MB y_MB_add y_MB_add,
  .code y_MB_add b_MB_add 4 none,
  .instanceMethod y_MM_take,
  .selects R_MM y_MM_take y_MM_take,
  .codeWith y_MM_take b_MM_take 3 (some (.int)) [(18, 126, 129, 7)],
  .methodLink R_MM 413 y_MM_newBox,
  .instanceMethod y_MM_newBox,
  .code y_MM_newBox b_MM_newBox 2 (some (.object "SourceBackModel$Box")),
  .methodLink R_MM 406 y_MX_clear,
  .instanceMethod y_MX_clear,
  .selects R_MX y_MX_clear y_MX_clear,
  .code y_MX_clear b_MX_clear 1 none,
  .methodLink R_MX 71 y_MX_add,
  .instanceMethod y_MX_add,
  .selects R_MX y_MX_add y_MX_add,
  .code y_MX_add b_MX_add 2 (some (.int)),
  .methodLink R_MX 75 y_MI_add,
  .instanceMethod y_MI_add,
  .selects R_MI y_MI_add y_MI_add,
  .code y_MI_add b_MI_add 4 none,
  .methodLink R_MX 77 y_ML_add,
  .instanceMethod y_ML_add,
  .selects R_ML y_ML_add y_ML_add,
  .code y_ML_add b_ML_add 5 none,
  .instantiable R_MX 15,
  .instanceMethod y_MX_init,
  .code y_MX_init b_MX_init 1 none,
  .methodLink R_MX 3 objectInit,
  .classLink R_MX 9 R_MB,
  .classLink R_MX 18 R_MI,
  .methodLink R_MX 20 y_MI_init,
  .classLink R_MX 39 R_ML,
  .methodLink R_MX 41 y_ML_init,
  .classLink R_MX 52 R_MR,
  .fieldLink R_MX 12 "SourceBackModel$Box" "bytes" "LSourceBackModel$Bytes;",
  .fieldLink R_MX 23 "SourceBackModel$Box" "tag" "LSourceBackModel$Ints;",
  .fieldLink R_MX 27 "SourceBackModel$Box" "word" "LSourceBackModel$Ints;",
  .fieldLink R_MX 30 "SourceBackModel$Box" "owner" "LSourceBackModel$Ints;",
  .fieldLink R_MX 33 "SourceBackModel$Box" "name" "LSourceBackModel$Ints;",
  .fieldLink R_MX 36 "SourceBackModel$Box" "sort" "LSourceBackModel$Ints;",
  .fieldLink R_MX 42 "SourceBackModel$Box" "number" "LSourceBackModel$Longs;",
  .fieldLink R_MX 46 "SourceBackModel$Box" "fields" "LSourceBackModel$Ints;",
  .fieldLink R_MX 49 "SourceBackModel$Box" "entryOf" "LSourceBackModel$Ints;",
  .fieldLink R_MX 54 "SourceBackModel$Box" "members" "[LSourceBackModel$Member;",
  .fieldLink R_MX 64 "SourceBackModel$Box" "memberCount" "I",
  .fieldLink R_MX 67 "SourceBackModel$Box" "hasMade" "Z",
  .methodLink R_MM 391 y_MM_must,
  .instanceMethod y_MM_must,
  .code y_MM_must b_MM_must 4 none,
  .methodLink R_MM 383 y_MH_of,
  .instanceMethod y_MH_of,
  .selects R_MH y_MH_of y_MH_of,
  .code y_MH_of b_MH_of 3 (some (.object "SourceBackModel$Halt")),
  .methodLink R_MM 421 y_MM_readsFile,
  .instanceMethod y_MM_readsFile,
  .code y_MM_readsFile b_MM_readsFile 5 none,
  .methodLink R_MM 399 y_MM_reads,
  .instanceMethod y_MM_reads,
  .code y_MM_reads b_MM_reads 5 (some (.long)),
  .constantLong R_MM 450 (2953310494 : Int64),
  .constantLong R_MM 459 (9 : Int64),
  .constantLong R_MM 461 (2000 : Int64),
  .methodLink R_MM 367 y_MI_add,
  .constantLong R_MM 580 (4000 : Int64),
  .instanceMethod y_MM_act_1,
  .code y_MM_act_1 b_MM_act_1 8 none,
  .instanceMethod y_MM_member_0,
  .code y_MM_member_0 b_MM_member_0 6 (some (.int)),
  .methodLink R_MM 438 y_MM_settles,
  .instanceMethod y_MM_settles,
  .code y_MM_settles b_MM_settles 4 none,
  .constantLong R_MM 1474 (-1 : Int64),
  .methodLink R_MM 441 y_MM_gives,
  .instanceMethod y_MM_gives,
  .code y_MM_gives b_MM_gives 2 none,
  .instanceMethod y_MM_judge,
  .selects R_MM y_MM_judge y_MM_judge,
  .codeWith y_MM_judge b_MM_judge 4 (some (.int)) [(25, 47, 50, 7)],
  .instanceMethod y_MM_edit,
  .selects R_MM y_MM_edit y_MM_edit,
  .codeWith y_MM_edit b_MM_edit 6 (some (.int)) [(44, 142, 145, 7)],
  .instanceMethod y_MM_undo,
  .selects R_MM y_MM_undo y_MM_undo,
  .code y_MM_undo b_MM_undo 2 (some (.boolean)),
  .instanceMethod y_MM_pair,
  .selects R_MM y_MM_pair y_MM_pair,
  .code y_MM_pair b_MM_pair 7 (some (.int)),
  .methodLink R_MM 1468 y_MM_isMember,
  .instanceMethod y_MM_isMember,
  .code y_MM_isMember b_MM_isMember 3 (some (.boolean)),
  .instanceMethod y_MM_alike,
  .selects R_MM y_MM_alike y_MM_alike,
  .code y_MM_alike b_MM_alike 7 (some (.int)),
  .methodLink R_MM 1471 y_MM_pair,
  .instanceMethod y_MM_settle,
  .selects R_MM y_MM_settle y_MM_settle,
  .code y_MM_settle b_MM_settle 1 none,
  .instanceMethod y_MM_call,
  .selects R_MM y_MM_call y_MM_call,
  .code y_MM_call b_MM_call 13 (some (.boolean)),
  .constantLong R_MM 1494 (4 : Int64),
  .instanceMethod y_MM_steps,
  .selects R_MM y_MM_steps y_MM_steps,
  .code y_MM_steps b_MM_steps 4 (some (.int)),
  .instanceMethod y_MM_file,
  .selects R_MM y_MM_file y_MM_file,
  .code y_MM_file b_MM_file 4 (some (.int)),
  .instanceMethod y_MM_byteAt,
  .selects R_MM y_MM_byteAt y_MM_byteAt,
  .code y_MM_byteAt b_MM_byteAt 5 (some (.int)),
  .instanceMethod y_MM_entry,
  .selects R_MM y_MM_entry y_MM_entry,
  .code y_MM_entry b_MM_entry 8 (some (.long)),
  .instanceMethod y_MM_member_1,
  .selects R_MM y_MM_member_1 y_MM_member_1,
  .code y_MM_member_1 b_MM_member_1 5 (some (.int)),
  .instanceMethod y_MM_act_0,
  .selects R_MM y_MM_act_0 y_MM_act_0,
  .code y_MM_act_0 b_MM_act_0 7 (some (.int)),
  .instanceMethod y_MM_kind,
  .selects R_MM y_MM_kind y_MM_kind,
  .code y_MM_kind b_MM_kind 7 (some (.int)),
  .instanceMethod y_MM_block,
  .selects R_MM y_MM_block y_MM_block,
  .code y_MM_block b_MM_block 7 (some (.int)),
  .instanceMethod y_MM_text,
  .selects R_MM y_MM_text y_MM_text,
  .code y_MM_text b_MM_text 5 (some (.int)),
  .instanceMethod y_MM_state,
  .selects R_MM y_MM_state y_MM_state,
  .code y_MM_state b_MM_state 5 (some (.long)),
  .instanceMethod y_MM_field,
  .selects R_MM y_MM_field y_MM_field,
  .code y_MM_field b_MM_field 5 (some (.long)),
  .instanceMethod y_MM_element,
  .selects R_MM y_MM_element y_MM_element,
  .code y_MM_element b_MM_element 6 (some (.long)),
  .instanceMethod y_MM_count,
  .selects R_MM y_MM_count y_MM_count,
  .code y_MM_count b_MM_count 4 (some (.int)),
  .selects R_MM y_MM_must y_MM_must,
  .selects R_MM y_MM_reads y_MM_reads,
  .selects R_MM y_MM_newBox y_MM_newBox,
  .selects R_MM y_MM_gives y_MM_gives,
  .selects R_MM y_MM_readsFile y_MM_readsFile,
  .selects R_MM y_MM_act_1 y_MM_act_1,
  .selects R_MM y_MM_member_0 y_MM_member_0,
  .selects R_MM y_MM_isMember y_MM_isMember,
  .selects R_MM y_MM_settles y_MM_settles]
def wm : List Cond := wm_l ++ (u_ws R_MM F_MM 132 ++ (u_ws R_MH F_MH 8 ++ (u_ws R_MB F_MB 2 ++ (u_ws R_MI F_MI 2 ++ (u_ws R_ML F_ML 2 ++ (u_ws R_MR F_MR 24 ++ (u_ws R_MX F_MX 15)))))))
theorem i_MM : ∀ w ∈ u_ws R_MM F_MM 132, w ∈ wm := fun w h => List.mem_append_right _ (List.mem_append_left _ h)
theorem i_MH : ∀ w ∈ u_ws R_MH F_MH 8, w ∈ wm := fun w h => List.mem_append_right _ (List.mem_append_right _ (List.mem_append_left _ h))
theorem i_MB : ∀ w ∈ u_ws R_MB F_MB 2, w ∈ wm := fun w h => List.mem_append_right _ (List.mem_append_right _ (List.mem_append_right _ (List.mem_append_left _ h)))
theorem i_MI : ∀ w ∈ u_ws R_MI F_MI 2, w ∈ wm := fun w h => List.mem_append_right _ (List.mem_append_right _ (List.mem_append_right _ (List.mem_append_right _ (List.mem_append_left _ h))))
theorem i_ML : ∀ w ∈ u_ws R_ML F_ML 2, w ∈ wm := fun w h => List.mem_append_right _ (List.mem_append_right _ (List.mem_append_right _ (List.mem_append_right _ (List.mem_append_right _ (List.mem_append_left _ h)))))
theorem i_MR : ∀ w ∈ u_ws R_MR F_MR 24, w ∈ wm := fun w h => List.mem_append_right _ (List.mem_append_right _ (List.mem_append_right _ (List.mem_append_right _ (List.mem_append_right _ (List.mem_append_right _ (List.mem_append_left _ h))))))
theorem i_MX : ∀ w ∈ u_ws R_MX F_MX 15, w ∈ wm := fun w h => List.mem_append_right _ (List.mem_append_right _ (List.mem_append_right _ (List.mem_append_right _ (List.mem_append_right _ (List.mem_append_right _ (List.mem_append_right _ (h)))))))
set_option maxRecDepth 100000 in
theorem g_wm : ax_good wm := fun w hw => ⟨hw, good_of_word (List.all_eq_true.mp (by decide +kernel : wm.all goodWord = true) w hw)⟩
theorem xm_0 : Cond.initialized R_MM ∈ wm := List.mem_append_left _ (List.mem_of_getElem? (i := 0) rfl)
theorem xm_1 : Cond.initialized R_MH ∈ wm := List.mem_append_left _ (List.mem_of_getElem? (i := 1) rfl)
theorem xm_2 : Cond.initialized R_MB ∈ wm := List.mem_append_left _ (List.mem_of_getElem? (i := 2) rfl)
theorem xm_3 : Cond.initialized R_MI ∈ wm := List.mem_append_left _ (List.mem_of_getElem? (i := 3) rfl)
theorem xm_4 : Cond.initialized R_MR ∈ wm := List.mem_append_left _ (List.mem_of_getElem? (i := 4) rfl)
theorem xm_5 : Cond.initialized R_ML ∈ wm := List.mem_append_left _ (List.mem_of_getElem? (i := 5) rfl)
theorem xm_6 : Cond.initialized "java/lang/String" ∈ wm := List.mem_append_left _ (List.mem_of_getElem? (i := 6) rfl)
theorem xm_7 : Cond.initialized R_MX ∈ wm := List.mem_append_left _ (List.mem_of_getElem? (i := 7) rfl)
theorem xm_8 : Cond.instanceMethod objectInit ∈ wm := List.mem_append_left _ (List.mem_of_getElem? (i := 8) rfl)
theorem xm_9 : Cond.code objectInit ⟨#[0xb1]⟩ 1 none ∈ wm := List.mem_append_left _ (List.mem_of_getElem? (i := 9) rfl)
theorem xm_10 : Cond.arrayClass FieldType.byte ∈ wm := List.mem_append_left _ (List.mem_of_getElem? (i := 10) rfl)
theorem xm_11 : Cond.arrayClass FieldType.int ∈ wm := List.mem_append_left _ (List.mem_of_getElem? (i := 11) rfl)
theorem xm_12 : Cond.arrayClass FieldType.long ∈ wm := List.mem_append_left _ (List.mem_of_getElem? (i := 12) rfl)
theorem xm_13 : Cond.instantiable "java/lang/String" 4 ∈ wm := List.mem_append_left _ (List.mem_of_getElem? (i := 13) rfl)
theorem xm_14 : Cond.instantiable R_MM 132 ∈ wm := List.mem_append_left _ (List.mem_of_getElem? (i := 14) rfl)
theorem xm_15 : Cond.instanceMethod y_MM_init ∈ wm := List.mem_append_left _ (List.mem_of_getElem? (i := 15) rfl)
theorem xm_16 : Cond.code y_MM_init b_MM_init 1 none ∈ wm := List.mem_append_left _ (List.mem_of_getElem? (i := 16) rfl)
theorem xm_17 : Cond.methodLink R_MM 1 objectInit ∈ wm := List.mem_append_left _ (List.mem_of_getElem? (i := 17) rfl)
theorem xm_18 : Cond.classLink R_MM 7 R_MH ∈ wm := List.mem_append_left _ (List.mem_of_getElem? (i := 18) rfl)
theorem xm_19 : Cond.instantiable R_MH 8 ∈ wm := List.mem_append_left _ (List.mem_of_getElem? (i := 19) rfl)
theorem xm_20 : Cond.instanceMethod y_MH_init ∈ wm := List.mem_append_left _ (List.mem_of_getElem? (i := 20) rfl)
theorem xm_21 : Cond.code y_MH_init b_MH_init 1 none ∈ wm := List.mem_append_left _ (List.mem_of_getElem? (i := 21) rfl)
theorem xm_22 : Cond.methodLink R_MH 1 ⟨"java/lang/RuntimeException", "<init>", "()V"⟩ ∈ wm := List.mem_append_left _ (List.mem_of_getElem? (i := 22) rfl)
theorem xm_23 : Cond.fieldLink R_MH 7 "SourceBackModel$Halt" "number" "I" ∈ wm := List.mem_append_left _ (List.mem_of_getElem? (i := 23) rfl)
theorem xm_24 : Cond.fieldLink R_MH 13 "SourceBackModel$Halt" "place" "I" ∈ wm := List.mem_append_left _ (List.mem_of_getElem? (i := 24) rfl)
theorem xm_25 : Cond.classLink R_MM 16 R_MB ∈ wm := List.mem_append_left _ (List.mem_of_getElem? (i := 25) rfl)
theorem xm_26 : Cond.instantiable R_MB 2 ∈ wm := List.mem_append_left _ (List.mem_of_getElem? (i := 26) rfl)
theorem xm_27 : Cond.instanceMethod y_MB_init ∈ wm := List.mem_append_left _ (List.mem_of_getElem? (i := 27) rfl)
theorem xm_28 : Cond.code y_MB_init b_MB_init 1 none ∈ wm := List.mem_append_left _ (List.mem_of_getElem? (i := 28) rfl)
theorem xm_29 : Cond.methodLink R_MB 1 objectInit ∈ wm := List.mem_append_left _ (List.mem_of_getElem? (i := 29) rfl)
theorem xm_30 : Cond.fieldLink R_MB 7 "SourceBackModel$Bytes" "a" "[B" ∈ wm := List.mem_append_left _ (List.mem_of_getElem? (i := 30) rfl)
theorem xm_31 : Cond.fieldLink R_MB 13 "SourceBackModel$Bytes" "size" "I" ∈ wm := List.mem_append_left _ (List.mem_of_getElem? (i := 31) rfl)
theorem xm_32 : Cond.classLink R_MM 26 R_MI ∈ wm := List.mem_append_left _ (List.mem_of_getElem? (i := 32) rfl)
theorem xm_33 : Cond.instantiable R_MI 2 ∈ wm := List.mem_append_left _ (List.mem_of_getElem? (i := 33) rfl)
theorem xm_34 : Cond.methodLink R_MM 28 y_MI_init ∈ wm := List.mem_append_left _ (List.mem_of_getElem? (i := 34) rfl)
theorem xm_35 : Cond.instanceMethod y_MI_init ∈ wm := List.mem_append_left _ (List.mem_of_getElem? (i := 35) rfl)
theorem xm_36 : Cond.code y_MI_init b_MI_init 2 none ∈ wm := List.mem_append_left _ (List.mem_of_getElem? (i := 36) rfl)
theorem xm_37 : Cond.methodLink R_MI 1 objectInit ∈ wm := List.mem_append_left _ (List.mem_of_getElem? (i := 37) rfl)
theorem xm_38 : Cond.fieldLink R_MI 7 "SourceBackModel$Ints" "a" "[I" ∈ wm := List.mem_append_left _ (List.mem_of_getElem? (i := 38) rfl)
theorem xm_39 : Cond.fieldLink R_MI 13 "SourceBackModel$Ints" "size" "I" ∈ wm := List.mem_append_left _ (List.mem_of_getElem? (i := 39) rfl)
theorem xm_40 : Cond.classLink R_MM 38 R_MX ∈ wm := List.mem_append_left _ (List.mem_of_getElem? (i := 40) rfl)
theorem xm_41 : Cond.classLink R_MM 57 R_MR ∈ wm := List.mem_append_left _ (List.mem_of_getElem? (i := 41) rfl)
theorem xm_42 : Cond.instantiable R_MR 24 ∈ wm := List.mem_append_left _ (List.mem_of_getElem? (i := 42) rfl)
theorem xm_43 : Cond.methodLink R_MM 59 y_MR_init ∈ wm := List.mem_append_left _ (List.mem_of_getElem? (i := 43) rfl)
theorem xm_44 : Cond.instanceMethod y_MR_init ∈ wm := List.mem_append_left _ (List.mem_of_getElem? (i := 44) rfl)
theorem xm_45 : Cond.code y_MR_init b_MR_init 3 none ∈ wm := List.mem_append_left _ (List.mem_of_getElem? (i := 45) rfl)
theorem xm_46 : Cond.methodLink R_MR 3 objectInit ∈ wm := List.mem_append_left _ (List.mem_of_getElem? (i := 46) rfl)
theorem xm_47 : Cond.classLink R_MR 9 R_MI ∈ wm := List.mem_append_left _ (List.mem_of_getElem? (i := 47) rfl)
theorem xm_48 : Cond.methodLink R_MR 11 y_MI_init ∈ wm := List.mem_append_left _ (List.mem_of_getElem? (i := 48) rfl)
theorem xm_49 : Cond.classLink R_MR 29 R_ML ∈ wm := List.mem_append_left _ (List.mem_of_getElem? (i := 49) rfl)
theorem xm_50 : Cond.instantiable R_ML 2 ∈ wm := List.mem_append_left _ (List.mem_of_getElem? (i := 50) rfl)
theorem xm_51 : Cond.methodLink R_MR 31 y_ML_init ∈ wm := List.mem_append_left _ (List.mem_of_getElem? (i := 51) rfl)
theorem xm_52 : Cond.instanceMethod y_ML_init ∈ wm := List.mem_append_left _ (List.mem_of_getElem? (i := 52) rfl)
theorem xm_53 : Cond.code y_ML_init b_ML_init 2 none ∈ wm := List.mem_append_left _ (List.mem_of_getElem? (i := 53) rfl)
theorem xm_54 : Cond.methodLink R_ML 1 objectInit ∈ wm := List.mem_append_left _ (List.mem_of_getElem? (i := 54) rfl)
theorem xm_55 : Cond.fieldLink R_ML 7 "SourceBackModel$Longs" "a" "[J" ∈ wm := List.mem_append_left _ (List.mem_of_getElem? (i := 55) rfl)
theorem xm_56 : Cond.fieldLink R_ML 13 "SourceBackModel$Longs" "size" "I" ∈ wm := List.mem_append_left _ (List.mem_of_getElem? (i := 56) rfl)
theorem xm_57 : Cond.fieldLink R_MR 14 "SourceBackModel$Member" "at" "LSourceBackModel$Ints;" ∈ wm := List.mem_append_left _ (List.mem_of_getElem? (i := 57) rfl)
theorem xm_58 : Cond.fieldLink R_MR 20 "SourceBackModel$Member" "op" "LSourceBackModel$Ints;" ∈ wm := List.mem_append_left _ (List.mem_of_getElem? (i := 58) rfl)
theorem xm_59 : Cond.fieldLink R_MR 23 "SourceBackModel$Member" "a" "LSourceBackModel$Ints;" ∈ wm := List.mem_append_left _ (List.mem_of_getElem? (i := 59) rfl)
theorem xm_60 : Cond.fieldLink R_MR 26 "SourceBackModel$Member" "b" "LSourceBackModel$Ints;" ∈ wm := List.mem_append_left _ (List.mem_of_getElem? (i := 60) rfl)
theorem xm_61 : Cond.fieldLink R_MR 32 "SourceBackModel$Member" "v" "LSourceBackModel$Longs;" ∈ wm := List.mem_append_left _ (List.mem_of_getElem? (i := 61) rfl)
theorem xm_62 : Cond.fieldLink R_MR 36 "SourceBackModel$Member" "owner" "LSourceBackModel$Ints;" ∈ wm := List.mem_append_left _ (List.mem_of_getElem? (i := 62) rfl)
theorem xm_63 : Cond.fieldLink R_MR 39 "SourceBackModel$Member" "of" "LSourceBackModel$Ints;" ∈ wm := List.mem_append_left _ (List.mem_of_getElem? (i := 63) rfl)
theorem xm_64 : Cond.fieldLink R_MR 42 "SourceBackModel$Member" "sort" "LSourceBackModel$Ints;" ∈ wm := List.mem_append_left _ (List.mem_of_getElem? (i := 64) rfl)
theorem xm_65 : Cond.fieldLink R_MR 45 "SourceBackModel$Member" "key" "LSourceBackModel$Longs;" ∈ wm := List.mem_append_left _ (List.mem_of_getElem? (i := 65) rfl)
theorem xm_66 : Cond.fieldLink R_MR 48 "SourceBackModel$Member" "end" "LSourceBackModel$Ints;" ∈ wm := List.mem_append_left _ (List.mem_of_getElem? (i := 66) rfl)
theorem xm_67 : Cond.constant R_MM 66 (240000 : Int32) ∈ wm := List.mem_append_left _ (List.mem_of_getElem? (i := 67) rfl)
theorem xm_68 : Cond.constant R_MM 71 (244000 : Int32) ∈ wm := List.mem_append_left _ (List.mem_of_getElem? (i := 68) rfl)
theorem xm_69 : Cond.classLink R_MM 139 R_ML ∈ wm := List.mem_append_left _ (List.mem_of_getElem? (i := 69) rfl)
theorem xm_70 : Cond.methodLink R_MM 141 y_ML_init ∈ wm := List.mem_append_left _ (List.mem_of_getElem? (i := 70) rfl)
theorem xm_71 : Cond.classLink R_MM 209 "java/lang/String" ∈ wm := List.mem_append_left _ (List.mem_of_getElem? (i := 71) rfl)
theorem xm_72 : Cond.constant R_MM 314 (80000 : Int32) ∈ wm := List.mem_append_left _ (List.mem_of_getElem? (i := 72) rfl)
theorem xm_73 : Cond.fieldLink R_MM 343 "SourceBackModel" "thrown" "I" ∈ wm := List.mem_append_left _ (List.mem_of_getElem? (i := 73) rfl)
theorem xm_74 : Cond.fieldLink R_MM 10 "SourceBackModel" "halt" "LSourceBackModel$Halt;" ∈ wm := List.mem_append_left _ (List.mem_of_getElem? (i := 74) rfl)
theorem xm_75 : Cond.fieldLink R_MM 19 "SourceBackModel" "tape" "LSourceBackModel$Bytes;" ∈ wm := List.mem_append_left _ (List.mem_of_getElem? (i := 75) rfl)
theorem xm_76 : Cond.fieldLink R_MM 23 "SourceBackModel" "letters" "LSourceBackModel$Bytes;" ∈ wm := List.mem_append_left _ (List.mem_of_getElem? (i := 76) rfl)
theorem xm_77 : Cond.fieldLink R_MM 31 "SourceBackModel" "wordFrom" "LSourceBackModel$Ints;" ∈ wm := List.mem_append_left _ (List.mem_of_getElem? (i := 77) rfl)
theorem xm_78 : Cond.fieldLink R_MM 35 "SourceBackModel" "wordSize" "LSourceBackModel$Ints;" ∈ wm := List.mem_append_left _ (List.mem_of_getElem? (i := 78) rfl)
theorem xm_79 : Cond.fieldLink R_MM 390 "SourceBackModel" "size" "I" ∈ wm := List.mem_append_left _ (List.mem_of_getElem? (i := 79) rfl)
theorem xm_80 : Cond.fieldLink R_MM 387 "SourceBackModel" "at" "I" ∈ wm := List.mem_append_left _ (List.mem_of_getElem? (i := 80) rfl)
theorem xm_81 : Cond.fieldLink R_MM 410 "SourceBackModel" "count" "I" ∈ wm := List.mem_append_left _ (List.mem_of_getElem? (i := 81) rfl)
theorem xm_82 : Cond.fieldLink R_MM 40 "SourceBackModel" "files" "[LSourceBackModel$Box;" ∈ wm := List.mem_append_left _ (List.mem_of_getElem? (i := 82) rfl)
theorem xm_83 : Cond.fieldLink R_MM 44 "SourceBackModel" "older" "[LSourceBackModel$Box;" ∈ wm := List.mem_append_left _ (List.mem_of_getElem? (i := 83) rfl)
theorem xm_84 : Cond.fieldLink R_MM 47 "SourceBackModel" "edits" "[I" ∈ wm := List.mem_append_left _ (List.mem_of_getElem? (i := 84) rfl)
theorem xm_85 : Cond.fieldLink R_MM 51 "SourceBackModel" "spares" "[LSourceBackModel$Box;" ∈ wm := List.mem_append_left _ (List.mem_of_getElem? (i := 85) rfl)
theorem xm_86 : Cond.fieldLink R_MM 403 "SourceBackModel" "spareCount" "I" ∈ wm := List.mem_append_left _ (List.mem_of_getElem? (i := 86) rfl)
theorem xm_87 : Cond.fieldLink R_MM 417 "SourceBackModel" "box" "LSourceBackModel$Box;" ∈ wm := List.mem_append_left _ (List.mem_of_getElem? (i := 87) rfl)
theorem xm_88 : Cond.fieldLink R_MM 54 "SourceBackModel" "places" "LSourceBackModel$Ints;" ∈ wm := List.mem_append_left _ (List.mem_of_getElem? (i := 88) rfl)
theorem xm_89 : Cond.fieldLink R_MM 498 "SourceBackModel" "nameAt" "I" ∈ wm := List.mem_append_left _ (List.mem_of_getElem? (i := 89) rfl)
theorem xm_90 : Cond.fieldLink R_MM 62 "SourceBackModel" "reading" "LSourceBackModel$Member;" ∈ wm := List.mem_append_left _ (List.mem_of_getElem? (i := 90) rfl)
theorem xm_91 : Cond.fieldLink R_MM 67 "SourceBackModel" "localKind" "[B" ∈ wm := List.mem_append_left _ (List.mem_of_getElem? (i := 91) rfl)
theorem xm_92 : Cond.fieldLink R_MM 72 "SourceBackModel" "pileKind" "[B" ∈ wm := List.mem_append_left _ (List.mem_of_getElem? (i := 92) rfl)
theorem xm_93 : Cond.fieldLink R_MM 75 "SourceBackModel" "depth" "[I" ∈ wm := List.mem_append_left _ (List.mem_of_getElem? (i := 93) rfl)
theorem xm_94 : Cond.fieldLink R_MM 78 "SourceBackModel" "nowLocal" "[B" ∈ wm := List.mem_append_left _ (List.mem_of_getElem? (i := 94) rfl)
theorem xm_95 : Cond.fieldLink R_MM 81 "SourceBackModel" "nowPile" "[B" ∈ wm := List.mem_append_left _ (List.mem_of_getElem? (i := 95) rfl)
theorem xm_96 : Cond.fieldLink R_MM 712 "SourceBackModel" "blocks" "I" ∈ wm := List.mem_append_left _ (List.mem_of_getElem? (i := 96) rfl)
theorem xm_97 : Cond.fieldLink R_MM 84 "SourceBackModel" "begins" "[Z" ∈ wm := List.mem_append_left _ (List.mem_of_getElem? (i := 97) rfl)
theorem xm_98 : Cond.fieldLink R_MM 88 "SourceBackModel" "order" "[I" ∈ wm := List.mem_append_left _ (List.mem_of_getElem? (i := 98) rfl)
theorem xm_99 : Cond.fieldLink R_MM 91 "SourceBackModel" "first" "[I" ∈ wm := List.mem_append_left _ (List.mem_of_getElem? (i := 99) rfl)
theorem xm_100 : Cond.fieldLink R_MM 94 "SourceBackModel" "last" "[I" ∈ wm := List.mem_append_left _ (List.mem_of_getElem? (i := 100) rfl)
theorem xm_101 : Cond.fieldLink R_MM 97 "SourceBackModel" "parent" "[I" ∈ wm := List.mem_append_left _ (List.mem_of_getElem? (i := 101) rfl)
theorem xm_102 : Cond.fieldLink R_MM 100 "SourceBackModel" "isHead" "[Z" ∈ wm := List.mem_append_left _ (List.mem_of_getElem? (i := 102) rfl)
theorem xm_103 : Cond.fieldLink R_MM 103 "SourceBackModel" "isMet" "[Z" ∈ wm := List.mem_append_left _ (List.mem_of_getElem? (i := 103) rfl)
theorem xm_104 : Cond.fieldLink R_MM 106 "SourceBackModel" "wayFrom" "[I" ∈ wm := List.mem_append_left _ (List.mem_of_getElem? (i := 104) rfl)
theorem xm_105 : Cond.fieldLink R_MM 109 "SourceBackModel" "ways" "LSourceBackModel$Ints;" ∈ wm := List.mem_append_left _ (List.mem_of_getElem? (i := 105) rfl)
theorem xm_106 : Cond.fieldLink R_MM 112 "SourceBackModel" "some" "LSourceBackModel$Ints;" ∈ wm := List.mem_append_left _ (List.mem_of_getElem? (i := 106) rfl)
theorem xm_107 : Cond.fieldLink R_MM 115 "SourceBackModel" "stack" "LSourceBackModel$Ints;" ∈ wm := List.mem_append_left _ (List.mem_of_getElem? (i := 107) rfl)
theorem xm_108 : Cond.fieldLink R_MM 118 "SourceBackModel" "left" "LSourceBackModel$Ints;" ∈ wm := List.mem_append_left _ (List.mem_of_getElem? (i := 108) rfl)
theorem xm_109 : Cond.fieldLink R_MM 121 "SourceBackModel" "stackWay" "LSourceBackModel$Ints;" ∈ wm := List.mem_append_left _ (List.mem_of_getElem? (i := 109) rfl)
theorem xm_110 : Cond.fieldLink R_MM 124 "SourceBackModel" "stackOf" "[I" ∈ wm := List.mem_append_left _ (List.mem_of_getElem? (i := 110) rfl)
theorem xm_111 : Cond.fieldLink R_MM 127 "SourceBackModel" "termSort" "LSourceBackModel$Ints;" ∈ wm := List.mem_append_left _ (List.mem_of_getElem? (i := 111) rfl)
theorem xm_112 : Cond.fieldLink R_MM 130 "SourceBackModel" "termA" "LSourceBackModel$Ints;" ∈ wm := List.mem_append_left _ (List.mem_of_getElem? (i := 112) rfl)
theorem xm_113 : Cond.fieldLink R_MM 133 "SourceBackModel" "termB" "LSourceBackModel$Ints;" ∈ wm := List.mem_append_left _ (List.mem_of_getElem? (i := 113) rfl)
theorem xm_114 : Cond.fieldLink R_MM 136 "SourceBackModel" "termC" "LSourceBackModel$Ints;" ∈ wm := List.mem_append_left _ (List.mem_of_getElem? (i := 114) rfl)
theorem xm_115 : Cond.fieldLink R_MM 142 "SourceBackModel" "termV" "LSourceBackModel$Longs;" ∈ wm := List.mem_append_left _ (List.mem_of_getElem? (i := 115) rfl)
theorem xm_116 : Cond.fieldLink R_MM 146 "SourceBackModel" "parts" "LSourceBackModel$Ints;" ∈ wm := List.mem_append_left _ (List.mem_of_getElem? (i := 116) rfl)
theorem xm_117 : Cond.fieldLink R_MM 149 "SourceBackModel" "sort" "LSourceBackModel$Ints;" ∈ wm := List.mem_append_left _ (List.mem_of_getElem? (i := 117) rfl)
theorem xm_118 : Cond.fieldLink R_MM 152 "SourceBackModel" "label" "LSourceBackModel$Ints;" ∈ wm := List.mem_append_left _ (List.mem_of_getElem? (i := 118) rfl)
theorem xm_119 : Cond.fieldLink R_MM 155 "SourceBackModel" "sa" "LSourceBackModel$Ints;" ∈ wm := List.mem_append_left _ (List.mem_of_getElem? (i := 119) rfl)
theorem xm_120 : Cond.fieldLink R_MM 158 "SourceBackModel" "sb" "LSourceBackModel$Ints;" ∈ wm := List.mem_append_left _ (List.mem_of_getElem? (i := 120) rfl)
theorem xm_121 : Cond.fieldLink R_MM 161 "SourceBackModel" "sc" "LSourceBackModel$Ints;" ∈ wm := List.mem_append_left _ (List.mem_of_getElem? (i := 121) rfl)
theorem xm_122 : Cond.fieldLink R_MM 164 "SourceBackModel" "sv" "LSourceBackModel$Longs;" ∈ wm := List.mem_append_left _ (List.mem_of_getElem? (i := 122) rfl)
theorem xm_123 : Cond.fieldLink R_MM 167 "SourceBackModel" "body" "LSourceBackModel$Ints;" ∈ wm := List.mem_append_left _ (List.mem_of_getElem? (i := 123) rfl)
theorem xm_124 : Cond.fieldLink R_MM 170 "SourceBackModel" "other" "LSourceBackModel$Ints;" ∈ wm := List.mem_append_left _ (List.mem_of_getElem? (i := 124) rfl)
theorem xm_125 : Cond.fieldLink R_MM 173 "SourceBackModel" "next" "LSourceBackModel$Ints;" ∈ wm := List.mem_append_left _ (List.mem_of_getElem? (i := 125) rfl)
theorem xm_126 : Cond.fieldLink R_MM 176 "SourceBackModel" "caseFrom" "LSourceBackModel$Ints;" ∈ wm := List.mem_append_left _ (List.mem_of_getElem? (i := 126) rfl)
theorem xm_127 : Cond.fieldLink R_MM 179 "SourceBackModel" "caseMany" "LSourceBackModel$Ints;" ∈ wm := List.mem_append_left _ (List.mem_of_getElem? (i := 127) rfl)
theorem xm_128 : Cond.fieldLink R_MM 182 "SourceBackModel" "caseBody" "LSourceBackModel$Ints;" ∈ wm := List.mem_append_left _ (List.mem_of_getElem? (i := 128) rfl)
theorem xm_129 : Cond.fieldLink R_MM 185 "SourceBackModel" "caseNext" "LSourceBackModel$Ints;" ∈ wm := List.mem_append_left _ (List.mem_of_getElem? (i := 129) rfl)
theorem xm_130 : Cond.fieldLink R_MM 188 "SourceBackModel" "caseKey" "LSourceBackModel$Longs;" ∈ wm := List.mem_append_left _ (List.mem_of_getElem? (i := 130) rfl)
theorem xm_131 : Cond.fieldLink R_MM 191 "SourceBackModel" "pile" "[I" ∈ wm := List.mem_append_left _ (List.mem_of_getElem? (i := 131) rfl)
theorem xm_132 : Cond.fieldLink R_MM 760 "SourceBackModel" "high" "I" ∈ wm := List.mem_append_left _ (List.mem_of_getElem? (i := 132) rfl)
theorem xm_133 : Cond.fieldLink R_MM 194 "SourceBackModel" "lists" "LSourceBackModel$Ints;" ∈ wm := List.mem_append_left _ (List.mem_of_getElem? (i := 133) rfl)
theorem xm_134 : Cond.fieldLink R_MM 197 "SourceBackModel" "tasks" "LSourceBackModel$Ints;" ∈ wm := List.mem_append_left _ (List.mem_of_getElem? (i := 134) rfl)
theorem xm_135 : Cond.fieldLink R_MM 200 "SourceBackModel" "hasLocal" "[Z" ∈ wm := List.mem_append_left _ (List.mem_of_getElem? (i := 135) rfl)
theorem xm_136 : Cond.fieldLink R_MM 203 "SourceBackModel" "seenTemporary" "LSourceBackModel$Ints;" ∈ wm := List.mem_append_left _ (List.mem_of_getElem? (i := 136) rfl)
theorem xm_137 : Cond.fieldLink R_MM 206 "SourceBackModel" "seenArray" "LSourceBackModel$Ints;" ∈ wm := List.mem_append_left _ (List.mem_of_getElem? (i := 137) rfl)
theorem xm_138 : Cond.fieldLink R_MM 231 "SourceBackModel" "signWords" "[Ljava/lang/String;" ∈ wm := List.mem_append_left _ (List.mem_of_getElem? (i := 138) rfl)
theorem xm_139 : Cond.fieldLink R_MM 247 "SourceBackModel" "comparedWords" "[Ljava/lang/String;" ∈ wm := List.mem_append_left _ (List.mem_of_getElem? (i := 139) rfl)
theorem xm_140 : Cond.fieldLink R_MM 250 "SourceBackModel" "variableWord" "[I" ∈ wm := List.mem_append_left _ (List.mem_of_getElem? (i := 140) rfl)
theorem xm_141 : Cond.fieldLink R_MM 253 "SourceBackModel" "variableKind" "[I" ∈ wm := List.mem_append_left _ (List.mem_of_getElem? (i := 141) rfl)
theorem xm_142 : Cond.fieldLink R_MM 256 "SourceBackModel" "labelWord" "[I" ∈ wm := List.mem_append_left _ (List.mem_of_getElem? (i := 142) rfl)
theorem xm_143 : Cond.fieldLink R_MM 259 "SourceBackModel" "isLoop" "[Z" ∈ wm := List.mem_append_left _ (List.mem_of_getElem? (i := 143) rfl)
theorem xm_144 : Cond.fieldLink R_MM 262 "SourceBackModel" "loopBegin" "[I" ∈ wm := List.mem_append_left _ (List.mem_of_getElem? (i := 144) rfl)
theorem xm_145 : Cond.fieldLink R_MM 265 "SourceBackModel" "breakChain" "[I" ∈ wm := List.mem_append_left _ (List.mem_of_getElem? (i := 145) rfl)
theorem xm_146 : Cond.fieldLink R_MM 268 "SourceBackModel" "keys" "LSourceBackModel$Longs;" ∈ wm := List.mem_append_left _ (List.mem_of_getElem? (i := 146) rfl)
theorem xm_147 : Cond.fieldLink R_MM 271 "SourceBackModel" "keyEnds" "LSourceBackModel$Ints;" ∈ wm := List.mem_append_left _ (List.mem_of_getElem? (i := 147) rfl)
theorem xm_148 : Cond.fieldLink R_MM 1345 "SourceBackModel" "firstPlace" "I" ∈ wm := List.mem_append_left _ (List.mem_of_getElem? (i := 148) rfl)
theorem xm_149 : Cond.fieldLink R_MM 274 "SourceBackModel" "draftMember" "LSourceBackModel$Member;" ∈ wm := List.mem_append_left _ (List.mem_of_getElem? (i := 149) rfl)
theorem xm_150 : Cond.fieldLink R_MM 277 "SourceBackModel" "draft" "LSourceBackModel$Bytes;" ∈ wm := List.mem_append_left _ (List.mem_of_getElem? (i := 150) rfl)
theorem xm_151 : Cond.fieldLink R_MM 280 "SourceBackModel" "assembled" "LSourceBackModel$Bytes;" ∈ wm := List.mem_append_left _ (List.mem_of_getElem? (i := 151) rfl)
theorem xm_152 : Cond.fieldLink R_MM 283 "SourceBackModel" "phase" "[I" ∈ wm := List.mem_append_left _ (List.mem_of_getElem? (i := 152) rfl)
theorem xm_153 : Cond.fieldLink R_MM 286 "SourceBackModel" "came" "[J" ∈ wm := List.mem_append_left _ (List.mem_of_getElem? (i := 153) rfl)
theorem xm_154 : Cond.fieldLink R_MM 290 "SourceBackModel" "failure" "[I" ∈ wm := List.mem_append_left _ (List.mem_of_getElem? (i := 154) rfl)
theorem xm_155 : Cond.fieldLink R_MM 293 "SourceBackModel" "failNumber" "[J" ∈ wm := List.mem_append_left _ (List.mem_of_getElem? (i := 155) rfl)
theorem xm_156 : Cond.fieldLink R_MM 296 "SourceBackModel" "done" "[J" ∈ wm := List.mem_append_left _ (List.mem_of_getElem? (i := 156) rfl)
theorem xm_157 : Cond.fieldLink R_MM 1488 "SourceBackModel" "begun" "I" ∈ wm := List.mem_append_left _ (List.mem_of_getElem? (i := 157) rfl)
theorem xm_158 : Cond.fieldLink R_MM 299 "SourceBackModel" "fieldValue" "[J" ∈ wm := List.mem_append_left _ (List.mem_of_getElem? (i := 158) rfl)
theorem xm_159 : Cond.fieldLink R_MM 302 "SourceBackModel" "arrayCount" "[I" ∈ wm := List.mem_append_left _ (List.mem_of_getElem? (i := 159) rfl)
theorem xm_160 : Cond.fieldLink R_MM 305 "SourceBackModel" "elementCount" "[I" ∈ wm := List.mem_append_left _ (List.mem_of_getElem? (i := 160) rfl)
theorem xm_161 : Cond.fieldLink R_MM 308 "SourceBackModel" "arrayFrom" "[I" ∈ wm := List.mem_append_left _ (List.mem_of_getElem? (i := 161) rfl)
theorem xm_162 : Cond.fieldLink R_MM 311 "SourceBackModel" "arraySize" "[I" ∈ wm := List.mem_append_left _ (List.mem_of_getElem? (i := 162) rfl)
theorem xm_163 : Cond.fieldLink R_MM 315 "SourceBackModel" "elements" "[J" ∈ wm := List.mem_append_left _ (List.mem_of_getElem? (i := 163) rfl)
theorem xm_164 : Cond.fieldLink R_MM 318 "SourceBackModel" "frames" "[I" ∈ wm := List.mem_append_left _ (List.mem_of_getElem? (i := 164) rfl)
theorem xm_165 : Cond.fieldLink R_MM 321 "SourceBackModel" "frameFile" "[I" ∈ wm := List.mem_append_left _ (List.mem_of_getElem? (i := 165) rfl)
theorem xm_166 : Cond.fieldLink R_MM 324 "SourceBackModel" "frameMember" "[I" ∈ wm := List.mem_append_left _ (List.mem_of_getElem? (i := 166) rfl)
theorem xm_167 : Cond.fieldLink R_MM 327 "SourceBackModel" "frameCode" "[LSourceBackModel$Member;" ∈ wm := List.mem_append_left _ (List.mem_of_getElem? (i := 167) rfl)
theorem xm_168 : Cond.fieldLink R_MM 331 "SourceBackModel" "frameAct" "[I" ∈ wm := List.mem_append_left _ (List.mem_of_getElem? (i := 168) rfl)
theorem xm_169 : Cond.fieldLink R_MM 334 "SourceBackModel" "frameHigh" "[I" ∈ wm := List.mem_append_left _ (List.mem_of_getElem? (i := 169) rfl)
theorem xm_170 : Cond.fieldLink R_MM 337 "SourceBackModel" "frameLocal" "[J" ∈ wm := List.mem_append_left _ (List.mem_of_getElem? (i := 170) rfl)
theorem xm_171 : Cond.fieldLink R_MM 340 "SourceBackModel" "framePile" "[J" ∈ wm := List.mem_append_left _ (List.mem_of_getElem? (i := 171) rfl)
theorem xm_172 : Cond.fieldLink R_MM 1476 "SourceBackModel" "side" "I" ∈ wm := List.mem_append_left _ (List.mem_of_getElem? (i := 172) rfl)
theorem xm_173 : Cond.fieldLink R_MM 1482 "SourceBackModel" "top" "I" ∈ wm := List.mem_append_left _ (List.mem_of_getElem? (i := 173) rfl)
theorem xm_174 : Cond.arrayClass FieldType.boolean ∈ wm := List.mem_append_left _ (List.mem_of_getElem? (i := 174) rfl)
theorem xm_175 : Cond.instanceMethod y_MM_thrown ∈ wm := List.mem_append_left _ (List.mem_of_getElem? (i := 175) rfl)
theorem xm_176 : Cond.selects R_MM y_MM_thrown y_MM_thrown ∈ wm := List.mem_append_left _ (List.mem_of_getElem? (i := 176) rfl)
theorem xm_177 : Cond.code y_MM_thrown b_MM_thrown 1 (some (.int)) ∈ wm := List.mem_append_left _ (List.mem_of_getElem? (i := 177) rfl)
theorem xm_178 : Cond.instanceMethod y_MM_feed ∈ wm := List.mem_append_left _ (List.mem_of_getElem? (i := 178) rfl)
theorem xm_179 : Cond.selects R_MM y_MM_feed y_MM_feed ∈ wm := List.mem_append_left _ (List.mem_of_getElem? (i := 179) rfl)
theorem xm_180 : Cond.code y_MM_feed b_MM_feed 4 (some (.int)) ∈ wm := List.mem_append_left _ (List.mem_of_getElem? (i := 180) rfl)
theorem xm_181 : Cond.constantLong R_MM 347 (8 : Int64) ∈ wm := List.mem_append_left _ (List.mem_of_getElem? (i := 181) rfl)
theorem xm_182 : Cond.methodLink R_MM 349 y_MM_in ∈ wm := List.mem_append_left _ (List.mem_of_getElem? (i := 182) rfl)
theorem xm_183 : Cond.static y_MM_in ∈ wm := List.mem_append_left _ (List.mem_of_getElem? (i := 183) rfl)
theorem xm_184 : Cond.code y_MM_in b_MM_in 6 (some (.boolean)) ∈ wm := List.mem_append_left _ (List.mem_of_getElem? (i := 184) rfl)
theorem xm_185 : Cond.constant R_MM 356 (65536 : Int32) ∈ wm := List.mem_append_left _ (List.mem_of_getElem? (i := 185) rfl)
theorem xm_186 : Cond.methodLink R_MM 357 y_MB_addLong ∈ wm := List.mem_append_left _ (List.mem_of_getElem? (i := 186) rfl)
theorem xm_187 : Cond.instanceMethod y_MB_addLong ∈ wm := List.mem_append_left _ (List.mem_of_getElem? (i := 187) rfl)
theorem xm_188 : Cond.selects R_MB y_MB_addLong y_MB_addLong ∈ wm := List.mem_append_left _ (List.mem_of_getElem? (i := 188) rfl)
theorem xm_189 : Cond.code y_MB_addLong b_MB_addLong 5 none ∈ wm := List.mem_append_left _ (List.mem_of_getElem? (i := 189) rfl)
theorem xm_190 : Cond.methodLink R_MB 17 y_MB_add ∈ wm := List.mem_append_left _ (List.mem_of_getElem? (i := 190) rfl)
theorem xm_191 : Cond.instanceMethod y_MB_add ∈ wm := List.mem_append_left _ (List.mem_of_getElem? (i := 191) rfl)
theorem xm_192 : Cond.selects R_MB y_MB_add y_MB_add ∈ wm := List.mem_append_left _ (List.mem_of_getElem? (i := 192) rfl)
theorem xm_193 : Cond.code y_MB_add b_MB_add 4 none ∈ wm := List.mem_append_left _ (List.mem_of_getElem? (i := 193) rfl)
theorem xm_194 : Cond.instanceMethod y_MM_take ∈ wm := List.mem_append_left _ (List.mem_of_getElem? (i := 194) rfl)
theorem xm_195 : Cond.selects R_MM y_MM_take y_MM_take ∈ wm := List.mem_append_left _ (List.mem_of_getElem? (i := 195) rfl)
theorem xm_196 : Cond.codeWith y_MM_take b_MM_take 3 (some (.int)) [(18, 126, 129, 7)] ∈ wm := List.mem_append_left _ (List.mem_of_getElem? (i := 196) rfl)
theorem xm_197 : Cond.methodLink R_MM 413 y_MM_newBox ∈ wm := List.mem_append_left _ (List.mem_of_getElem? (i := 197) rfl)
theorem xm_198 : Cond.instanceMethod y_MM_newBox ∈ wm := List.mem_append_left _ (List.mem_of_getElem? (i := 198) rfl)
theorem xm_199 : Cond.code y_MM_newBox b_MM_newBox 2 (some (.object "SourceBackModel$Box")) ∈ wm := List.mem_append_left _ (List.mem_of_getElem? (i := 199) rfl)
theorem xm_200 : Cond.methodLink R_MM 406 y_MX_clear ∈ wm := List.mem_append_left _ (List.mem_of_getElem? (i := 200) rfl)
theorem xm_201 : Cond.instanceMethod y_MX_clear ∈ wm := List.mem_append_left _ (List.mem_of_getElem? (i := 201) rfl)
theorem xm_202 : Cond.selects R_MX y_MX_clear y_MX_clear ∈ wm := List.mem_append_left _ (List.mem_of_getElem? (i := 202) rfl)
theorem xm_203 : Cond.code y_MX_clear b_MX_clear 1 none ∈ wm := List.mem_append_left _ (List.mem_of_getElem? (i := 203) rfl)
theorem xm_204 : Cond.methodLink R_MX 71 y_MX_add ∈ wm := List.mem_append_left _ (List.mem_of_getElem? (i := 204) rfl)
theorem xm_205 : Cond.instanceMethod y_MX_add ∈ wm := List.mem_append_left _ (List.mem_of_getElem? (i := 205) rfl)
theorem xm_206 : Cond.selects R_MX y_MX_add y_MX_add ∈ wm := List.mem_append_left _ (List.mem_of_getElem? (i := 206) rfl)
theorem xm_207 : Cond.code y_MX_add b_MX_add 2 (some (.int)) ∈ wm := List.mem_append_left _ (List.mem_of_getElem? (i := 207) rfl)
theorem xm_208 : Cond.methodLink R_MX 75 y_MI_add ∈ wm := List.mem_append_left _ (List.mem_of_getElem? (i := 208) rfl)
theorem xm_209 : Cond.instanceMethod y_MI_add ∈ wm := List.mem_append_left _ (List.mem_of_getElem? (i := 209) rfl)
theorem xm_210 : Cond.selects R_MI y_MI_add y_MI_add ∈ wm := List.mem_append_left _ (List.mem_of_getElem? (i := 210) rfl)
theorem xm_211 : Cond.code y_MI_add b_MI_add 4 none ∈ wm := List.mem_append_left _ (List.mem_of_getElem? (i := 211) rfl)
theorem xm_212 : Cond.methodLink R_MX 77 y_ML_add ∈ wm := List.mem_append_left _ (List.mem_of_getElem? (i := 212) rfl)
theorem xm_213 : Cond.instanceMethod y_ML_add ∈ wm := List.mem_append_left _ (List.mem_of_getElem? (i := 213) rfl)
theorem xm_214 : Cond.selects R_ML y_ML_add y_ML_add ∈ wm := List.mem_append_left _ (List.mem_of_getElem? (i := 214) rfl)
theorem xm_215 : Cond.code y_ML_add b_ML_add 5 none ∈ wm := List.mem_append_left _ (List.mem_of_getElem? (i := 215) rfl)
theorem xm_216 : Cond.instantiable R_MX 15 ∈ wm := List.mem_append_left _ (List.mem_of_getElem? (i := 216) rfl)
theorem xm_217 : Cond.instanceMethod y_MX_init ∈ wm := List.mem_append_left _ (List.mem_of_getElem? (i := 217) rfl)
theorem xm_218 : Cond.code y_MX_init b_MX_init 1 none ∈ wm := List.mem_append_left _ (List.mem_of_getElem? (i := 218) rfl)
theorem xm_219 : Cond.methodLink R_MX 3 objectInit ∈ wm := List.mem_append_left _ (List.mem_of_getElem? (i := 219) rfl)
theorem xm_220 : Cond.classLink R_MX 9 R_MB ∈ wm := List.mem_append_left _ (List.mem_of_getElem? (i := 220) rfl)
theorem xm_221 : Cond.classLink R_MX 18 R_MI ∈ wm := List.mem_append_left _ (List.mem_of_getElem? (i := 221) rfl)
theorem xm_222 : Cond.methodLink R_MX 20 y_MI_init ∈ wm := List.mem_append_left _ (List.mem_of_getElem? (i := 222) rfl)
theorem xm_223 : Cond.classLink R_MX 39 R_ML ∈ wm := List.mem_append_left _ (List.mem_of_getElem? (i := 223) rfl)
theorem xm_224 : Cond.methodLink R_MX 41 y_ML_init ∈ wm := List.mem_append_left _ (List.mem_of_getElem? (i := 224) rfl)
theorem xm_225 : Cond.classLink R_MX 52 R_MR ∈ wm := List.mem_append_left _ (List.mem_of_getElem? (i := 225) rfl)
theorem xm_226 : Cond.fieldLink R_MX 12 "SourceBackModel$Box" "bytes" "LSourceBackModel$Bytes;" ∈ wm := List.mem_append_left _ (List.mem_of_getElem? (i := 226) rfl)
theorem xm_227 : Cond.fieldLink R_MX 23 "SourceBackModel$Box" "tag" "LSourceBackModel$Ints;" ∈ wm := List.mem_append_left _ (List.mem_of_getElem? (i := 227) rfl)
theorem xm_228 : Cond.fieldLink R_MX 27 "SourceBackModel$Box" "word" "LSourceBackModel$Ints;" ∈ wm := List.mem_append_left _ (List.mem_of_getElem? (i := 228) rfl)
theorem xm_229 : Cond.fieldLink R_MX 30 "SourceBackModel$Box" "owner" "LSourceBackModel$Ints;" ∈ wm := List.mem_append_left _ (List.mem_of_getElem? (i := 229) rfl)
theorem xm_230 : Cond.fieldLink R_MX 33 "SourceBackModel$Box" "name" "LSourceBackModel$Ints;" ∈ wm := List.mem_append_left _ (List.mem_of_getElem? (i := 230) rfl)
theorem xm_231 : Cond.fieldLink R_MX 36 "SourceBackModel$Box" "sort" "LSourceBackModel$Ints;" ∈ wm := List.mem_append_left _ (List.mem_of_getElem? (i := 231) rfl)
theorem xm_232 : Cond.fieldLink R_MX 42 "SourceBackModel$Box" "number" "LSourceBackModel$Longs;" ∈ wm := List.mem_append_left _ (List.mem_of_getElem? (i := 232) rfl)
theorem xm_233 : Cond.fieldLink R_MX 46 "SourceBackModel$Box" "fields" "LSourceBackModel$Ints;" ∈ wm := List.mem_append_left _ (List.mem_of_getElem? (i := 233) rfl)
theorem xm_234 : Cond.fieldLink R_MX 49 "SourceBackModel$Box" "entryOf" "LSourceBackModel$Ints;" ∈ wm := List.mem_append_left _ (List.mem_of_getElem? (i := 234) rfl)
theorem xm_235 : Cond.fieldLink R_MX 54 "SourceBackModel$Box" "members" "[LSourceBackModel$Member;" ∈ wm := List.mem_append_left _ (List.mem_of_getElem? (i := 235) rfl)
theorem xm_236 : Cond.fieldLink R_MX 64 "SourceBackModel$Box" "memberCount" "I" ∈ wm := List.mem_append_left _ (List.mem_of_getElem? (i := 236) rfl)
theorem xm_237 : Cond.fieldLink R_MX 67 "SourceBackModel$Box" "hasMade" "Z" ∈ wm := List.mem_append_left _ (List.mem_of_getElem? (i := 237) rfl)
theorem xm_238 : Cond.methodLink R_MM 391 y_MM_must ∈ wm := List.mem_append_left _ (List.mem_of_getElem? (i := 238) rfl)
theorem xm_239 : Cond.instanceMethod y_MM_must ∈ wm := List.mem_append_left _ (List.mem_of_getElem? (i := 239) rfl)
theorem xm_240 : Cond.code y_MM_must b_MM_must 4 none ∈ wm := List.mem_append_left _ (List.mem_of_getElem? (i := 240) rfl)
theorem xm_241 : Cond.methodLink R_MM 383 y_MH_of ∈ wm := List.mem_append_left _ (List.mem_of_getElem? (i := 241) rfl)
theorem xm_242 : Cond.instanceMethod y_MH_of ∈ wm := List.mem_append_left _ (List.mem_of_getElem? (i := 242) rfl)
theorem xm_243 : Cond.selects R_MH y_MH_of y_MH_of ∈ wm := List.mem_append_left _ (List.mem_of_getElem? (i := 243) rfl)
theorem xm_244 : Cond.code y_MH_of b_MH_of 3 (some (.object "SourceBackModel$Halt")) ∈ wm := List.mem_append_left _ (List.mem_of_getElem? (i := 244) rfl)
theorem xm_245 : Cond.methodLink R_MM 421 y_MM_readsFile ∈ wm := List.mem_append_left _ (List.mem_of_getElem? (i := 245) rfl)
theorem xm_246 : Cond.instanceMethod y_MM_readsFile ∈ wm := List.mem_append_left _ (List.mem_of_getElem? (i := 246) rfl)
theorem xm_247 : Cond.code y_MM_readsFile b_MM_readsFile 5 none ∈ wm := List.mem_append_left _ (List.mem_of_getElem? (i := 247) rfl)
theorem xm_248 : Cond.methodLink R_MM 399 y_MM_reads ∈ wm := List.mem_append_left _ (List.mem_of_getElem? (i := 248) rfl)
theorem xm_249 : Cond.instanceMethod y_MM_reads ∈ wm := List.mem_append_left _ (List.mem_of_getElem? (i := 249) rfl)
theorem xm_250 : Cond.code y_MM_reads b_MM_reads 5 (some (.long)) ∈ wm := List.mem_append_left _ (List.mem_of_getElem? (i := 250) rfl)
theorem xm_251 : Cond.constantLong R_MM 450 (2953310494 : Int64) ∈ wm := List.mem_append_left _ (List.mem_of_getElem? (i := 251) rfl)
theorem xm_252 : Cond.constantLong R_MM 459 (9 : Int64) ∈ wm := List.mem_append_left _ (List.mem_of_getElem? (i := 252) rfl)
theorem xm_253 : Cond.constantLong R_MM 461 (2000 : Int64) ∈ wm := List.mem_append_left _ (List.mem_of_getElem? (i := 253) rfl)
theorem xm_254 : Cond.methodLink R_MM 367 y_MI_add ∈ wm := List.mem_append_left _ (List.mem_of_getElem? (i := 254) rfl)
theorem xm_255 : Cond.constantLong R_MM 580 (4000 : Int64) ∈ wm := List.mem_append_left _ (List.mem_of_getElem? (i := 255) rfl)
theorem xm_256 : Cond.instanceMethod y_MM_act_1 ∈ wm := List.mem_append_left _ (List.mem_of_getElem? (i := 256) rfl)
theorem xm_257 : Cond.code y_MM_act_1 b_MM_act_1 8 none ∈ wm := List.mem_append_left _ (List.mem_of_getElem? (i := 257) rfl)
theorem xm_258 : Cond.instanceMethod y_MM_member_0 ∈ wm := List.mem_append_left _ (List.mem_of_getElem? (i := 258) rfl)
theorem xm_259 : Cond.code y_MM_member_0 b_MM_member_0 6 (some (.int)) ∈ wm := List.mem_append_left _ (List.mem_of_getElem? (i := 259) rfl)
theorem xm_260 : Cond.methodLink R_MM 438 y_MM_settles ∈ wm := List.mem_append_left _ (List.mem_of_getElem? (i := 260) rfl)
theorem xm_261 : Cond.instanceMethod y_MM_settles ∈ wm := List.mem_append_left _ (List.mem_of_getElem? (i := 261) rfl)
theorem xm_262 : Cond.code y_MM_settles b_MM_settles 4 none ∈ wm := List.mem_append_left _ (List.mem_of_getElem? (i := 262) rfl)
theorem xm_263 : Cond.constantLong R_MM 1474 (-1 : Int64) ∈ wm := List.mem_append_left _ (List.mem_of_getElem? (i := 263) rfl)
theorem xm_264 : Cond.methodLink R_MM 441 y_MM_gives ∈ wm := List.mem_append_left _ (List.mem_of_getElem? (i := 264) rfl)
theorem xm_265 : Cond.instanceMethod y_MM_gives ∈ wm := List.mem_append_left _ (List.mem_of_getElem? (i := 265) rfl)
theorem xm_266 : Cond.code y_MM_gives b_MM_gives 2 none ∈ wm := List.mem_append_left _ (List.mem_of_getElem? (i := 266) rfl)
theorem xm_267 : Cond.instanceMethod y_MM_judge ∈ wm := List.mem_append_left _ (List.mem_of_getElem? (i := 267) rfl)
theorem xm_268 : Cond.selects R_MM y_MM_judge y_MM_judge ∈ wm := List.mem_append_left _ (List.mem_of_getElem? (i := 268) rfl)
theorem xm_269 : Cond.codeWith y_MM_judge b_MM_judge 4 (some (.int)) [(25, 47, 50, 7)] ∈ wm := List.mem_append_left _ (List.mem_of_getElem? (i := 269) rfl)
theorem xm_270 : Cond.instanceMethod y_MM_edit ∈ wm := List.mem_append_left _ (List.mem_of_getElem? (i := 270) rfl)
theorem xm_271 : Cond.selects R_MM y_MM_edit y_MM_edit ∈ wm := List.mem_append_left _ (List.mem_of_getElem? (i := 271) rfl)
theorem xm_272 : Cond.codeWith y_MM_edit b_MM_edit 6 (some (.int)) [(44, 142, 145, 7)] ∈ wm := List.mem_append_left _ (List.mem_of_getElem? (i := 272) rfl)
theorem xm_273 : Cond.instanceMethod y_MM_undo ∈ wm := List.mem_append_left _ (List.mem_of_getElem? (i := 273) rfl)
theorem xm_274 : Cond.selects R_MM y_MM_undo y_MM_undo ∈ wm := List.mem_append_left _ (List.mem_of_getElem? (i := 274) rfl)
theorem xm_275 : Cond.code y_MM_undo b_MM_undo 2 (some (.boolean)) ∈ wm := List.mem_append_left _ (List.mem_of_getElem? (i := 275) rfl)
theorem xm_276 : Cond.instanceMethod y_MM_pair ∈ wm := List.mem_append_left _ (List.mem_of_getElem? (i := 276) rfl)
theorem xm_277 : Cond.selects R_MM y_MM_pair y_MM_pair ∈ wm := List.mem_append_left _ (List.mem_of_getElem? (i := 277) rfl)
theorem xm_278 : Cond.code y_MM_pair b_MM_pair 7 (some (.int)) ∈ wm := List.mem_append_left _ (List.mem_of_getElem? (i := 278) rfl)
theorem xm_279 : Cond.methodLink R_MM 1468 y_MM_isMember ∈ wm := List.mem_append_left _ (List.mem_of_getElem? (i := 279) rfl)
theorem xm_280 : Cond.instanceMethod y_MM_isMember ∈ wm := List.mem_append_left _ (List.mem_of_getElem? (i := 280) rfl)
theorem xm_281 : Cond.code y_MM_isMember b_MM_isMember 3 (some (.boolean)) ∈ wm := List.mem_append_left _ (List.mem_of_getElem? (i := 281) rfl)
theorem xm_282 : Cond.instanceMethod y_MM_alike ∈ wm := List.mem_append_left _ (List.mem_of_getElem? (i := 282) rfl)
theorem xm_283 : Cond.selects R_MM y_MM_alike y_MM_alike ∈ wm := List.mem_append_left _ (List.mem_of_getElem? (i := 283) rfl)
theorem xm_284 : Cond.code y_MM_alike b_MM_alike 7 (some (.int)) ∈ wm := List.mem_append_left _ (List.mem_of_getElem? (i := 284) rfl)
theorem xm_285 : Cond.methodLink R_MM 1471 y_MM_pair ∈ wm := List.mem_append_left _ (List.mem_of_getElem? (i := 285) rfl)
theorem xm_286 : Cond.instanceMethod y_MM_settle ∈ wm := List.mem_append_left _ (List.mem_of_getElem? (i := 286) rfl)
theorem xm_287 : Cond.selects R_MM y_MM_settle y_MM_settle ∈ wm := List.mem_append_left _ (List.mem_of_getElem? (i := 287) rfl)
theorem xm_288 : Cond.code y_MM_settle b_MM_settle 1 none ∈ wm := List.mem_append_left _ (List.mem_of_getElem? (i := 288) rfl)
theorem xm_289 : Cond.instanceMethod y_MM_call ∈ wm := List.mem_append_left _ (List.mem_of_getElem? (i := 289) rfl)
theorem xm_290 : Cond.selects R_MM y_MM_call y_MM_call ∈ wm := List.mem_append_left _ (List.mem_of_getElem? (i := 290) rfl)
theorem xm_291 : Cond.code y_MM_call b_MM_call 13 (some (.boolean)) ∈ wm := List.mem_append_left _ (List.mem_of_getElem? (i := 291) rfl)
theorem xm_292 : Cond.constantLong R_MM 1494 (4 : Int64) ∈ wm := List.mem_append_left _ (List.mem_of_getElem? (i := 292) rfl)
theorem xm_293 : Cond.instanceMethod y_MM_steps ∈ wm := List.mem_append_left _ (List.mem_of_getElem? (i := 293) rfl)
theorem xm_294 : Cond.selects R_MM y_MM_steps y_MM_steps ∈ wm := List.mem_append_left _ (List.mem_of_getElem? (i := 294) rfl)
theorem xm_295 : Cond.code y_MM_steps b_MM_steps 4 (some (.int)) ∈ wm := List.mem_append_left _ (List.mem_of_getElem? (i := 295) rfl)
theorem xm_296 : Cond.instanceMethod y_MM_file ∈ wm := List.mem_append_left _ (List.mem_of_getElem? (i := 296) rfl)
theorem xm_297 : Cond.selects R_MM y_MM_file y_MM_file ∈ wm := List.mem_append_left _ (List.mem_of_getElem? (i := 297) rfl)
theorem xm_298 : Cond.code y_MM_file b_MM_file 4 (some (.int)) ∈ wm := List.mem_append_left _ (List.mem_of_getElem? (i := 298) rfl)
theorem xm_299 : Cond.instanceMethod y_MM_byteAt ∈ wm := List.mem_append_left _ (List.mem_of_getElem? (i := 299) rfl)
theorem xm_300 : Cond.selects R_MM y_MM_byteAt y_MM_byteAt ∈ wm := List.mem_append_left _ (List.mem_of_getElem? (i := 300) rfl)
theorem xm_301 : Cond.code y_MM_byteAt b_MM_byteAt 5 (some (.int)) ∈ wm := List.mem_append_left _ (List.mem_of_getElem? (i := 301) rfl)
theorem xm_302 : Cond.instanceMethod y_MM_entry ∈ wm := List.mem_append_left _ (List.mem_of_getElem? (i := 302) rfl)
theorem xm_303 : Cond.selects R_MM y_MM_entry y_MM_entry ∈ wm := List.mem_append_left _ (List.mem_of_getElem? (i := 303) rfl)
theorem xm_304 : Cond.code y_MM_entry b_MM_entry 8 (some (.long)) ∈ wm := List.mem_append_left _ (List.mem_of_getElem? (i := 304) rfl)
theorem xm_305 : Cond.instanceMethod y_MM_member_1 ∈ wm := List.mem_append_left _ (List.mem_of_getElem? (i := 305) rfl)
theorem xm_306 : Cond.selects R_MM y_MM_member_1 y_MM_member_1 ∈ wm := List.mem_append_left _ (List.mem_of_getElem? (i := 306) rfl)
theorem xm_307 : Cond.code y_MM_member_1 b_MM_member_1 5 (some (.int)) ∈ wm := List.mem_append_left _ (List.mem_of_getElem? (i := 307) rfl)
theorem xm_308 : Cond.instanceMethod y_MM_act_0 ∈ wm := List.mem_append_left _ (List.mem_of_getElem? (i := 308) rfl)
theorem xm_309 : Cond.selects R_MM y_MM_act_0 y_MM_act_0 ∈ wm := List.mem_append_left _ (List.mem_of_getElem? (i := 309) rfl)
theorem xm_310 : Cond.code y_MM_act_0 b_MM_act_0 7 (some (.int)) ∈ wm := List.mem_append_left _ (List.mem_of_getElem? (i := 310) rfl)
theorem xm_311 : Cond.instanceMethod y_MM_kind ∈ wm := List.mem_append_left _ (List.mem_of_getElem? (i := 311) rfl)
theorem xm_312 : Cond.selects R_MM y_MM_kind y_MM_kind ∈ wm := List.mem_append_left _ (List.mem_of_getElem? (i := 312) rfl)
theorem xm_313 : Cond.code y_MM_kind b_MM_kind 7 (some (.int)) ∈ wm := List.mem_append_left _ (List.mem_of_getElem? (i := 313) rfl)
theorem xm_314 : Cond.instanceMethod y_MM_block ∈ wm := List.mem_append_left _ (List.mem_of_getElem? (i := 314) rfl)
theorem xm_315 : Cond.selects R_MM y_MM_block y_MM_block ∈ wm := List.mem_append_left _ (List.mem_of_getElem? (i := 315) rfl)
theorem xm_316 : Cond.code y_MM_block b_MM_block 7 (some (.int)) ∈ wm := List.mem_append_left _ (List.mem_of_getElem? (i := 316) rfl)
theorem xm_317 : Cond.instanceMethod y_MM_text ∈ wm := List.mem_append_left _ (List.mem_of_getElem? (i := 317) rfl)
theorem xm_318 : Cond.selects R_MM y_MM_text y_MM_text ∈ wm := List.mem_append_left _ (List.mem_of_getElem? (i := 318) rfl)
theorem xm_319 : Cond.code y_MM_text b_MM_text 5 (some (.int)) ∈ wm := List.mem_append_left _ (List.mem_of_getElem? (i := 319) rfl)
theorem xm_320 : Cond.instanceMethod y_MM_state ∈ wm := List.mem_append_left _ (List.mem_of_getElem? (i := 320) rfl)
theorem xm_321 : Cond.selects R_MM y_MM_state y_MM_state ∈ wm := List.mem_append_left _ (List.mem_of_getElem? (i := 321) rfl)
theorem xm_322 : Cond.code y_MM_state b_MM_state 5 (some (.long)) ∈ wm := List.mem_append_left _ (List.mem_of_getElem? (i := 322) rfl)
theorem xm_323 : Cond.instanceMethod y_MM_field ∈ wm := List.mem_append_left _ (List.mem_of_getElem? (i := 323) rfl)
theorem xm_324 : Cond.selects R_MM y_MM_field y_MM_field ∈ wm := List.mem_append_left _ (List.mem_of_getElem? (i := 324) rfl)
theorem xm_325 : Cond.code y_MM_field b_MM_field 5 (some (.long)) ∈ wm := List.mem_append_left _ (List.mem_of_getElem? (i := 325) rfl)
theorem xm_326 : Cond.instanceMethod y_MM_element ∈ wm := List.mem_append_left _ (List.mem_of_getElem? (i := 326) rfl)
theorem xm_327 : Cond.selects R_MM y_MM_element y_MM_element ∈ wm := List.mem_append_left _ (List.mem_of_getElem? (i := 327) rfl)
theorem xm_328 : Cond.code y_MM_element b_MM_element 6 (some (.long)) ∈ wm := List.mem_append_left _ (List.mem_of_getElem? (i := 328) rfl)
theorem xm_329 : Cond.instanceMethod y_MM_count ∈ wm := List.mem_append_left _ (List.mem_of_getElem? (i := 329) rfl)
theorem xm_330 : Cond.selects R_MM y_MM_count y_MM_count ∈ wm := List.mem_append_left _ (List.mem_of_getElem? (i := 330) rfl)
theorem xm_331 : Cond.code y_MM_count b_MM_count 4 (some (.int)) ∈ wm := List.mem_append_left _ (List.mem_of_getElem? (i := 331) rfl)
theorem xm_332 : Cond.selects R_MM y_MM_must y_MM_must ∈ wm := List.mem_append_left _ (List.mem_of_getElem? (i := 332) rfl)
theorem xm_333 : Cond.selects R_MM y_MM_reads y_MM_reads ∈ wm := List.mem_append_left _ (List.mem_of_getElem? (i := 333) rfl)
theorem xm_334 : Cond.selects R_MM y_MM_newBox y_MM_newBox ∈ wm := List.mem_append_left _ (List.mem_of_getElem? (i := 334) rfl)
theorem xm_335 : Cond.selects R_MM y_MM_gives y_MM_gives ∈ wm := List.mem_append_left _ (List.mem_of_getElem? (i := 335) rfl)
theorem xm_336 : Cond.selects R_MM y_MM_readsFile y_MM_readsFile ∈ wm := List.mem_append_left _ (List.mem_of_getElem? (i := 336) rfl)
theorem xm_337 : Cond.selects R_MM y_MM_act_1 y_MM_act_1 ∈ wm := List.mem_append_left _ (List.mem_of_getElem? (i := 337) rfl)
theorem xm_338 : Cond.selects R_MM y_MM_member_0 y_MM_member_0 ∈ wm := List.mem_append_left _ (List.mem_of_getElem? (i := 338) rfl)
theorem xm_339 : Cond.selects R_MM y_MM_isMember y_MM_isMember ∈ wm := List.mem_append_left _ (List.mem_of_getElem? (i := 339) rfl)
theorem xm_340 : Cond.selects R_MM y_MM_settles y_MM_settles ∈ wm := List.mem_append_left _ (List.mem_of_getElem? (i := 340) rfl)
/-- links to private members of nest mates -/
def wm_n : List Cond := [.methodLinkNest R_MM 9 y_MH_init "SourceBackModel",
  .fieldLinkNest R_MM 444 "SourceBackModel$Halt" "number" "I" "SourceBackModel",
  .fieldLinkNest R_MM 447 "SourceBackModel$Halt" "place" "I" "SourceBackModel",
  .methodLinkNest R_MM 18 y_MB_init "SourceBackModel",
  .fieldLinkNest R_MM 365 "SourceBackModel$Bytes" "a" "[B" "SourceBackModel",
  .fieldLinkNest R_MX 58 "SourceBackModel$Bytes" "size" "I" "SourceBackModel",
  .fieldLinkNest R_MM 353 "SourceBackModel$Bytes" "size" "I" "SourceBackModel",
  .fieldLinkNest R_MM 362 "SourceBackModel$Ints" "a" "[I" "SourceBackModel",
  .fieldLinkNest R_MX 62 "SourceBackModel$Ints" "size" "I" "SourceBackModel",
  .fieldLinkNest R_MM 361 "SourceBackModel$Ints" "size" "I" "SourceBackModel",
  .fieldLinkNest R_MM 525 "SourceBackModel$Longs" "a" "[J" "SourceBackModel",
  .fieldLinkNest R_MX 63 "SourceBackModel$Longs" "size" "I" "SourceBackModel",
  .fieldLinkNest R_MM 561 "SourceBackModel$Member" "name" "I" "SourceBackModel",
  .fieldLinkNest R_MM 563 "SourceBackModel$Member" "sign" "I" "SourceBackModel",
  .fieldLinkNest R_MM 570 "SourceBackModel$Member" "locals" "I" "SourceBackModel",
  .fieldLinkNest R_MM 489 "SourceBackModel$Member" "pile" "I" "SourceBackModel",
  .fieldLinkNest R_MM 578 "SourceBackModel$Member" "bytes" "I" "SourceBackModel",
  .fieldLinkNest R_MM 643 "SourceBackModel$Member" "at" "LSourceBackModel$Ints;" "SourceBackModel",
  .fieldLinkNest R_MM 637 "SourceBackModel$Member" "op" "LSourceBackModel$Ints;" "SourceBackModel",
  .fieldLinkNest R_MM 1377 "SourceBackModel$Member" "text" "LSourceBackModel$Bytes;" "SourceBackModel",
  .fieldLinkNest R_MM 1355 "SourceBackModel$Member" "remade" "I" "SourceBackModel",
  .fieldLinkNest R_MM 1368 "SourceBackModel$Member" "reached" "I" "SourceBackModel",
  .fieldLinkNest R_MM 1371 "SourceBackModel$Member" "blockCount" "I" "SourceBackModel",
  .fieldLinkNest R_MM 1374 "SourceBackModel$Member" "isKnotted" "Z" "SourceBackModel",
  .methodLinkNest R_MM 409 y_MX_init "SourceBackModel",
  .methodLinkNest R_MX 11 y_MB_init "SourceBackModel",
  .fieldLinkNest R_MM 424 "SourceBackModel$Box" "bytes" "LSourceBackModel$Bytes;" "SourceBackModel",
  .fieldLinkNest R_MM 456 "SourceBackModel$Box" "version" "I" "SourceBackModel",
  .fieldLinkNest R_MM 469 "SourceBackModel$Box" "nameEntry" "I" "SourceBackModel",
  .fieldLinkNest R_MM 541 "SourceBackModel$Box" "tag" "LSourceBackModel$Ints;" "SourceBackModel",
  .fieldLinkNest R_MM 517 "SourceBackModel$Box" "word" "LSourceBackModel$Ints;" "SourceBackModel",
  .fieldLinkNest R_MM 531 "SourceBackModel$Box" "owner" "LSourceBackModel$Ints;" "SourceBackModel",
  .fieldLinkNest R_MM 534 "SourceBackModel$Box" "name" "LSourceBackModel$Ints;" "SourceBackModel",
  .fieldLinkNest R_MM 527 "SourceBackModel$Box" "sort" "LSourceBackModel$Ints;" "SourceBackModel",
  .fieldLinkNest R_MM 523 "SourceBackModel$Box" "number" "LSourceBackModel$Longs;" "SourceBackModel",
  .fieldLinkNest R_MM 553 "SourceBackModel$Box" "fields" "LSourceBackModel$Ints;" "SourceBackModel",
  .fieldLinkNest R_MM 582 "SourceBackModel$Box" "entryOf" "LSourceBackModel$Ints;" "SourceBackModel",
  .fieldLinkNest R_MM 482 "SourceBackModel$Box" "members" "[LSourceBackModel$Member;" "SourceBackModel",
  .fieldLinkNest R_MM 558 "SourceBackModel$Box" "memberCount" "I" "SourceBackModel",
  .fieldLinkNest R_MM 1447 "SourceBackModel$Box" "hasMade" "Z" "SourceBackModel",
  .fieldLinkNest R_MM 1450 "SourceBackModel$Box" "made" "LSourceBackModel$Box;" "SourceBackModel"]
theorem zm_0 : Cond.methodLinkNest R_MM 9 y_MH_init "SourceBackModel" ∈ wm_n := List.mem_of_getElem? (i := 0) rfl
theorem zm_1 : Cond.fieldLinkNest R_MM 444 "SourceBackModel$Halt" "number" "I" "SourceBackModel" ∈ wm_n := List.mem_of_getElem? (i := 1) rfl
theorem zm_2 : Cond.fieldLinkNest R_MM 447 "SourceBackModel$Halt" "place" "I" "SourceBackModel" ∈ wm_n := List.mem_of_getElem? (i := 2) rfl
theorem zm_3 : Cond.methodLinkNest R_MM 18 y_MB_init "SourceBackModel" ∈ wm_n := List.mem_of_getElem? (i := 3) rfl
theorem zm_4 : Cond.fieldLinkNest R_MM 365 "SourceBackModel$Bytes" "a" "[B" "SourceBackModel" ∈ wm_n := List.mem_of_getElem? (i := 4) rfl
theorem zm_5 : Cond.fieldLinkNest R_MX 58 "SourceBackModel$Bytes" "size" "I" "SourceBackModel" ∈ wm_n := List.mem_of_getElem? (i := 5) rfl
theorem zm_6 : Cond.fieldLinkNest R_MM 353 "SourceBackModel$Bytes" "size" "I" "SourceBackModel" ∈ wm_n := List.mem_of_getElem? (i := 6) rfl
theorem zm_7 : Cond.fieldLinkNest R_MM 362 "SourceBackModel$Ints" "a" "[I" "SourceBackModel" ∈ wm_n := List.mem_of_getElem? (i := 7) rfl
theorem zm_8 : Cond.fieldLinkNest R_MX 62 "SourceBackModel$Ints" "size" "I" "SourceBackModel" ∈ wm_n := List.mem_of_getElem? (i := 8) rfl
theorem zm_9 : Cond.fieldLinkNest R_MM 361 "SourceBackModel$Ints" "size" "I" "SourceBackModel" ∈ wm_n := List.mem_of_getElem? (i := 9) rfl
theorem zm_10 : Cond.fieldLinkNest R_MM 525 "SourceBackModel$Longs" "a" "[J" "SourceBackModel" ∈ wm_n := List.mem_of_getElem? (i := 10) rfl
theorem zm_11 : Cond.fieldLinkNest R_MX 63 "SourceBackModel$Longs" "size" "I" "SourceBackModel" ∈ wm_n := List.mem_of_getElem? (i := 11) rfl
theorem zm_12 : Cond.fieldLinkNest R_MM 561 "SourceBackModel$Member" "name" "I" "SourceBackModel" ∈ wm_n := List.mem_of_getElem? (i := 12) rfl
theorem zm_13 : Cond.fieldLinkNest R_MM 563 "SourceBackModel$Member" "sign" "I" "SourceBackModel" ∈ wm_n := List.mem_of_getElem? (i := 13) rfl
theorem zm_14 : Cond.fieldLinkNest R_MM 570 "SourceBackModel$Member" "locals" "I" "SourceBackModel" ∈ wm_n := List.mem_of_getElem? (i := 14) rfl
theorem zm_15 : Cond.fieldLinkNest R_MM 489 "SourceBackModel$Member" "pile" "I" "SourceBackModel" ∈ wm_n := List.mem_of_getElem? (i := 15) rfl
theorem zm_16 : Cond.fieldLinkNest R_MM 578 "SourceBackModel$Member" "bytes" "I" "SourceBackModel" ∈ wm_n := List.mem_of_getElem? (i := 16) rfl
theorem zm_17 : Cond.fieldLinkNest R_MM 643 "SourceBackModel$Member" "at" "LSourceBackModel$Ints;" "SourceBackModel" ∈ wm_n := List.mem_of_getElem? (i := 17) rfl
theorem zm_18 : Cond.fieldLinkNest R_MM 637 "SourceBackModel$Member" "op" "LSourceBackModel$Ints;" "SourceBackModel" ∈ wm_n := List.mem_of_getElem? (i := 18) rfl
theorem zm_19 : Cond.fieldLinkNest R_MM 1377 "SourceBackModel$Member" "text" "LSourceBackModel$Bytes;" "SourceBackModel" ∈ wm_n := List.mem_of_getElem? (i := 19) rfl
theorem zm_20 : Cond.fieldLinkNest R_MM 1355 "SourceBackModel$Member" "remade" "I" "SourceBackModel" ∈ wm_n := List.mem_of_getElem? (i := 20) rfl
theorem zm_21 : Cond.fieldLinkNest R_MM 1368 "SourceBackModel$Member" "reached" "I" "SourceBackModel" ∈ wm_n := List.mem_of_getElem? (i := 21) rfl
theorem zm_22 : Cond.fieldLinkNest R_MM 1371 "SourceBackModel$Member" "blockCount" "I" "SourceBackModel" ∈ wm_n := List.mem_of_getElem? (i := 22) rfl
theorem zm_23 : Cond.fieldLinkNest R_MM 1374 "SourceBackModel$Member" "isKnotted" "Z" "SourceBackModel" ∈ wm_n := List.mem_of_getElem? (i := 23) rfl
theorem zm_24 : Cond.methodLinkNest R_MM 409 y_MX_init "SourceBackModel" ∈ wm_n := List.mem_of_getElem? (i := 24) rfl
theorem zm_25 : Cond.methodLinkNest R_MX 11 y_MB_init "SourceBackModel" ∈ wm_n := List.mem_of_getElem? (i := 25) rfl
theorem zm_26 : Cond.fieldLinkNest R_MM 424 "SourceBackModel$Box" "bytes" "LSourceBackModel$Bytes;" "SourceBackModel" ∈ wm_n := List.mem_of_getElem? (i := 26) rfl
theorem zm_27 : Cond.fieldLinkNest R_MM 456 "SourceBackModel$Box" "version" "I" "SourceBackModel" ∈ wm_n := List.mem_of_getElem? (i := 27) rfl
theorem zm_28 : Cond.fieldLinkNest R_MM 469 "SourceBackModel$Box" "nameEntry" "I" "SourceBackModel" ∈ wm_n := List.mem_of_getElem? (i := 28) rfl
theorem zm_29 : Cond.fieldLinkNest R_MM 541 "SourceBackModel$Box" "tag" "LSourceBackModel$Ints;" "SourceBackModel" ∈ wm_n := List.mem_of_getElem? (i := 29) rfl
theorem zm_30 : Cond.fieldLinkNest R_MM 517 "SourceBackModel$Box" "word" "LSourceBackModel$Ints;" "SourceBackModel" ∈ wm_n := List.mem_of_getElem? (i := 30) rfl
theorem zm_31 : Cond.fieldLinkNest R_MM 531 "SourceBackModel$Box" "owner" "LSourceBackModel$Ints;" "SourceBackModel" ∈ wm_n := List.mem_of_getElem? (i := 31) rfl
theorem zm_32 : Cond.fieldLinkNest R_MM 534 "SourceBackModel$Box" "name" "LSourceBackModel$Ints;" "SourceBackModel" ∈ wm_n := List.mem_of_getElem? (i := 32) rfl
theorem zm_33 : Cond.fieldLinkNest R_MM 527 "SourceBackModel$Box" "sort" "LSourceBackModel$Ints;" "SourceBackModel" ∈ wm_n := List.mem_of_getElem? (i := 33) rfl
theorem zm_34 : Cond.fieldLinkNest R_MM 523 "SourceBackModel$Box" "number" "LSourceBackModel$Longs;" "SourceBackModel" ∈ wm_n := List.mem_of_getElem? (i := 34) rfl
theorem zm_35 : Cond.fieldLinkNest R_MM 553 "SourceBackModel$Box" "fields" "LSourceBackModel$Ints;" "SourceBackModel" ∈ wm_n := List.mem_of_getElem? (i := 35) rfl
theorem zm_36 : Cond.fieldLinkNest R_MM 582 "SourceBackModel$Box" "entryOf" "LSourceBackModel$Ints;" "SourceBackModel" ∈ wm_n := List.mem_of_getElem? (i := 36) rfl
theorem zm_37 : Cond.fieldLinkNest R_MM 482 "SourceBackModel$Box" "members" "[LSourceBackModel$Member;" "SourceBackModel" ∈ wm_n := List.mem_of_getElem? (i := 37) rfl
theorem zm_38 : Cond.fieldLinkNest R_MM 558 "SourceBackModel$Box" "memberCount" "I" "SourceBackModel" ∈ wm_n := List.mem_of_getElem? (i := 38) rfl
theorem zm_39 : Cond.fieldLinkNest R_MM 1447 "SourceBackModel$Box" "hasMade" "Z" "SourceBackModel" ∈ wm_n := List.mem_of_getElem? (i := 39) rfl
theorem zm_40 : Cond.fieldLinkNest R_MM 1450 "SourceBackModel$Box" "made" "LSourceBackModel$Box;" "SourceBackModel" ∈ wm_n := List.mem_of_getElem? (i := 40) rfl
def ax_isN : Cond → Bool
  | .fieldLinkNest .. => true
  | .methodLinkNest .. => true
  | _ => false
def wm_ao : List String := ["SourceBackModel$Box", "java/lang/String", "SourceBackModel$Member"]
def mK (dC : Nat → ClassId) (dI : Nat → Nat → Nat) (ca : Nat → ClassId) (U : State) : Prop := va_K (dC, dI) classes (ax_tys ca) U ∧ (∀ w ∈ wm_n, va_Nw w U) ∧ ∀ C ∈ wm_ao, va_AO C U
theorem ax_warmN {w : Cond} (hw : ax_isN w = true) {s U : State} (hW : s.WarmedH U.vm) (h : va_Nw w s) : va_Nw w U := by
  cases w <;> first | exact va_Nw.warmF hW h | exact va_Nw.warmM hW h | cases hw
theorem ax_onN {w : Cond} (hw : ax_isN w = true) : w.onTables = true := by cases w <;> first | rfl | cases hw
theorem wm_n_ok : ∀ w ∈ wm_n, ax_isN w = true := fun w h => List.all_eq_true.mp (by decide +kernel : wm_n.all ax_isN = true) w h
theorem mK_bl (dC : Nat → ClassId) (dI : Nat → Nat → Nat) (ca : Nat → ClassId) : ax_bl (mK dC dI ca) :=
  fun U g mk a h => ⟨va_K.moved (u := U) (U := U.calling g mk a) (Vm.Alike.refl U.vm) h.1, fun w hw => va_Nw.same (u := U) (U := U.calling g mk a) (ax_onN (wm_n_ok w hw)) rfl (h.2.1 w hw), fun C hC => va_AO.moved (u := U) (U := U.calling g mk a) (Vm.Alike.refl U.vm) (h.2.2 C hC)⟩
theorem mK_up {dC : Nat → ClassId} {dI : Nat → Nat → Nat} {ca : Nat → ClassId} {s : State} {H : Heap} (h : mK dC dI ca s) : ∀ U : State, U.heap = H → s.WarmedH U.vm → mK dC dI ca U :=
  fun U _ hW => ⟨va_K.moved hW.alike h.1, fun w hw => ax_warmN (wm_n_ok w hw) hW (h.2.1 w hw), fun C hC => va_AO.moved hW.alike (h.2.2 C hC)⟩

