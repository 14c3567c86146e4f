/-! THE SMALL MACHINE, tables: names by numbers, fields, methods, links (printed by wip/whole/tools/gen_tabs.py out of the words of the tables) -/
def mm_cns : List String := ["StudentSwaps", "StudentSwaps$Scales", "StudentSwaps$Tape", "StudentSwaps$TextReader", "StudentSwaps$Grid", "StudentSwaps$Facts", "java/util/ArrayList", "StudentSwaps$Plan", "StudentSwaps$Bounds", "StudentSwaps$School", "StudentSwaps$Agreement", "StudentSwaps$Student", "StudentSwaps$Course", "StudentSwapsModel", "java/lang/Object", "java/util/Arrays", "java/util/AbstractList", "java/util/AbstractCollection", "jdk/internal/util/ArraysSupport", "java/lang/Math", "java/util/Objects", "jdk/internal/util/Preconditions", "java/lang/String", "java/lang/StringLatin1", "java/lang/StringUTF16", "java/lang/Character", "java/lang/Integer", "StudentSwapsLaw"]
def mm_cn (o : Nat) : String := mm_cns.getD o ""
def mm_T0 : u_T := fun k => match k with
  | 0 => ("StudentSwaps", "yearNow", "I", false)
  | 1 => ("StudentSwaps", "visaLeast", "[I", true)
  | 2 => ("StudentSwaps", "visaMost", "[I", true)
  | 3 => ("StudentSwaps", "guestsOn", "[I", true)
  | 4 => ("StudentSwaps", "scales", "LStudentSwaps$Scales;", true)
  | 5 => ("StudentSwaps", "tape", "LStudentSwaps$Tape;", true)
  | 6 => ("StudentSwaps", "reader", "LStudentSwaps$TextReader;", true)
  | 7 => ("StudentSwaps", "grid", "LStudentSwaps$Grid;", true)
  | 8 => ("StudentSwaps", "facts", "LStudentSwaps$Facts;", true)
  | 9 => ("StudentSwaps", "schools", "Ljava/util/List;", true)
  | 10 => ("StudentSwaps", "agreements", "Ljava/util/List;", true)
  | 11 => ("StudentSwaps", "students", "Ljava/util/List;", true)
  | _ => ("StudentSwaps", "plan", "LStudentSwaps$Plan;", true)
def mm_ty0 : Nat → FieldType := fun k => match k with
  | 0 => .int
  | 1 => (.array .int)
  | 2 => (.array .int)
  | 3 => (.array .int)
  | 4 => (.object "StudentSwaps$Scales")
  | 5 => (.object "StudentSwaps$Tape")
  | 6 => (.object "StudentSwaps$TextReader")
  | 7 => (.object "StudentSwaps$Grid")
  | 8 => (.object "StudentSwaps$Facts")
  | 9 => (.object "java/util/List")
  | 10 => (.object "java/util/List")
  | 11 => (.object "java/util/List")
  | _ => (.object "StudentSwaps$Plan")
def mm_T1 : u_T := fun k => match k with
  | _ => ("StudentSwaps$Scales", "rows", "[[I", true)
def mm_ty1 : Nat → FieldType := fun k => match k with
  | _ => (.array (.array .int))
def mm_T2 : u_T := fun k => match k with
  | 0 => ("StudentSwaps$Tape", "bytes", "[I", true)
  | _ => ("StudentSwaps$Tape", "size", "I", false)
def mm_ty2 : Nat → FieldType := fun k => match k with
  | 0 => (.array .int)
  | _ => .int
def mm_T3 : u_T := fun k => match k with
  | 0 => ("StudentSwaps$TextReader", "bytes", "[I", false)
  | 1 => ("StudentSwaps$TextReader", "end", "I", false)
  | 2 => ("StudentSwaps$TextReader", "place", "I", false)
  | 3 => ("StudentSwaps$TextReader", "fault", "I", false)
  | 4 => ("StudentSwaps$TextReader", "codes", "[I", true)
  | 5 => ("StudentSwaps$TextReader", "codeCount", "I", false)
  | 6 => ("StudentSwaps$TextReader", "number", "I", false)
  | 7 => ("StudentSwaps$TextReader", "balance", "I", false)
  | 8 => ("StudentSwaps$TextReader", "pence", "I", false)
  | 9 => ("StudentSwaps$TextReader", "firstYear", "I", false)
  | 10 => ("StudentSwaps$TextReader", "lastYear", "I", false)
  | _ => ("StudentSwaps$TextReader", "expressions", "I", false)
def mm_ty3 : Nat → FieldType := fun k => match k with
  | 0 => (.array .int)
  | 1 => .int
  | 2 => .int
  | 3 => .int
  | 4 => (.array .int)
  | 5 => .int
  | 6 => .int
  | 7 => .int
  | 8 => .int
  | 9 => .int
  | 10 => .int
  | _ => .int
def mm_T4 : u_T := fun k => match k with
  | _ => ("StudentSwaps$Grid", "edges", "[[I", true)
def mm_ty4 : Nat → FieldType := fun k => match k with
  | _ => (.array (.array .int))
def mm_T5 : u_T := fun k => match k with
  | 0 => ("StudentSwaps$Facts", "size", "I", false)
  | 1 => ("StudentSwaps$Facts", "latest", "I", false)
  | 2 => ("StudentSwaps$Facts", "who", "[I", true)
  | 3 => ("StudentSwaps$Facts", "kinds", "[I", true)
  | 4 => ("StudentSwaps$Facts", "days", "[I", true)
  | _ => ("StudentSwaps$Facts", "tolds", "[I", true)
def mm_ty5 : Nat → FieldType := fun k => match k with
  | 0 => .int
  | 1 => .int
  | 2 => (.array .int)
  | 3 => (.array .int)
  | 4 => (.array .int)
  | _ => (.array .int)
def mm_T6 : u_T := fun k => match k with
  | 0 => ("java/util/ArrayList", "elementData", "[Ljava/lang/Object;", false)
  | 1 => ("java/util/ArrayList", "size", "I", false)
  | _ => ("java/util/AbstractList", "modCount", "I", false)
def mm_ty6 : Nat → FieldType := fun k => match k with
  | 0 => (.array (.object "java/lang/Object"))
  | 1 => .int
  | _ => .int
def mm_T7 : u_T := fun k => match k with
  | 0 => ("StudentSwaps$Plan", "bounds", "LStudentSwaps$Bounds;", true)
  | 1 => ("StudentSwaps$Plan", "size", "I", false)
  | 2 => ("StudentSwaps$Plan", "who", "[I", true)
  | 3 => ("StudentSwaps$Plan", "options", "[I", true)
  | 4 => ("StudentSwaps$Plan", "wishes", "[[I", true)
  | 5 => ("StudentSwaps$Plan", "hosts", "[[I", true)
  | 6 => ("StudentSwaps$Plan", "agreements", "[[I", true)
  | 7 => ("StudentSwaps$Plan", "ways", "[[I", true)
  | 8 => ("StudentSwaps$Plan", "worths", "[[I", true)
  | 9 => ("StudentSwaps$Plan", "worthLeft", "[I", true)
  | 10 => ("StudentSwaps$Plan", "outLeft", "[[I", true)
  | 11 => ("StudentSwaps$Plan", "backLeft", "[[I", true)
  | 12 => ("StudentSwaps$Plan", "row", "[I", true)
  | 13 => ("StudentSwaps$Plan", "bestRow", "[I", true)
  | _ => ("StudentSwaps$Plan", "best", "I", false)
def mm_ty7 : Nat → FieldType := fun k => match k with
  | 0 => (.object "StudentSwaps$Bounds")
  | 1 => .int
  | 2 => (.array .int)
  | 3 => (.array .int)
  | 4 => (.array (.array .int))
  | 5 => (.array (.array .int))
  | 6 => (.array (.array .int))
  | 7 => (.array (.array .int))
  | 8 => (.array (.array .int))
  | 9 => (.array .int)
  | 10 => (.array (.array .int))
  | 11 => (.array (.array .int))
  | 12 => (.array .int)
  | 13 => (.array .int)
  | _ => .int
def mm_T8 : u_T := fun k => match k with
  | 0 => ("StudentSwaps$Bounds", "mostGoing", "[I", true)
  | 1 => ("StudentSwaps$Bounds", "mostBalance", "[I", true)
  | 2 => ("StudentSwaps$Bounds", "mostGuests", "[I", true)
  | 3 => ("StudentSwaps$Bounds", "goOut", "[I", true)
  | 4 => ("StudentSwaps$Bounds", "goBack", "[I", true)
  | 5 => ("StudentSwaps$Bounds", "balances", "[I", true)
  | _ => ("StudentSwaps$Bounds", "guests", "[I", true)
def mm_ty8 : Nat → FieldType := fun k => match k with
  | 0 => (.array .int)
  | 1 => (.array .int)
  | 2 => (.array .int)
  | 3 => (.array .int)
  | 4 => (.array .int)
  | 5 => (.array .int)
  | _ => (.array .int)
def mm_T9 : u_T := fun k => match k with
  | 0 => ("StudentSwaps$School", "land", "I", true)
  | 1 => ("StudentSwaps$School", "tongue", "I", true)
  | 2 => ("StudentSwaps$School", "from", "I", true)
  | 3 => ("StudentSwaps$School", "to", "I", true)
  | 4 => ("StudentSwaps$School", "fee", "I", true)
  | 5 => ("StudentSwaps$School", "beds", "I", false)
  | _ => ("StudentSwaps$School", "courses", "Ljava/util/List;", true)
def mm_ty9 : Nat → FieldType := fun k => match k with
  | 0 => .int
  | 1 => .int
  | 2 => .int
  | 3 => .int
  | 4 => .int
  | 5 => .int
  | _ => (.object "java/util/List")
def mm_T10 : u_T := fun k => match k with
  | 0 => ("StudentSwaps$Agreement", "first", "I", true)
  | 1 => ("StudentSwaps$Agreement", "second", "I", true)
  | 2 => ("StudentSwaps$Agreement", "number", "I", true)
  | 3 => ("StudentSwaps$Agreement", "balance", "I", true)
  | 4 => ("StudentSwaps$Agreement", "pence", "I", true)
  | 5 => ("StudentSwaps$Agreement", "firstYear", "I", true)
  | 6 => ("StudentSwaps$Agreement", "lastYear", "I", true)
  | 7 => ("StudentSwaps$Agreement", "expressions", "I", true)
  | 8 => ("StudentSwaps$Agreement", "codes", "[I", true)
  | _ => ("StudentSwaps$Agreement", "stack", "[I", true)
def mm_ty10 : Nat → FieldType := fun k => match k with
  | 0 => .int
  | 1 => .int
  | 2 => .int
  | 3 => .int
  | 4 => .int
  | 5 => .int
  | 6 => .int
  | 7 => .int
  | 8 => (.array .int)
  | _ => (.array .int)
def mm_T11 : u_T := fun k => match k with
  | 0 => ("StudentSwaps$Student", "home", "I", true)
  | 1 => ("StudentSwaps$Student", "subject", "I", true)
  | 2 => ("StudentSwaps$Student", "grade", "I", true)
  | 3 => ("StudentSwaps$Student", "credits", "I", true)
  | 4 => ("StudentSwaps$Student", "needs", "I", true)
  | 5 => ("StudentSwaps$Student", "tests", "[I", true)
  | 6 => ("StudentSwaps$Student", "wished", "[I", true)
  | 7 => ("StudentSwaps$Student", "wishes", "I", false)
  | 8 => ("StudentSwaps$Student", "state", "I", false)
  | 9 => ("StudentSwaps$Student", "served", "I", false)
  | _ => ("StudentSwaps$Student", "by", "I", false)
def mm_ty11 : Nat → FieldType := fun k => match k with
  | 0 => .int
  | 1 => .int
  | 2 => .int
  | 3 => .int
  | 4 => .int
  | 5 => (.array .int)
  | 6 => (.array .int)
  | 7 => .int
  | 8 => .int
  | 9 => .int
  | _ => .int
def mm_T12 : u_T := fun k => match k with
  | 0 => ("StudentSwaps$Course", "topics", "I", true)
  | 1 => ("StudentSwaps$Course", "credits", "I", true)
  | 2 => ("StudentSwaps$Course", "level", "I", true)
  | 3 => ("StudentSwaps$Course", "hours", "I", true)
  | _ => ("StudentSwaps$Course", "isCancelled", "Z", false)
def mm_ty12 : Nat → FieldType := fun k => match k with
  | 0 => .int
  | 1 => .int
  | 2 => .int
  | 3 => .int
  | _ => .boolean
def mm_T13 : u_T := fun k => match k with
  | 0 => ("StudentSwapsModel", "visaLeast", "[I", true)
  | 1 => ("StudentSwapsModel", "visaMost", "[I", true)
  | 2 => ("StudentSwapsModel", "hadOf", "[I", true)
  | 3 => ("StudentSwapsModel", "schools", "I", false)
  | 4 => ("StudentSwapsModel", "agreements", "I", false)
  | 5 => ("StudentSwapsModel", "students", "I", false)
  | 6 => ("StudentSwapsModel", "yearNow", "I", false)
  | 7 => ("StudentSwapsModel", "factMany", "I", false)
  | 8 => ("StudentSwapsModel", "lastTold", "I", false)
  | 9 => ("StudentSwapsModel", "landOf", "[I", true)
  | 10 => ("StudentSwapsModel", "tongueOf", "[I", true)
  | 11 => ("StudentSwapsModel", "bedsOf", "[I", true)
  | 12 => ("StudentSwapsModel", "scaleOf", "[I", true)
  | 13 => ("StudentSwapsModel", "termFrom", "[I", true)
  | 14 => ("StudentSwapsModel", "termTo", "[I", true)
  | 15 => ("StudentSwapsModel", "feeOf", "[I", true)
  | 16 => ("StudentSwapsModel", "courseMany", "[I", true)
  | 17 => ("StudentSwapsModel", "topicsOf", "[I", true)
  | 18 => ("StudentSwapsModel", "creditsOf", "[I", true)
  | 19 => ("StudentSwapsModel", "levelOf", "[I", true)
  | 20 => ("StudentSwapsModel", "hoursOf", "[I", true)
  | 21 => ("StudentSwapsModel", "isCancelled", "[Z", true)
  | 22 => ("StudentSwapsModel", "tape", "[B", true)
  | 23 => ("StudentSwapsModel", "taped", "I", false)
  | 24 => ("StudentSwapsModel", "at", "I", false)
  | 25 => ("StudentSwapsModel", "size", "I", false)
  | 26 => ("StudentSwapsModel", "fault", "I", false)
  | 27 => ("StudentSwapsModel", "firstOf", "[I", true)
  | 28 => ("StudentSwapsModel", "secondOf", "[I", true)
  | 29 => ("StudentSwapsModel", "mostOf", "[I", true)
  | 30 => ("StudentSwapsModel", "boundOf", "[I", true)
  | 31 => ("StudentSwapsModel", "penceOf", "[I", true)
  | 32 => ("StudentSwapsModel", "yearFrom", "[I", true)
  | 33 => ("StudentSwapsModel", "yearTo", "[I", true)
  | 34 => ("StudentSwapsModel", "expressions", "[I", true)
  | 35 => ("StudentSwapsModel", "codes", "[I", true)
  | 36 => ("StudentSwapsModel", "codeMany", "[I", true)
  | 37 => ("StudentSwapsModel", "said", "[I", true)
  | 38 => ("StudentSwapsModel", "waits", "[I", true)
  | 39 => ("StudentSwapsModel", "saidMany", "I", false)
  | 40 => ("StudentSwapsModel", "waitMany", "I", false)
  | 41 => ("StudentSwapsModel", "saidMost", "I", false)
  | 42 => ("StudentSwapsModel", "saidBound", "I", false)
  | 43 => ("StudentSwapsModel", "saidPence", "I", false)
  | 44 => ("StudentSwapsModel", "saidFrom", "I", false)
  | 45 => ("StudentSwapsModel", "saidTo", "I", false)
  | 46 => ("StudentSwapsModel", "saidExpressions", "I", false)
  | 47 => ("StudentSwapsModel", "number", "I", false)
  | 48 => ("StudentSwapsModel", "stack", "[Z", true)
  | 49 => ("StudentSwapsModel", "borders", "[I", true)
  | 50 => ("StudentSwapsModel", "borderMany", "[I", true)
  | 51 => ("StudentSwapsModel", "home", "[I", true)
  | 52 => ("StudentSwapsModel", "subjectOf", "[I", true)
  | 53 => ("StudentSwapsModel", "gradeOf", "[I", true)
  | 54 => ("StudentSwapsModel", "creditOf", "[I", true)
  | 55 => ("StudentSwapsModel", "needsOf", "[I", true)
  | 56 => ("StudentSwapsModel", "state", "[I", true)
  | 57 => ("StudentSwapsModel", "placedAt", "[I", true)
  | 58 => ("StudentSwapsModel", "by", "[I", true)
  | 59 => ("StudentSwapsModel", "wishMany", "[I", true)
  | 60 => ("StudentSwapsModel", "wishOf", "[I", true)
  | 61 => ("StudentSwapsModel", "test", "[I", true)
  | 62 => ("StudentSwapsModel", "who", "[I", true)
  | 63 => ("StudentSwapsModel", "oldState", "[I", true)
  | 64 => ("StudentSwapsModel", "oldAt", "[I", true)
  | 65 => ("StudentSwapsModel", "oldBy", "[I", true)
  | 66 => ("StudentSwapsModel", "choice", "[I", true)
  | 67 => ("StudentSwapsModel", "best", "[I", true)
  | 68 => ("StudentSwapsModel", "mayOf", "[I", true)
  | 69 => ("StudentSwapsModel", "served", "[I", true)
  | 70 => ("StudentSwapsModel", "bestServed", "[I", true)
  | 71 => ("StudentSwapsModel", "whoMany", "I", false)
  | 72 => ("StudentSwapsModel", "bestOthers", "I", false)
  | 73 => ("StudentSwapsModel", "setCredits", "I", false)
  | 74 => ("StudentSwapsModel", "setTopics", "I", false)
  | 75 => ("StudentSwapsModel", "studySet", "I", false)
  | 76 => ("StudentSwapsModel", "studyCredits", "I", false)
  | 77 => ("StudentSwapsModel", "studyTopics", "I", false)
  | 78 => ("StudentSwapsModel", "factOf", "[I", true)
  | 79 => ("StudentSwapsModel", "factWhat", "[I", true)
  | 80 => ("StudentSwapsModel", "factDay", "[I", true)
  | _ => ("StudentSwapsModel", "factTold", "[I", true)
def mm_ty13 : Nat → FieldType := fun k => match k with
  | 0 => (.array .int)
  | 1 => (.array .int)
  | 2 => (.array .int)
  | 3 => .int
  | 4 => .int
  | 5 => .int
  | 6 => .int
  | 7 => .int
  | 8 => .int
  | 9 => (.array .int)
  | 10 => (.array .int)
  | 11 => (.array .int)
  | 12 => (.array .int)
  | 13 => (.array .int)
  | 14 => (.array .int)
  | 15 => (.array .int)
  | 16 => (.array .int)
  | 17 => (.array .int)
  | 18 => (.array .int)
  | 19 => (.array .int)
  | 20 => (.array .int)
  | 21 => (.array .boolean)
  | 22 => (.array .byte)
  | 23 => .int
  | 24 => .int
  | 25 => .int
  | 26 => .int
  | 27 => (.array .int)
  | 28 => (.array .int)
  | 29 => (.array .int)
  | 30 => (.array .int)
  | 31 => (.array .int)
  | 32 => (.array .int)
  | 33 => (.array .int)
  | 34 => (.array .int)
  | 35 => (.array .int)
  | 36 => (.array .int)
  | 37 => (.array .int)
  | 38 => (.array .int)
  | 39 => .int
  | 40 => .int
  | 41 => .int
  | 42 => .int
  | 43 => .int
  | 44 => .int
  | 45 => .int
  | 46 => .int
  | 47 => .int
  | 48 => (.array .boolean)
  | 49 => (.array .int)
  | 50 => (.array .int)
  | 51 => (.array .int)
  | 52 => (.array .int)
  | 53 => (.array .int)
  | 54 => (.array .int)
  | 55 => (.array .int)
  | 56 => (.array .int)
  | 57 => (.array .int)
  | 58 => (.array .int)
  | 59 => (.array .int)
  | 60 => (.array .int)
  | 61 => (.array .int)
  | 62 => (.array .int)
  | 63 => (.array .int)
  | 64 => (.array .int)
  | 65 => (.array .int)
  | 66 => (.array .int)
  | 67 => (.array .int)
  | 68 => (.array .int)
  | 69 => (.array .int)
  | 70 => (.array .int)
  | 71 => .int
  | 72 => .int
  | 73 => .int
  | 74 => .int
  | 75 => .int
  | 76 => .int
  | 77 => .int
  | 78 => (.array .int)
  | 79 => (.array .int)
  | 80 => (.array .int)
  | _ => (.array .int)
def mm_cl : List vw_C := [(mm_cn 0, mm_T0, 13), (mm_cn 1, mm_T1, 1), (mm_cn 2, mm_T2, 2), (mm_cn 3, mm_T3, 12), (mm_cn 4, mm_T4, 1), (mm_cn 5, mm_T5, 6), (mm_cn 6, mm_T6, 3), (mm_cn 7, mm_T7, 15), (mm_cn 8, mm_T8, 7), (mm_cn 9, mm_T9, 7), (mm_cn 10, mm_T10, 10), (mm_cn 11, mm_T11, 11), (mm_cn 12, mm_T12, 5), (mm_cn 13, mm_T13, 82)]
def mm_tys : List (Nat → FieldType) := [mm_ty0, mm_ty1, mm_ty2, mm_ty3, mm_ty4, mm_ty5, mm_ty6, mm_ty7, mm_ty8, mm_ty9, mm_ty10, mm_ty11, mm_ty12, mm_ty13]
def mm_ty (c k : Nat) : FieldType := mm_tys.getD c (fun _ => .int) k
def mm_df (c : Nat) : List Value := match c with
  | 0 => [.int 0, .null, .null, .null, .null, .null, .null, .null, .null, .null, .null, .null, .null]
  | 1 => [.null]
  | 2 => [.null, .int 0]
  | 3 => [.null, .int 0, .int 0, .int 0, .null, .int 0, .int 0, .int 0, .int 0, .int 0, .int 0, .int 0]
  | 4 => [.null]
  | 5 => [.int 0, .int 0, .null, .null, .null, .null]
  | 6 => [.null, .int 0, .int 0]
  | 7 => [.null, .int 0, .null, .null, .null, .null, .null, .null, .null, .null, .null, .null, .null, .null, .int 0]
  | 8 => [.null, .null, .null, .null, .null, .null, .null]
  | 9 => [.int 0, .int 0, .int 0, .int 0, .int 0, .int 0, .null]
  | 10 => [.int 0, .int 0, .int 0, .int 0, .int 0, .int 0, .int 0, .int 0, .null, .null]
  | 11 => [.int 0, .int 0, .int 0, .int 0, .int 0, .null, .null, .int 0, .int 0, .int 0, .int 0]
  | 12 => [.int 0, .int 0, .int 0, .int 0, .int 0]
  | 13 => [.null, .null, .null, .int 0, .int 0, .int 0, .int 0, .int 0, .int 0, .null, .null, .null, .null, .null, .null, .null, .null, .null, .null, .null, .null, .null, .null, .int 0, .int 0, .int 0, .int 0, .null, .null, .null, .null, .null, .null, .null, .null, .null, .null, .null, .null, .int 0, .int 0, .int 0, .int 0, .int 0, .int 0, .int 0, .int 0, .int 0, .null, .null, .null, .null, .null, .null, .null, .null, .null, .null, .null, .null, .null, .null, .null, .null, .null, .null, .null, .null, .null, .null, .null, .int 0, .int 0, .int 0, .int 0, .int 0, .int 0, .int 0, .null, .null, .null, .null]
  | _ => []
/-- the methods: number of the owner, name, bytes, locals, what it returns, parameters, its place among the words -/
def mm_ms : List (Nat × MethodName × ByteArray × Nat × Option FieldType × Nat × Nat) := [
  (0, ⟨"StudentSwaps", "<init>", "()V"⟩, prog_1_method_1_code, 1, none, 0, 128),
  (14, ⟨"java/lang/Object", "<init>", "()V"⟩, object_method_1_code, 1, none, 0, 131),
  (1, ⟨"StudentSwaps$Scales", "<init>", "()V"⟩, prog_8_method_1_code, 2, none, 0, 136),
  (15, ⟨"java/util/Arrays", "fill", "([II)V"⟩, prog_28_method_103_code, 4, none, 2, 142),
  (2, ⟨"StudentSwaps$Tape", "<init>", "()V"⟩, prog_11_method_1_code, 1, none, 0, 152),
  (3, ⟨"StudentSwaps$TextReader", "<init>", "()V"⟩, prog_12_method_1_code, 1, none, 0, 167),
  (4, ⟨"StudentSwaps$Grid", "<init>", "()V"⟩, prog_6_method_1_code, 1, none, 0, 216),
  (5, ⟨"StudentSwaps$Facts", "<init>", "()V"⟩, prog_5_method_1_code, 1, none, 0, 227),
  (6, ⟨"java/util/ArrayList", "<init>", "()V"⟩, prog_27_method_2_code, 1, none, 0, 253),
  (16, ⟨"java/util/AbstractList", "<init>", "()V"⟩, prog_26_method_1_code, 1, none, 0, 256),
  (17, ⟨"java/util/AbstractCollection", "<init>", "()V"⟩, prog_25_method_1_code, 1, none, 0, 259),
  (7, ⟨"StudentSwaps$Plan", "<init>", "()V"⟩, prog_7_method_1_code, 1, none, 0, 279),
  (8, ⟨"StudentSwaps$Bounds", "<init>", "()V"⟩, prog_3_method_1_code, 1, none, 0, 285),
  (0, ⟨"StudentSwaps", "land", "(III)Z"⟩, prog_1_method_2_code, 4, (Option.some FieldType.boolean), 3, 403),
  (0, ⟨"StudentSwaps", "isIn", "(III)Z"⟩, prog_1_method_34_code, 3, (Option.some FieldType.boolean), 3, 406),
  (0, ⟨"StudentSwaps", "had", "(III)Z"⟩, prog_1_method_3_code, 4, (Option.some FieldType.boolean), 3, 410),
  (1, ⟨"StudentSwaps$Scales", "setHad", "(III)Z"⟩, prog_8_method_3_code, 4, (Option.some FieldType.boolean), 3, 414),
  (1, ⟨"StudentSwaps$Scales", "isMark", "(II)Z"⟩, prog_8_method_2_code, 3, (Option.some FieldType.boolean), 2, 418),
  (0, ⟨"StudentSwaps", "turn", "(IIII)I"⟩, prog_1_method_4_code, 5, (Option.some FieldType.int), 4, 423),
  (1, ⟨"StudentSwaps$Scales", "canTurn", "(II)Z"⟩, prog_8_method_4_code, 3, (Option.some FieldType.boolean), 2, 428),
  (1, ⟨"StudentSwaps$Scales", "below", "(II)I"⟩, prog_8_method_9_code, 5, (Option.some FieldType.int), 2, 432),
  (1, ⟨"StudentSwaps$Scales", "turned", "(III)I"⟩, prog_8_method_5_code, 8, (Option.some FieldType.int), 3, 436),
  (1, ⟨"StudentSwaps$Scales", "leastDoubt", "(III)I"⟩, prog_8_method_6_code, 5, (Option.some FieldType.int), 3, 440),
  (1, ⟨"StudentSwaps$Scales", "isShared", "(IIII)Z"⟩, prog_8_method_8_code, 7, (Option.some FieldType.boolean), 4, 444),
  (1, ⟨"StudentSwaps$Scales", "greatestDoubt", "(III)I"⟩, prog_8_method_7_code, 5, (Option.some FieldType.int), 3, 449),
  (0, ⟨"StudentSwaps", "school", "(IIIIIII)I"⟩, prog_1_method_5_code, 10, (Option.some FieldType.int), 7, 453),
  (0, ⟨"StudentSwaps", "isDay", "(I)Z"⟩, prog_1_method_35_code, 1, (Option.some FieldType.boolean), 1, 456),
  (6, ⟨"java/util/ArrayList", "size", "()I"⟩, prog_27_method_8_code, 1, (Option.some FieldType.int), 0, 467),
  (9, ⟨"StudentSwaps$School", "<init>", "(IIIIII)V"⟩, prog_9_method_1_code, 7, none, 6, 472),
  (6, ⟨"java/util/ArrayList", "add", "(Ljava/lang/Object;)Z"⟩, prog_27_method_25_code, 2, (Option.some FieldType.boolean), 1, 513),
  (6, ⟨"java/util/ArrayList", "add", "(Ljava/lang/Object;[Ljava/lang/Object;I)V"⟩, prog_27_method_24_code, 4, none, 3, 517),
  (6, ⟨"java/util/ArrayList", "grow", "()[Ljava/lang/Object;"⟩, prog_27_method_7_code, 1, (Option.some (FieldType.array (FieldType.object "java/lang/Object"))), 0, 521),
  (6, ⟨"java/util/ArrayList", "grow", "(I)[Ljava/lang/Object;"⟩, prog_27_method_6_code, 4, (Option.some (FieldType.array (FieldType.object "java/lang/Object"))), 1, 525),
  (18, ⟨"jdk/internal/util/ArraysSupport", "newLength", "(III)I"⟩, prog_34_method_27_code, 4, (Option.some FieldType.int), 3, 528),
  (19, ⟨"java/lang/Math", "max", "(II)I"⟩, prog_20_method_65_code, 2, (Option.some FieldType.int), 2, 531),
  (18, ⟨"jdk/internal/util/ArraysSupport", "hugeLength", "(II)I"⟩, prog_34_method_28_code, 3, (Option.some FieldType.int), 2, 535),
  (15, ⟨"java/util/Arrays", "copyOf", "([Ljava/lang/Object;I)[Ljava/lang/Object;"⟩, prog_28_method_119_code, 2, (Option.some (FieldType.array (FieldType.object "java/lang/Object"))), 2, 538),
  (15, ⟨"java/util/Arrays", "copyOf", "([Ljava/lang/Object;ILjava/lang/Class;)[Ljava/lang/Object;"⟩, prog_28_method_120_code, 4, (Option.some (FieldType.array (FieldType.object "java/lang/Object"))), 3, 559),
  (19, ⟨"java/lang/Math", "min", "(II)I"⟩, prog_20_method_69_code, 2, (Option.some FieldType.int), 2, 565),
  (0, ⟨"StudentSwaps", "beds", "(II)Z"⟩, prog_1_method_6_code, 4, (Option.some FieldType.boolean), 2, 574),
  (0, ⟨"StudentSwaps", "schoolAt", "(I)LStudentSwaps$School;"⟩, prog_1_method_36_code, 2, (Option.some (FieldType.object "StudentSwaps$School")), 1, 578),
  (6, ⟨"java/util/ArrayList", "get", "(I)Ljava/lang/Object;"⟩, prog_27_method_20_code, 2, (Option.some (FieldType.object "java/lang/Object")), 1, 587),
  (20, ⟨"java/util/Objects", "checkIndex", "(II)I"⟩, prog_31_method_17_code, 2, (Option.some FieldType.int), 2, 590),
  (21, ⟨"jdk/internal/util/Preconditions", "checkIndex", "(IILjava/util/function/BiFunction;)I"⟩, prog_35_method_11_code, 3, (Option.some FieldType.int), 3, 593),
  (6, ⟨"java/util/ArrayList", "elementData", "(I)Ljava/lang/Object;"⟩, prog_27_method_18_code, 2, (Option.some (FieldType.object "java/lang/Object")), 1, 597),
  (0, ⟨"StudentSwaps", "feed", "(IIIII)I"⟩, prog_1_method_7_code, 6, (Option.some FieldType.int), 5, 601),
  (2, ⟨"StudentSwaps$Tape", "hasRoom", "()Z"⟩, prog_11_method_2_code, 1, (Option.some FieldType.boolean), 0, 605),
  (2, ⟨"StudentSwaps$Tape", "append", "(I)V"⟩, prog_11_method_3_code, 3, none, 1, 609),
  (0, ⟨"StudentSwaps", "agreement", "(III)I"⟩, prog_1_method_8_code, 5, (Option.some FieldType.int), 3, 613),
  (3, ⟨"StudentSwaps$TextReader", "readText", "([II)I"⟩, prog_12_method_2_code, 4, (Option.some FieldType.int), 2, 617),
  (3, ⟨"StudentSwaps$TextReader", "readClause", "()V"⟩, prog_12_method_4_code, 2, none, 0, 622),
  (3, ⟨"StudentSwaps$TextReader", "peek", "()I"⟩, prog_12_method_11_code, 1, (Option.some FieldType.int), 0, 626),
  (3, ⟨"StudentSwaps$TextReader", "readBracket", "(I)V"⟩, prog_12_method_5_code, 2, none, 1, 630),
  (3, ⟨"StudentSwaps$TextReader", "fail", "(II)V"⟩, prog_12_method_14_code, 3, none, 2, 634),
  (3, ⟨"StudentSwaps$TextReader", "expect", "(C)V"⟩, prog_12_method_12_code, 2, none, 1, 638),
  (3, ⟨"StudentSwaps$TextReader", "readExpression", "(I)V"⟩, prog_12_method_6_code, 3, none, 1, 642),
  (3, ⟨"StudentSwaps$TextReader", "readTerm", "(I)V"⟩, prog_12_method_7_code, 3, none, 1, 646),
  (3, ⟨"StudentSwaps$TextReader", "readFactor", "(I)V"⟩, prog_12_method_8_code, 4, none, 1, 650),
  (3, ⟨"StudentSwaps$TextReader", "readComparison", "()V"⟩, prog_12_method_9_code, 4, none, 0, 654),
  (3, ⟨"StudentSwaps$TextReader", "expectOneOf", "(Ljava/lang/String;)I"⟩, prog_12_method_13_code, 4, (Option.some FieldType.int), 1, 659),
  (22, ⟨"java/lang/String", "indexOf", "(I)I"⟩, prog_21_method_79_code, 2, (Option.some FieldType.int), 1, 663),
  (22, ⟨"java/lang/String", "indexOf", "(II)I"⟩, prog_21_method_80_code, 3, (Option.some FieldType.int), 2, 667),
  (22, ⟨"java/lang/String", "isLatin1", "()Z"⟩, prog_21_method_154_code, 1, (Option.some FieldType.boolean), 0, 671),
  (22, ⟨"java/lang/String", "length", "()I"⟩, prog_21_method_54_code, 1, (Option.some FieldType.int), 0, 677),
  (22, ⟨"java/lang/String", "coder", "()B"⟩, prog_21_method_152_code, 1, (Option.some FieldType.byte), 0, 681),
  (23, ⟨"java/lang/StringLatin1", "indexOf", "([BIII)I"⟩, prog_22_method_22_code, 4, (Option.some FieldType.int), 4, 684),
  (23, ⟨"java/lang/StringLatin1", "canEncode", "(I)Z"⟩, prog_22_method_4_code, 1, (Option.some FieldType.boolean), 1, 687),
  (23, ⟨"java/lang/StringLatin1", "indexOfChar", "([BIII)I"⟩, prog_22_method_23_code, 6, (Option.some FieldType.int), 4, 692),
  (24, ⟨"java/lang/StringUTF16", "indexOf", "([BIII)I"⟩, prog_23_method_40_code, 4, (Option.some FieldType.int), 4, 695),
  (24, ⟨"java/lang/StringUTF16", "indexOfChar", "([BIII)I"⟩, prog_23_method_47_code, 4, (Option.some FieldType.int), 4, 701),
  (24, ⟨"java/lang/StringUTF16", "checkBoundsBeginEnd", "(II[B)V"⟩, prog_23_method_93_code, 3, none, 3, 704),
  (24, ⟨"java/lang/StringUTF16", "length", "([B)I"⟩, prog_23_method_6_code, 1, (Option.some FieldType.int), 1, 707),
  (22, ⟨"java/lang/String", "checkBoundsBeginEnd", "(III)V"⟩, prog_21_method_158_code, 3, none, 3, 710),
  (21, ⟨"jdk/internal/util/Preconditions", "checkFromToIndex", "(IIILjava/util/function/BiFunction;)I"⟩, prog_35_method_12_code, 4, (Option.some FieldType.int), 4, 715),
  (24, ⟨"java/lang/StringUTF16", "indexOfCharUnsafe", "([BIII)I"⟩, prog_23_method_48_code, 5, (Option.some FieldType.int), 4, 718),
  (24, ⟨"java/lang/StringUTF16", "getChar", "([BI)C"⟩, prog_23_method_5_code, 2, (Option.some FieldType.char), 2, 721),
  (24, ⟨"java/lang/StringUTF16", "indexOfSupplementary", "([BIII)I"⟩, prog_23_method_49_code, 7, (Option.some FieldType.int), 4, 730),
  (25, ⟨"java/lang/Character", "isValidCodePoint", "(I)Z"⟩, prog_16_method_11_code, 2, (Option.some FieldType.boolean), 1, 733),
  (25, ⟨"java/lang/Character", "highSurrogate", "(I)C"⟩, prog_16_method_28_code, 1, (Option.some FieldType.char), 1, 736),
  (25, ⟨"java/lang/Character", "lowSurrogate", "(I)C"⟩, prog_16_method_29_code, 1, (Option.some FieldType.char), 1, 740),
  (3, ⟨"StudentSwaps$TextReader", "readNumber", "(II)I"⟩, prog_12_method_10_code, 5, (Option.some FieldType.int), 2, 746),
  (3, ⟨"StudentSwaps$TextReader", "put", "(I)V"⟩, prog_12_method_15_code, 2, none, 1, 752),
  (10, ⟨"StudentSwaps$Agreement", "<init>", "(IILStudentSwaps$TextReader;)V"⟩, prog_2_method_1_code, 4, none, 3, 758),
  (3, ⟨"StudentSwaps$TextReader", "codes", "()[I"⟩, prog_12_method_3_code, 1, (Option.some (FieldType.array FieldType.int)), 0, 763),
  (15, ⟨"java/util/Arrays", "copyOf", "([II)[I"⟩, prog_28_method_123_code, 3, (Option.some (FieldType.array FieldType.int)), 2, 767),
  (0, ⟨"StudentSwaps", "meets", "(IIIII)I"⟩, prog_1_method_9_code, 7, (Option.some FieldType.int), 5, 816),
  (0, ⟨"StudentSwaps", "agreementAt", "(I)LStudentSwaps$Agreement;"⟩, prog_1_method_37_code, 2, (Option.some (FieldType.object "StudentSwaps$Agreement")), 1, 820),
  (10, ⟨"StudentSwaps$Agreement", "subjectsThatMeet", "(III)I"⟩, prog_2_method_5_code, 7, (Option.some FieldType.int), 3, 824),
  (10, ⟨"StudentSwaps$Agreement", "compared", "(IIII)I"⟩, prog_2_method_7_code, 6, (Option.some FieldType.int), 4, 827),
  (10, ⟨"StudentSwaps$Agreement", "holds", "(III)Z"⟩, prog_2_method_9_code, 3, (Option.some FieldType.boolean), 3, 830),
  (10, ⟨"StudentSwaps$Agreement", "comparedSubjects", "(II)I"⟩, prog_2_method_8_code, 5, (Option.some FieldType.int), 2, 833),
  (0, ⟨"StudentSwaps", "terms", "(III)I"⟩, prog_1_method_10_code, 6, (Option.some FieldType.int), 3, 837),
  (4, ⟨"StudentSwaps$Grid", "haveCommon", "(LStudentSwaps$Agreement;LStudentSwaps$Agreement;)Z"⟩, prog_6_method_2_code, 3, (Option.some FieldType.boolean), 2, 841),
  (4, ⟨"StudentSwaps$Grid", "finds", "(LStudentSwaps$Agreement;LStudentSwaps$Agreement;Z)Z"⟩, prog_6_method_4_code, 5, (Option.some FieldType.boolean), 3, 845),
  (4, ⟨"StudentSwaps$Grid", "markEdges", "([I)V"⟩, prog_6_method_6_code, 5, none, 1, 850),
  (4, ⟨"StudentSwaps$Grid", "markEdge", "(II)V"⟩, prog_6_method_7_code, 3, none, 2, 854),
  (4, ⟨"StudentSwaps$Grid", "findsAtGrade", "(LStudentSwaps$Agreement;LStudentSwaps$Agreement;ZI)Z"⟩, prog_6_method_5_code, 9, (Option.some FieldType.boolean), 4, 859),
  (4, ⟨"StudentSwaps$Grid", "isBeyond", "(LStudentSwaps$Agreement;LStudentSwaps$Agreement;)Z"⟩, prog_6_method_3_code, 3, (Option.some FieldType.boolean), 2, 864),
  (10, ⟨"StudentSwaps$Agreement", "isBeside", "(LStudentSwaps$Agreement;)Z"⟩, prog_2_method_4_code, 2, (Option.some FieldType.boolean), 1, 868),
  (10, ⟨"StudentSwaps$Agreement", "isBetween", "(II)Z"⟩, prog_2_method_3_code, 3, (Option.some FieldType.boolean), 2, 872),
  (0, ⟨"StudentSwaps", "student", "(IIIII)I"⟩, prog_1_method_11_code, 6, (Option.some FieldType.int), 5, 876),
  (11, ⟨"StudentSwaps$Student", "<init>", "(IIIII)V"⟩, prog_10_method_1_code, 6, none, 5, 881),
  (0, ⟨"StudentSwaps", "level", "(III)Z"⟩, prog_1_method_12_code, 5, (Option.some FieldType.boolean), 3, 930),
  (0, ⟨"StudentSwaps", "studentAt", "(I)LStudentSwaps$Student;"⟩, prog_1_method_38_code, 2, (Option.some (FieldType.object "StudentSwaps$Student")), 1, 934),
  (0, ⟨"StudentSwaps", "wish", "(II)Z"⟩, prog_1_method_13_code, 4, (Option.some FieldType.boolean), 2, 938),
  (11, ⟨"StudentSwaps$Student", "addWish", "(I)Z"⟩, prog_10_method_4_code, 3, (Option.some FieldType.boolean), 1, 942),
  (11, ⟨"StudentSwaps$Student", "wishAt", "(I)I"⟩, prog_10_method_3_code, 2, (Option.some FieldType.int), 1, 946),
  (0, ⟨"StudentSwaps", "may", "(II)I"⟩, prog_1_method_14_code, 4, (Option.some FieldType.int), 2, 950),
  (0, ⟨"StudentSwaps", "agreementTo", "(LStudentSwaps$Student;I)I"⟩, prog_1_method_39_code, 7, (Option.some FieldType.int), 2, 954),
  (11, ⟨"StudentSwaps$Student", "levelOf", "(I)I"⟩, prog_10_method_2_code, 2, (Option.some FieldType.int), 1, 958),
  (10, ⟨"StudentSwaps$Agreement", "isInForce", "(I)Z"⟩, prog_2_method_2_code, 2, (Option.some FieldType.boolean), 1, 964),
  (0, ⟨"StudentSwaps", "round", "()I"⟩, prog_1_method_15_code, 1, (Option.some FieldType.int), 0, 970),
  (0, ⟨"StudentSwaps", "preparePlan", "(IZ)V"⟩, prog_1_method_40_code, 6, none, 2, 974),
  (7, ⟨"StudentSwaps$Plan", "clear", "()V"⟩, prog_7_method_2_code, 1, none, 0, 978),
  (8, ⟨"StudentSwaps$Bounds", "clear", "()V"⟩, prog_3_method_2_code, 1, none, 0, 982),
  (0, ⟨"StudentSwaps", "setBounds", "()V"⟩, prog_1_method_41_code, 3, none, 0, 987),
  (8, ⟨"StudentSwaps$Bounds", "setBeds", "(II)V"⟩, prog_3_method_3_code, 3, none, 2, 991),
  (8, ⟨"StudentSwaps$Bounds", "setAgreement", "(III)V"⟩, prog_3_method_4_code, 4, none, 3, 995),
  (0, ⟨"StudentSwaps", "addToPlan", "(ILStudentSwaps$Student;Z)V"⟩, prog_1_method_42_code, 9, none, 3, 999),
  (11, ⟨"StudentSwaps$Student", "host", "()I"⟩, prog_10_method_5_code, 1, (Option.some FieldType.int), 0, 1003),
  (7, ⟨"StudentSwaps$Plan", "addStudent", "(I)V"⟩, prog_7_method_3_code, 2, none, 1, 1007),
  (0, ⟨"StudentSwaps", "wayOf", "(II)I"⟩, prog_1_method_43_code, 4, (Option.some FieldType.int), 2, 1012),
  (7, ⟨"StudentSwaps$Plan", "addOption", "(IIIII)V"⟩, prog_7_method_4_code, 6, none, 5, 1016),
  (7, ⟨"StudentSwaps$Plan", "putOption", "(IIIII)V"⟩, prog_7_method_6_code, 8, none, 5, 1022),
  (7, ⟨"StudentSwaps$Plan", "addNothing", "(I)V"⟩, prog_7_method_5_code, 2, none, 1, 1026),
  (8, ⟨"StudentSwaps$Bounds", "addGuests", "(IIII)V"⟩, prog_3_method_5_code, 5, none, 4, 1030),
  (8, ⟨"StudentSwaps$Bounds", "addToBalance", "(III)V"⟩, prog_3_method_6_code, 4, none, 3, 1034),
  (7, ⟨"StudentSwaps$Plan", "isFound", "()Z"⟩, prog_7_method_7_code, 1, (Option.some FieldType.boolean), 0, 1038),
  (7, ⟨"StudentSwaps$Plan", "measureLeft", "()V"⟩, prog_7_method_12_code, 5, none, 0, 1042),
  (7, ⟨"StudentSwaps$Plan", "addLeft", "(III)V"⟩, prog_7_method_13_code, 4, none, 3, 1050),
  (8, ⟨"StudentSwaps$Bounds", "areNumbersKept", "()Z"⟩, prog_3_method_8_code, 2, (Option.some FieldType.boolean), 0, 1054),
  (7, ⟨"StudentSwaps$Plan", "search", "(II)V"⟩, prog_7_method_14_code, 7, none, 2, 1058),
  (8, ⟨"StudentSwaps$Bounds", "canBalance", "([I[I)Z"⟩, prog_3_method_9_code, 4, (Option.some FieldType.boolean), 2, 1062),
  (8, ⟨"StudentSwaps$Bounds", "hasRoom", "(III)Z"⟩, prog_3_method_7_code, 5, (Option.some FieldType.boolean), 3, 1066),
  (0, ⟨"StudentSwaps", "carryOutPlan", "()I"⟩, prog_1_method_44_code, 6, (Option.some FieldType.int), 0, 1071),
  (7, ⟨"StudentSwaps$Plan", "studentOf", "(I)I"⟩, prog_7_method_8_code, 2, (Option.some FieldType.int), 1, 1075),
  (7, ⟨"StudentSwaps$Plan", "wishOf", "(I)I"⟩, prog_7_method_9_code, 2, (Option.some FieldType.int), 1, 1079),
  (7, ⟨"StudentSwaps$Plan", "isChoice", "(I)Z"⟩, prog_7_method_11_code, 2, (Option.some FieldType.boolean), 1, 1083),
  (7, ⟨"StudentSwaps$Plan", "agreementOf", "(I)I"⟩, prog_7_method_10_code, 2, (Option.some FieldType.int), 1, 1087),
  (11, ⟨"StudentSwaps$Student", "settle", "(II)V"⟩, prog_10_method_6_code, 3, none, 2, 1091),
  (5, ⟨"StudentSwaps$Facts", "forget", "(I)V"⟩, prog_5_method_4_code, 3, none, 1, 1095),
  (0, ⟨"StudentSwaps", "out", "(I)Z"⟩, prog_1_method_16_code, 3, (Option.some FieldType.boolean), 1, 1099),
  (0, ⟨"StudentSwaps", "mend", "()I"⟩, prog_1_method_17_code, 1, (Option.some FieldType.int), 0, 1103),
  (0, ⟨"StudentSwaps", "kept", "()I"⟩, prog_1_method_18_code, 1, (Option.some FieldType.int), 0, 1107),
  (0, ⟨"StudentSwaps", "balance", "(I)I"⟩, prog_1_method_19_code, 2, (Option.some FieldType.int), 1, 1111),
  (0, ⟨"StudentSwaps", "balanceOf", "(I)I"⟩, prog_1_method_45_code, 5, (Option.some FieldType.int), 1, 1115),
  (0, ⟨"StudentSwaps", "course", "(IIIII)I"⟩, prog_1_method_20_code, 7, (Option.some FieldType.int), 5, 1119),
  (12, ⟨"StudentSwaps$Course", "<init>", "(IIII)V"⟩, prog_4_method_1_code, 5, none, 4, 1125),
  (0, ⟨"StudentSwaps", "cancel", "(IIZ)Z"⟩, prog_1_method_21_code, 6, (Option.some FieldType.boolean), 3, 1152),
  (0, ⟨"StudentSwaps", "study", "(III)I"⟩, prog_1_method_22_code, 7, (Option.some FieldType.int), 3, 1156),
  (9, ⟨"StudentSwaps$School", "bestSet", "(II)I"⟩, prog_9_method_4_code, 6, (Option.some FieldType.int), 2, 1160),
  (9, ⟨"StudentSwaps$School", "canBeStudied", "(II)Z"⟩, prog_9_method_8_code, 6, (Option.some FieldType.boolean), 2, 1167),
  (9, ⟨"StudentSwaps$School", "hasCourse", "(II)Z"⟩, prog_9_method_7_code, 2, (Option.some FieldType.boolean), 2, 1170),
  (9, ⟨"StudentSwaps$School", "creditsOf", "(I)I"⟩, prog_9_method_5_code, 4, (Option.some FieldType.int), 1, 1177),
  (9, ⟨"StudentSwaps$School", "isBetter", "(III)Z"⟩, prog_9_method_9_code, 5, (Option.some FieldType.boolean), 3, 1181),
  (9, ⟨"StudentSwaps$School", "topicsOf", "(I)I"⟩, prog_9_method_6_code, 4, (Option.some FieldType.int), 1, 1185),
  (26, ⟨"java/lang/Integer", "bitCount", "(I)I"⟩, prog_18_method_49_code, 1, (Option.some FieldType.int), 1, 1188),
  (0, ⟨"StudentSwaps", "fact", "(IIII)Z"⟩, prog_1_method_23_code, 6, (Option.some FieldType.boolean), 4, 1197),
  (5, ⟨"StudentSwaps$Facts", "tell", "(IIII)Z"⟩, prog_5_method_2_code, 5, (Option.some FieldType.boolean), 4, 1201),
  (0, ⟨"StudentSwaps", "known", "(III)I"⟩, prog_1_method_24_code, 4, (Option.some FieldType.int), 3, 1205),
  (5, ⟨"StudentSwaps$Facts", "dayOf", "(III)I"⟩, prog_5_method_3_code, 5, (Option.some FieldType.int), 3, 1209),
  (0, ⟨"StudentSwaps", "visa", "(II)I"⟩, prog_1_method_25_code, 6, (Option.some FieldType.int), 2, 1214),
  (0, ⟨"StudentSwaps", "visaInTime", "(LStudentSwaps$School;II)I"⟩, prog_1_method_50_code, 4, (Option.some FieldType.int), 3, 1218),
  (0, ⟨"StudentSwaps", "there", "(III)I"⟩, prog_1_method_26_code, 5, (Option.some FieldType.int), 3, 1222),
  (0, ⟨"StudentSwaps", "countGuests", "(ILStudentSwaps$School;I)V"⟩, prog_1_method_54_code, 7, none, 3, 1226),
  (0, ⟨"StudentSwaps", "dayBehindLastThere", "(ILStudentSwaps$School;I)I"⟩, prog_1_method_52_code, 5, (Option.some FieldType.int), 3, 1230),
  (0, ⟨"StudentSwaps", "firstDayThere", "(ILStudentSwaps$School;I)I"⟩, prog_1_method_51_code, 5, (Option.some FieldType.int), 3, 1235),
  (0, ⟨"StudentSwaps", "counts", "(III)I"⟩, prog_1_method_27_code, 9, (Option.some FieldType.int), 3, 1240),
  (0, ⟨"StudentSwaps", "daysThere", "(ILStudentSwaps$School;I)I"⟩, prog_1_method_53_code, 4, (Option.some FieldType.int), 3, 1244),
  (9, ⟨"StudentSwaps$School", "termDays", "()I"⟩, prog_9_method_2_code, 1, (Option.some FieldType.int), 0, 1248),
  (9, ⟨"StudentSwaps$School", "partOf", "(II)I"⟩, prog_9_method_3_code, 4, (Option.some FieldType.int), 2, 1252),
  (0, ⟨"StudentSwaps", "crowded", "(II)I"⟩, prog_1_method_28_code, 5, (Option.some FieldType.int), 2, 1257),
  (0, ⟨"StudentSwaps", "year", "()I"⟩, prog_1_method_29_code, 2, (Option.some FieldType.int), 0, 1261),
  (11, ⟨"StudentSwaps$Student", "endYear", "()V"⟩, prog_10_method_7_code, 1, none, 0, 1265),
  (5, ⟨"StudentSwaps$Facts", "clear", "()V"⟩, prog_5_method_5_code, 1, none, 0, 1269),
  (0, ⟨"StudentSwaps", "owed", "(I)J"⟩, prog_1_method_30_code, 8, (Option.some FieldType.long), 1, 1273),
  (0, ⟨"StudentSwaps", "look", "(II)I"⟩, prog_1_method_31_code, 4, (Option.some FieldType.int), 2, 1277),
  (11, ⟨"StudentSwaps$Student", "placeShown", "(I)I"⟩, prog_10_method_8_code, 2, (Option.some FieldType.int), 1, 1281),
  (11, ⟨"StudentSwaps$Student", "selfShown", "(I)I"⟩, prog_10_method_9_code, 2, (Option.some FieldType.int), 1, 1286),
  (0, ⟨"StudentSwaps", "about", "(II)I"⟩, prog_1_method_32_code, 4, (Option.some FieldType.int), 2, 1290),
  (0, ⟨"StudentSwaps", "placedBy", "(I)I"⟩, prog_1_method_46_code, 5, (Option.some FieldType.int), 1, 1294),
  (10, ⟨"StudentSwaps$Agreement", "shown", "(I)I"⟩, prog_2_method_6_code, 2, (Option.some FieldType.int), 1, 1298),
  (0, ⟨"StudentSwaps", "count", "(I)I"⟩, prog_1_method_33_code, 2, (Option.some FieldType.int), 1, 1302),
  (0, ⟨"StudentSwaps", "inState", "(I)I"⟩, prog_1_method_48_code, 4, (Option.some FieldType.int), 1, 1306),
  (0, ⟨"StudentSwaps", "shownOfSchool", "(II)I"⟩, prog_1_method_49_code, 4, (Option.some FieldType.int), 2, 1310),
  (0, ⟨"StudentSwaps", "placedAt", "(I)I"⟩, prog_1_method_47_code, 4, (Option.some FieldType.int), 1, 1314),
  (13, ⟨"StudentSwapsModel", "<init>", "()V"⟩, prog_14_method_1_code, 2, none, 0, 1319),
  (13, ⟨"StudentSwapsModel", "land", "(III)Z"⟩, prog_14_method_3_code, 4, (Option.some FieldType.boolean), 3, 1572),
  (13, ⟨"StudentSwapsModel", "in", "(III)Z"⟩, prog_14_method_2_code, 3, (Option.some FieldType.boolean), 3, 1575),
  (13, ⟨"StudentSwapsModel", "had", "(III)Z"⟩, prog_14_method_4_code, 4, (Option.some FieldType.boolean), 3, 1579),
  (13, ⟨"StudentSwapsModel", "turn", "(IIII)I"⟩, prog_14_method_9_code, 8, (Option.some FieldType.int), 4, 1583),
  (13, ⟨"StudentSwapsModel", "allOf", "(I)I"⟩, prog_14_method_6_code, 2, (Option.some FieldType.int), 1, 1587),
  (13, ⟨"StudentSwapsModel", "below", "(II)I"⟩, prog_14_method_5_code, 5, (Option.some FieldType.int), 2, 1591),
  (13, ⟨"StudentSwapsModel", "turned", "(III)I"⟩, prog_14_method_7_code, 8, (Option.some FieldType.int), 3, 1595),
  (13, ⟨"StudentSwapsModel", "overlaps", "(IIII)Z"⟩, prog_14_method_8_code, 9, (Option.some FieldType.boolean), 4, 1599),
  (13, ⟨"StudentSwapsModel", "school", "(IIIIIII)I"⟩, prog_14_method_11_code, 8, (Option.some FieldType.int), 7, 1603),
  (13, ⟨"StudentSwapsModel", "beds", "(II)Z"⟩, prog_14_method_12_code, 3, (Option.some FieldType.boolean), 2, 1608),
  (13, ⟨"StudentSwapsModel", "isSchool", "(I)Z"⟩, prog_14_method_10_code, 2, (Option.some FieldType.boolean), 1, 1612),
  (13, ⟨"StudentSwapsModel", "feed", "(IIIII)I"⟩, prog_14_method_14_code, 6, (Option.some FieldType.int), 5, 1616),
  (13, ⟨"StudentSwapsModel", "types", "(I)V"⟩, prog_14_method_13_code, 3, none, 1, 1620),
  (13, ⟨"StudentSwapsModel", "agreement", "(III)I"⟩, prog_14_method_26_code, 6, (Option.some FieldType.int), 3, 1624),
  (13, ⟨"StudentSwapsModel", "readsClause", "()Z"⟩, prog_14_method_25_code, 3, (Option.some FieldType.boolean), 0, 1628),
  (13, ⟨"StudentSwapsModel", "sign", "()I"⟩, prog_14_method_15_code, 1, (Option.some FieldType.int), 0, 1632),
  (13, ⟨"StudentSwapsModel", "readsExpression", "()Z"⟩, prog_14_method_24_code, 5, (Option.some FieldType.boolean), 0, 1636),
  (13, ⟨"StudentSwapsModel", "wrong", "(II)Z"⟩, prog_14_method_17_code, 3, (Option.some FieldType.boolean), 2, 1640),
  (13, ⟨"StudentSwapsModel", "holds", "(I)V"⟩, prog_14_method_20_code, 2, none, 1, 1645),
  (13, ⟨"StudentSwapsModel", "letterOf", "(I)I"⟩, prog_14_method_23_code, 1, (Option.some FieldType.int), 1, 1649),
  (13, ⟨"StudentSwapsModel", "readsNumber", "(II)Z"⟩, prog_14_method_18_code, 4, (Option.some FieldType.boolean), 2, 1653),
  (13, ⟨"StudentSwapsModel", "isDigit", "()Z"⟩, prog_14_method_16_code, 1, (Option.some FieldType.boolean), 0, 1657),
  (13, ⟨"StudentSwapsModel", "says", "(I)V"⟩, prog_14_method_19_code, 2, none, 1, 1662),
  (13, ⟨"StudentSwapsModel", "closes", "(I)V"⟩, prog_14_method_21_code, 2, none, 1, 1666),
  (13, ⟨"StudentSwapsModel", "binds", "(I)I"⟩, prog_14_method_22_code, 1, (Option.some FieldType.int), 1, 1669),
  (13, ⟨"StudentSwapsModel", "meets", "(IIIII)I"⟩, prog_14_method_29_code, 6, (Option.some FieldType.int), 5, 1675),
  (13, ⟨"StudentSwapsModel", "isAgreement", "(I)Z"⟩, prog_14_method_27_code, 2, (Option.some FieldType.boolean), 1, 1679),
  (13, ⟨"StudentSwapsModel", "isMet", "(IIIII)Z"⟩, prog_14_method_28_code, 13, (Option.some FieldType.boolean), 5, 1683),
  (13, ⟨"StudentSwapsModel", "terms", "(III)I"⟩, prog_14_method_35_code, 4, (Option.some FieldType.int), 3, 1687),
  (13, ⟨"StudentSwapsModel", "isSome", "(IIZ)Z"⟩, prog_14_method_33_code, 12, (Option.some FieldType.boolean), 3, 1691),
  (13, ⟨"StudentSwapsModel", "marks", "(II)V"⟩, prog_14_method_31_code, 4, none, 2, 1695),
  (13, ⟨"StudentSwapsModel", "mostOfLetter", "(I)I"⟩, prog_14_method_30_code, 1, (Option.some FieldType.int), 1, 1698),
  (13, ⟨"StudentSwapsModel", "bordersOf", "(I)V"⟩, prog_14_method_32_code, 4, none, 1, 1702),
  (13, ⟨"StudentSwapsModel", "areOfOne", "(II)Z"⟩, prog_14_method_34_code, 4, (Option.some FieldType.boolean), 2, 1706),
  (13, ⟨"StudentSwapsModel", "student", "(IIIII)I"⟩, prog_14_method_37_code, 7, (Option.some FieldType.int), 5, 1710),
  (13, ⟨"StudentSwapsModel", "level", "(III)Z"⟩, prog_14_method_38_code, 4, (Option.some FieldType.boolean), 3, 1714),
  (13, ⟨"StudentSwapsModel", "isStudent", "(I)Z"⟩, prog_14_method_36_code, 2, (Option.some FieldType.boolean), 1, 1718),
  (13, ⟨"StudentSwapsModel", "wish", "(II)Z"⟩, prog_14_method_41_code, 3, (Option.some FieldType.boolean), 2, 1722),
  (13, ⟨"StudentSwapsModel", "wishAt", "(II)I"⟩, prog_14_method_40_code, 4, (Option.some FieldType.int), 2, 1726),
  (13, ⟨"StudentSwapsModel", "may", "(II)I"⟩, prog_14_method_44_code, 3, (Option.some FieldType.int), 2, 1730),
  (13, ⟨"StudentSwapsModel", "mayBy", "(II)I"⟩, prog_14_method_43_code, 5, (Option.some FieldType.int), 2, 1734),
  (13, ⟨"StudentSwapsModel", "isInForce", "(I)Z"⟩, prog_14_method_42_code, 2, (Option.some FieldType.boolean), 1, 1738),
  (13, ⟨"StudentSwapsModel", "levelIn", "(II)I"⟩, prog_14_method_39_code, 4, (Option.some FieldType.int), 2, 1742),
  (13, ⟨"StudentSwapsModel", "kept", "()I"⟩, prog_14_method_49_code, 1, (Option.some FieldType.int), 0, 1746),
  (13, ⟨"StudentSwapsModel", "areKept", "()Z"⟩, prog_14_method_48_code, 3, (Option.some FieldType.boolean), 0, 1750),
  (13, ⟨"StudentSwapsModel", "balanceOf", "(I)I"⟩, prog_14_method_45_code, 4, (Option.some FieldType.int), 1, 1754),
  (13, ⟨"StudentSwapsModel", "goingFrom", "(II)I"⟩, prog_14_method_46_code, 5, (Option.some FieldType.int), 2, 1758),
  (13, ⟨"StudentSwapsModel", "placedIn", "(I)I"⟩, prog_14_method_47_code, 4, (Option.some FieldType.int), 1, 1762),
  (13, ⟨"StudentSwapsModel", "balance", "(I)I"⟩, prog_14_method_50_code, 2, (Option.some FieldType.int), 1, 1766),
  (13, ⟨"StudentSwapsModel", "round", "()I"⟩, prog_14_method_60_code, 3, (Option.some FieldType.int), 0, 1770),
  (13, ⟨"StudentSwapsModel", "plans", "(Z)Z"⟩, prog_14_method_58_code, 8, (Option.some FieldType.boolean), 1, 1774),
  (13, ⟨"StudentSwapsModel", "begins", "(Z)V"⟩, prog_14_method_51_code, 4, none, 1, 1778),
  (13, ⟨"StudentSwapsModel", "isPlan", "(I)Z"⟩, prog_14_method_54_code, 4, (Option.some FieldType.boolean), 1, 1782),
  (13, ⟨"StudentSwapsModel", "others", "()I"⟩, prog_14_method_55_code, 4, (Option.some FieldType.int), 0, 1786),
  (13, ⟨"StudentSwapsModel", "serves", "()V"⟩, prog_14_method_56_code, 2, none, 0, 1790),
  (13, ⟨"StudentSwapsModel", "isFairer", "()Z"⟩, prog_14_method_57_code, 2, (Option.some FieldType.boolean), 0, 1794),
  (13, ⟨"StudentSwapsModel", "goes", "(II)V"⟩, prog_14_method_52_code, 4, none, 2, 1798),
  (13, ⟨"StudentSwapsModel", "goesBack", "(I)V"⟩, prog_14_method_53_code, 2, none, 1, 1802),
  (13, ⟨"StudentSwapsModel", "does", "()V"⟩, prog_14_method_59_code, 2, none, 0, 1806),
  (13, ⟨"StudentSwapsModel", "forgets", "(I)V"⟩, prog_14_method_70_code, 3, none, 1, 1810),
  (13, ⟨"StudentSwapsModel", "mend", "()I"⟩, prog_14_method_61_code, 1, (Option.some FieldType.int), 0, 1814),
  (13, ⟨"StudentSwapsModel", "out", "(I)Z"⟩, prog_14_method_62_code, 2, (Option.some FieldType.boolean), 1, 1818),
  (13, ⟨"StudentSwapsModel", "course", "(IIIII)I"⟩, prog_14_method_63_code, 7, (Option.some FieldType.int), 5, 1822),
  (13, ⟨"StudentSwapsModel", "cancel", "(IIZ)Z"⟩, prog_14_method_65_code, 4, (Option.some FieldType.boolean), 3, 1827),
  (13, ⟨"StudentSwapsModel", "isCourse", "(II)Z"⟩, prog_14_method_64_code, 3, (Option.some FieldType.boolean), 2, 1831),
  (13, ⟨"StudentSwapsModel", "study", "(III)I"⟩, prog_14_method_69_code, 4, (Option.some FieldType.int), 3, 1835),
  (13, ⟨"StudentSwapsModel", "studies", "(II)V"⟩, prog_14_method_68_code, 5, none, 2, 1839),
  (13, ⟨"StudentSwapsModel", "canTake", "(III)Z"⟩, prog_14_method_66_code, 7, (Option.some FieldType.boolean), 3, 1843),
  (13, ⟨"StudentSwapsModel", "bits", "(I)I"⟩, prog_14_method_67_code, 3, (Option.some FieldType.int), 1, 1846),
  (13, ⟨"StudentSwapsModel", "fact", "(IIII)Z"⟩, prog_14_method_72_code, 5, (Option.some FieldType.boolean), 4, 1850),
  (13, ⟨"StudentSwapsModel", "isDay", "(I)Z"⟩, prog_14_method_71_code, 1, (Option.some FieldType.boolean), 1, 1853),
  (13, ⟨"StudentSwapsModel", "known", "(III)I"⟩, prog_14_method_74_code, 4, (Option.some FieldType.int), 3, 1857),
  (13, ⟨"StudentSwapsModel", "knownOf", "(III)I"⟩, prog_14_method_73_code, 6, (Option.some FieldType.int), 3, 1861),
  (13, ⟨"StudentSwapsModel", "visa", "(II)I"⟩, prog_14_method_75_code, 6, (Option.some FieldType.int), 2, 1865),
  (13, ⟨"StudentSwapsModel", "there", "(III)I"⟩, prog_14_method_78_code, 4, (Option.some FieldType.int), 3, 1869),
  (13, ⟨"StudentSwapsModel", "thereOn", "(III)I"⟩, prog_14_method_77_code, 6, (Option.some FieldType.int), 3, 1873),
  (13, ⟨"StudentSwapsModel", "isThere", "(III)Z"⟩, prog_14_method_76_code, 7, (Option.some FieldType.boolean), 3, 1877),
  (13, ⟨"StudentSwapsModel", "counts", "(III)I"⟩, prog_14_method_79_code, 8, (Option.some FieldType.int), 3, 1881),
  (13, ⟨"StudentSwapsModel", "crowded", "(II)I"⟩, prog_14_method_80_code, 4, (Option.some FieldType.int), 2, 1885),
  (13, ⟨"StudentSwapsModel", "year", "()I"⟩, prog_14_method_81_code, 2, (Option.some FieldType.int), 0, 1889),
  (13, ⟨"StudentSwapsModel", "owed", "(I)J"⟩, prog_14_method_82_code, 7, (Option.some FieldType.long), 1, 1893),
  (13, ⟨"StudentSwapsModel", "look", "(II)I"⟩, prog_14_method_83_code, 4, (Option.some FieldType.int), 2, 1897),
  (13, ⟨"StudentSwapsModel", "lookFar", "(II)I"⟩, prog_14_method_84_code, 3, (Option.some FieldType.int), 2, 1901),
  (13, ⟨"StudentSwapsModel", "about", "(II)I"⟩, prog_14_method_86_code, 3, (Option.some FieldType.int), 2, 1905),
  (13, ⟨"StudentSwapsModel", "placedBy", "(I)I"⟩, prog_14_method_85_code, 4, (Option.some FieldType.int), 1, 1909),
  (13, ⟨"StudentSwapsModel", "count", "(I)I"⟩, prog_14_method_88_code, 2, (Option.some FieldType.int), 1, 1913),
  (13, ⟨"StudentSwapsModel", "with", "(I)I"⟩, prog_14_method_87_code, 4, (Option.some FieldType.int), 1, 1917)]
def mm_ft : List (Nat × Nat × Nat × Nat × Nat) := [(1, 13, 1, 0, 143), (2, 9, 2, 0, 154), (0, 145, 2, 0, 155), (2, 13, 2, 1, 156), (0, 143, 2, 1, 157), (3, 9, 3, 0, 169), (3, 24, 3, 1, 170), (3, 28, 3, 2, 171), (3, 31, 3, 3, 172), (3, 15, 3, 4, 173), (3, 34, 3, 5, 174), (10, 18, 3, 6, 175), (3, 37, 3, 6, 176), (10, 24, 3, 7, 177), (3, 40, 3, 7, 178), (10, 28, 3, 8, 179), (3, 43, 3, 8, 180), (10, 32, 3, 9, 181), (3, 46, 3, 9, 182), (10, 36, 3, 10, 183), (3, 49, 3, 10, 184), (10, 40, 3, 11, 185), (3, 52, 3, 11, 186), (4, 13, 4, 0, 219), (5, 9, 5, 0, 229), (0, 330, 5, 0, 230), (5, 15, 5, 1, 231), (5, 18, 5, 2, 232), (5, 22, 5, 3, 233), (5, 25, 5, 4, 234), (5, 28, 5, 5, 235), (6, 9, 6, 0, 263), (6, 48, 6, 1, 264), (16, 7, 6, 2, 265), (8, 9, 8, 0, 287), (8, 15, 8, 1, 288), (8, 18, 8, 2, 289), (8, 21, 8, 3, 290), (8, 24, 8, 4, 291), (8, 27, 8, 5, 292), (8, 30, 8, 6, 293), (7, 14, 7, 0, 311), (0, 352, 7, 0, 312), (7, 20, 7, 1, 313), (0, 347, 7, 1, 314), (7, 24, 7, 2, 315), (7, 28, 7, 3, 316), (7, 33, 7, 4, 317), (7, 36, 7, 5, 318), (7, 39, 7, 6, 319), (7, 42, 7, 7, 320), (7, 45, 7, 8, 321), (7, 48, 7, 9, 322), (7, 51, 7, 10, 323), (7, 54, 7, 11, 324), (7, 57, 7, 12, 325), (7, 60, 7, 13, 326), (7, 64, 7, 14, 327), (0, 7, 0, 0, 360), (0, 13, 0, 1, 361), (0, 17, 0, 2, 362), (0, 20, 0, 3, 363), (0, 26, 0, 4, 364), (0, 33, 0, 5, 365), (0, 40, 0, 6, 366), (0, 47, 0, 7, 367), (0, 54, 0, 8, 368), (0, 61, 0, 9, 369), (0, 65, 0, 10, 370), (0, 68, 0, 11, 371), (0, 74, 0, 12, 372), (9, 16, 9, 0, 476), (0, 267, 9, 0, 477), (9, 20, 9, 1, 478), (0, 238, 9, 1, 479), (9, 26, 9, 2, 480), (0, 407, 9, 2, 481), (9, 29, 9, 3, 482), (0, 415, 9, 3, 483), (9, 32, 9, 4, 484), (0, 282, 9, 4, 485), (9, 23, 9, 5, 486), (0, 132, 9, 5, 487), (9, 10, 9, 6, 488), (0, 221, 9, 6, 489), (10, 9, 10, 0, 775), (0, 303, 10, 0, 776), (10, 15, 10, 1, 777), (0, 300, 10, 1, 778), (10, 23, 10, 2, 779), (0, 374, 10, 2, 780), (10, 27, 10, 3, 781), (0, 377, 10, 3, 782), (10, 31, 10, 4, 783), (0, 297, 10, 4, 784), (10, 35, 10, 5, 785), (10, 39, 10, 6, 786), (10, 43, 10, 7, 787), (10, 48, 10, 8, 788), (4, 26, 10, 8, 789), (10, 51, 10, 9, 790), (11, 31, 11, 0, 884), (0, 264, 11, 0, 885), (11, 34, 11, 1, 886), (0, 340, 11, 1, 887), (11, 37, 11, 2, 888), (0, 334, 11, 2, 889), (11, 40, 11, 3, 890), (0, 337, 11, 3, 891), (11, 43, 11, 4, 892), (0, 235, 11, 4, 893), (11, 9, 11, 5, 894), (0, 184, 11, 5, 895), (11, 15, 11, 6, 896), (11, 18, 11, 7, 897), (0, 386, 11, 7, 898), (11, 22, 11, 8, 899), (0, 204, 11, 8, 900), (11, 25, 11, 9, 901), (11, 28, 11, 10, 902), (0, 356, 11, 10, 903), (12, 13, 12, 0, 1127), (9, 70, 12, 0, 1128), (12, 17, 12, 1, 1129), (9, 67, 12, 1, 1130), (12, 20, 12, 2, 1131), (9, 77, 12, 2, 1132), (12, 23, 12, 3, 1133), (9, 80, 12, 3, 1134), (12, 7, 12, 4, 1135), (9, 73, 12, 4, 1136), (0, 231, 12, 4, 1137), (13, 7, 13, 0, 1321), (13, 13, 13, 1, 1322), (13, 16, 13, 2, 1323), (13, 200, 13, 3, 1324), (13, 290, 13, 4, 1325), (13, 320, 13, 5, 1326), (13, 329, 13, 6, 1327), (13, 419, 13, 7, 1328), (13, 425, 13, 8, 1329), (13, 19, 13, 9, 1330), (13, 22, 13, 10, 1331), (13, 25, 13, 11, 1332), (13, 28, 13, 12, 1333), (13, 31, 13, 13, 1334), (13, 34, 13, 14, 1335), (13, 37, 13, 15, 1336), (13, 40, 13, 16, 1337), (13, 43, 13, 17, 1338), (13, 46, 13, 18, 1339), (13, 49, 13, 19, 1340), (13, 52, 13, 20, 1341), (13, 55, 13, 21, 1342), (13, 59, 13, 22, 1343), (13, 209, 13, 23, 1344), (13, 216, 13, 24, 1345), (13, 219, 13, 25, 1346), (13, 226, 13, 26, 1347), (13, 63, 13, 27, 1348), (13, 66, 13, 28, 1349), (13, 69, 13, 29, 1350), (13, 72, 13, 30, 1351), (13, 75, 13, 31, 1352), (13, 78, 13, 32, 1353), (13, 81, 13, 33, 1354), (13, 84, 13, 34, 1355), (13, 87, 13, 35, 1356), (13, 90, 13, 36, 1357), (13, 93, 13, 37, 1358), (13, 96, 13, 38, 1359), (13, 240, 13, 39, 1360), (13, 243, 13, 40, 1361), (13, 275, 13, 41, 1362), (13, 278, 13, 42, 1363), (13, 281, 13, 43, 1364), (13, 284, 13, 44, 1365), (13, 287, 13, 45, 1366), (13, 272, 13, 46, 1367), (13, 229, 13, 47, 1368), (13, 99, 13, 48, 1369), (13, 102, 13, 49, 1370), (13, 105, 13, 50, 1371), (13, 108, 13, 51, 1372), (13, 111, 13, 52, 1373), (13, 114, 13, 53, 1374), (13, 117, 13, 54, 1375), (13, 120, 13, 55, 1376), (13, 123, 13, 56, 1377), (13, 126, 13, 57, 1378), (13, 129, 13, 58, 1379), (13, 132, 13, 59, 1380), (13, 135, 13, 60, 1381), (13, 138, 13, 61, 1382), (13, 141, 13, 62, 1383), (13, 144, 13, 63, 1384), (13, 147, 13, 64, 1385), (13, 150, 13, 65, 1386), (13, 153, 13, 66, 1387), (13, 156, 13, 67, 1388), (13, 159, 13, 68, 1389), (13, 162, 13, 69, 1390), (13, 165, 13, 70, 1391), (13, 353, 13, 71, 1392), (13, 369, 13, 72, 1393), (13, 395, 13, 73, 1394), (13, 398, 13, 74, 1395), (13, 401, 13, 75, 1396), (13, 404, 13, 76, 1397), (13, 407, 13, 77, 1398), (13, 168, 13, 78, 1399), (13, 171, 13, 79, 1400), (13, 174, 13, 80, 1401), (13, 177, 13, 81, 1402)]
def mm_fr (o i : Nat) : Option (Nat × Nat) := (mm_ft.find? (fun e => e.1 == o && e.2.1 == i)).map (fun e => (e.2.2.1, e.2.2.2.1))
/-- links to what is made, or cast to -/
def mm_kt : List (Nat × Nat × Nat × Nat × Nat × Nat) := [(27, 7, 0, 124, 125, 97), (0, 23, 1, 132, 133, 98), (0, 30, 2, 148, 149, 100), (0, 37, 3, 163, 164, 101), (0, 44, 4, 212, 213, 102), (0, 51, 5, 223, 224, 103), (0, 58, 6, 249, 250, 106), (0, 71, 7, 275, 276, 107), (7, 11, 8, 281, 282, 108), (0, 119, 9, 468, 469, 110), (9, 7, 6, 474, 250, 106), (0, 152, 10, 754, 755, 120), (0, 175, 11, 877, 878, 121), (0, 218, 12, 1121, 1122, 122), (9, 65, 12, 1173, 1122, 122), (27, 10, 13, 1315, 1316, 109)]
def mm_kr (o i : Nat) : Option Nat := (mm_kt.find? (fun e => e.1 == o && e.2.1 == i)).map (fun e => e.2.2.1)
def mm_nt : List (Nat × Nat × Int32 × Nat) := [(7, 63, -1000000, 310), (0, 112, 99999, 457), (18, 200, 2147483639, 532), (24, 227, 65536, 698), (25, 110, 55232, 737), (25, 76, 56320, 741), (0, 220, 1048575, 1120), (26, 265, 1431655765, 1189), (26, 266, 858993459, 1190), (26, 267, 252645135, 1191), (13, 204, 99999, 1604), (13, 246, 1000003, 1641), (13, 253, 1000002, 1646), (13, 264, 100000, 1658), (13, 254, 1000000, 1670), (13, 268, 1000001, 1671), (13, 391, 1048575, 1823)]
def mm_nr (o i : Nat) : Option Int32 := (mm_nt.find? (fun e => e.1 == o && e.2.1 == i)).map (fun e => e.2.2.1)
/-- calls: owner, index, kind (0 static, 1 virtual, 2 init, 3 to 5 the same of a nest mate, 7 Object.init), the method, places of the words -/
def mm_ct : List (Nat × Nat × Nat × Nat × Nat × Nat × Nat × Nat) := [(27, 9, 2, 0, 126, 127, 97, 0), (0, 1, 7, 1, 129, 0, 0, 0), (0, 25, 2, 2, 134, 135, 98, 0), (1, 3, 7, 1, 137, 0, 0, 0), (1, 16, 0, 3, 140, 141, 99, 0), (0, 32, 5, 4, 150, 151, 100, 0), (2, 1, 7, 1, 153, 0, 0, 0), (0, 39, 5, 5, 165, 166, 101, 0), (3, 3, 7, 1, 168, 0, 0, 0), (0, 46, 5, 6, 214, 215, 102, 0), (4, 3, 7, 1, 217, 0, 0, 0), (0, 53, 5, 7, 225, 226, 103, 0), (5, 3, 7, 1, 228, 0, 0, 0), (0, 60, 2, 8, 251, 252, 106, 0), (6, 1, 2, 9, 254, 255, 105, 0), (16, 1, 2, 10, 257, 258, 104, 0), (17, 1, 7, 1, 260, 0, 0, 0), (0, 73, 5, 11, 277, 278, 107, 0), (7, 5, 7, 1, 280, 0, 0, 0), (7, 13, 5, 12, 283, 284, 108, 0), (8, 3, 7, 1, 286, 0, 0, 0), (0, 78, 0, 3, 359, 141, 99, 0), (27, 13, 1, 13, 400, 401, 97, 402), (0, 84, 0, 14, 404, 405, 97, 0), (27, 18, 1, 15, 407, 408, 97, 409), (0, 88, 1, 16, 411, 412, 98, 413), (1, 26, 1, 17, 415, 416, 98, 417), (1, 22, 3, 14, 419, 405, 97, 0), (27, 22, 1, 18, 420, 421, 97, 422), (0, 91, 1, 17, 424, 416, 98, 417), (0, 95, 1, 19, 425, 426, 98, 427), (1, 30, 1, 20, 429, 431, 98, 0), (0, 98, 1, 21, 433, 434, 98, 435), (0, 102, 1, 22, 437, 438, 98, 439), (1, 34, 1, 23, 441, 443, 98, 1), (1, 38, 1, 21, 445, 434, 98, 435), (0, 105, 1, 24, 446, 447, 98, 448), (27, 27, 1, 25, 450, 451, 97, 452), (0, 108, 0, 26, 454, 455, 97, 0), (0, 121, 2, 28, 470, 471, 110, 0), (9, 1, 7, 1, 473, 0, 0, 0), (9, 9, 2, 8, 475, 252, 106, 0), (6, 131, 1, 30, 514, 516, 106, 2), (6, 129, 1, 31, 518, 520, 106, 3), (6, 69, 1, 32, 522, 524, 106, 4), (6, 73, 0, 33, 526, 527, 111, 0), (18, 194, 0, 34, 529, 530, 112, 0), (18, 201, 0, 35, 533, 534, 111, 0), (6, 66, 0, 36, 536, 537, 99, 0), (15, 300, 0, 37, 557, 558, 99, 0), (15, 304, 0, 38, 563, 564, 112, 0), (6, 79, 0, 34, 569, 530, 112, 0), (27, 32, 1, 39, 571, 572, 97, 573), (0, 128, 1, 40, 575, 577, 97, 5), (6, 118, 0, 42, 588, 589, 114, 0), (20, 105, 0, 43, 591, 592, 115, 0), (6, 123, 1, 44, 594, 595, 106, 596), (27, 37, 1, 45, 598, 599, 97, 600), (0, 135, 1, 46, 602, 603, 100, 604), (0, 139, 1, 47, 606, 607, 100, 608), (27, 42, 1, 48, 610, 611, 97, 612), (0, 148, 1, 49, 614, 615, 101, 616), (3, 18, 0, 38, 618, 564, 112, 0), (3, 55, 1, 50, 619, 621, 101, 6), (3, 71, 1, 51, 623, 625, 101, 7), (3, 75, 1, 52, 627, 629, 101, 8), (3, 91, 1, 53, 631, 633, 101, 9), (3, 58, 1, 54, 635, 637, 101, 10), (3, 95, 1, 55, 639, 641, 101, 11), (3, 98, 1, 56, 643, 645, 101, 12), (3, 101, 1, 57, 647, 649, 101, 13), (3, 104, 1, 58, 651, 653, 101, 14), (3, 84, 1, 59, 656, 658, 101, 15), (3, 120, 1, 60, 660, 661, 116, 662), (22, 633, 1, 61, 664, 665, 116, 666), (22, 492, 1, 62, 668, 669, 116, 670), (22, 505, 1, 63, 674, 675, 116, 676), (22, 335, 1, 64, 678, 679, 116, 680), (22, 637, 0, 65, 682, 683, 117, 0), (23, 88, 0, 66, 685, 686, 117, 0), (23, 92, 0, 34, 688, 530, 112, 0), (23, 38, 0, 38, 689, 564, 112, 0), (23, 95, 0, 67, 690, 691, 117, 0), (22, 640, 0, 68, 693, 694, 118, 0), (24, 224, 0, 34, 696, 530, 112, 0), (24, 183, 0, 38, 697, 564, 112, 0), (24, 228, 0, 69, 699, 700, 118, 0), (24, 96, 0, 70, 702, 703, 118, 0), (24, 48, 0, 71, 705, 706, 118, 0), (24, 241, 0, 72, 708, 709, 116, 0), (22, 1062, 0, 73, 713, 714, 115, 0), (24, 244, 0, 74, 716, 717, 118, 0), (24, 71, 0, 75, 719, 720, 118, 0), (24, 232, 0, 76, 728, 729, 118, 0), (24, 164, 0, 77, 731, 732, 119, 0), (24, 157, 0, 78, 734, 735, 119, 0), (24, 161, 0, 79, 738, 739, 119, 0), (3, 88, 1, 80, 743, 745, 101, 16), (3, 116, 3, 14, 747, 405, 97, 0), (3, 111, 1, 63, 748, 675, 116, 676), (3, 79, 1, 81, 749, 751, 101, 17), (0, 154, 2, 82, 756, 757, 120, 0), (10, 3, 7, 1, 759, 0, 0, 0), (10, 44, 1, 83, 760, 761, 101, 762), (3, 62, 0, 34, 764, 530, 112, 0), (3, 65, 0, 84, 765, 766, 99, 0), (27, 47, 1, 85, 813, 814, 97, 815), (0, 157, 1, 86, 817, 819, 97, 18), (0, 161, 1, 87, 821, 822, 120, 823), (10, 62, 0, 88, 825, 826, 120, 0), (10, 66, 0, 89, 828, 829, 120, 0), (10, 69, 0, 90, 831, 832, 120, 0), (27, 51, 1, 91, 834, 835, 97, 836), (0, 164, 1, 92, 838, 839, 102, 840), (4, 16, 1, 93, 842, 844, 102, 19), (4, 20, 0, 3, 846, 141, 99, 0), (4, 32, 1, 94, 847, 849, 102, 20), (4, 46, 1, 95, 851, 853, 102, 21), (4, 50, 3, 14, 855, 405, 97, 0), (4, 36, 1, 96, 856, 858, 102, 22), (4, 40, 1, 87, 860, 822, 120, 823), (0, 168, 1, 97, 861, 862, 102, 863), (0, 171, 1, 98, 865, 866, 120, 867), (10, 58, 1, 99, 869, 870, 120, 871), (27, 55, 1, 100, 873, 874, 97, 875), (0, 177, 2, 101, 879, 880, 121, 0), (11, 3, 7, 1, 882, 0, 0, 0), (11, 46, 0, 3, 883, 141, 99, 0), (27, 59, 1, 102, 927, 928, 97, 929), (0, 180, 1, 103, 931, 933, 97, 23), (27, 63, 1, 104, 935, 936, 97, 937), (0, 187, 1, 105, 939, 940, 121, 941), (11, 62, 1, 106, 943, 944, 121, 945), (27, 67, 1, 107, 947, 948, 97, 949), (0, 190, 1, 108, 951, 953, 97, 24), (0, 241, 1, 109, 955, 956, 121, 957), (11, 52, 3, 14, 959, 405, 97, 0), (11, 56, 0, 34, 960, 530, 112, 0), (0, 318, 1, 110, 961, 962, 120, 963), (10, 54, 3, 14, 965, 405, 97, 0), (0, 331, 1, 99, 966, 870, 120, 871), (27, 72, 1, 111, 967, 968, 97, 969), (0, 194, 1, 112, 971, 973, 97, 25), (0, 343, 1, 113, 975, 976, 107, 977), (7, 67, 1, 114, 979, 980, 108, 981), (8, 33, 0, 3, 983, 141, 99, 0), (0, 344, 1, 115, 984, 986, 97, 26), (0, 371, 1, 116, 988, 989, 108, 990), (0, 380, 1, 117, 992, 993, 108, 994), (0, 348, 1, 118, 996, 998, 97, 27), (0, 261, 1, 119, 1000, 1001, 121, 1002), (0, 383, 1, 120, 1004, 1005, 107, 1006), (0, 306, 1, 106, 1008, 944, 121, 945), (0, 359, 1, 121, 1009, 1011, 97, 28), (0, 389, 1, 122, 1013, 1014, 107, 1015), (7, 73, 1, 123, 1019, 1021, 107, 29), (0, 392, 1, 124, 1023, 1024, 107, 1025), (0, 362, 1, 125, 1027, 1028, 108, 1029), (0, 367, 1, 126, 1031, 1032, 108, 1033), (0, 198, 1, 127, 1035, 1036, 107, 1037), (7, 77, 1, 128, 1039, 1041, 107, 30), (7, 92, 0, 38, 1043, 564, 112, 0), (7, 98, 0, 34, 1044, 530, 112, 0), (7, 101, 0, 3, 1045, 141, 99, 0), (7, 113, 1, 129, 1047, 1049, 107, 31), (7, 80, 1, 130, 1051, 1052, 108, 1053), (7, 84, 1, 131, 1055, 1057, 107, 32), (7, 117, 1, 132, 1059, 1060, 108, 1061), (7, 121, 1, 133, 1063, 1064, 108, 1065), (7, 125, 1, 125, 1067, 1028, 108, 1029), (0, 201, 1, 134, 1068, 1070, 97, 33), (0, 395, 1, 135, 1072, 1073, 107, 1074), (0, 398, 1, 136, 1076, 1077, 107, 1078), (7, 88, 1, 137, 1080, 1082, 107, 34), (0, 401, 1, 138, 1084, 1085, 107, 1086), (0, 207, 1, 139, 1088, 1089, 121, 1090), (0, 211, 1, 140, 1092, 1093, 103, 1094), (27, 77, 1, 141, 1096, 1097, 97, 1098), (27, 82, 1, 142, 1100, 1101, 97, 1102), (27, 86, 1, 143, 1104, 1105, 97, 1106), (27, 90, 1, 144, 1108, 1109, 97, 1110), (0, 214, 1, 145, 1112, 1114, 97, 35), (27, 95, 1, 146, 1116, 1117, 97, 1118), (0, 224, 2, 147, 1123, 1124, 122, 0), (12, 1, 7, 1, 1126, 0, 0, 0), (27, 99, 1, 148, 1149, 1150, 97, 1151), (27, 104, 1, 149, 1153, 1154, 97, 1155), (0, 244, 1, 150, 1157, 1158, 110, 1159), (9, 44, 0, 38, 1163, 564, 112, 0), (9, 50, 1, 151, 1164, 1166, 110, 36), (9, 58, 0, 152, 1168, 1169, 110, 0), (9, 83, 1, 153, 1174, 1175, 110, 1176), (9, 54, 1, 154, 1178, 1180, 110, 37), (9, 87, 1, 155, 1182, 1183, 110, 1184), (9, 90, 0, 156, 1186, 1187, 123, 0), (0, 248, 1, 153, 1192, 1175, 110, 1176), (0, 251, 1, 155, 1193, 1183, 110, 1184), (27, 108, 1, 157, 1194, 1195, 97, 1196), (0, 254, 1, 158, 1198, 1199, 103, 1200), (27, 113, 1, 159, 1202, 1203, 97, 1204), (0, 258, 1, 160, 1206, 1207, 103, 1208), (5, 31, 0, 38, 1210, 564, 112, 0), (27, 117, 1, 161, 1211, 1212, 97, 1213), (0, 270, 1, 162, 1215, 1217, 97, 38), (27, 121, 1, 163, 1219, 1220, 97, 1221), (0, 274, 1, 164, 1223, 1225, 97, 39), (0, 421, 1, 165, 1227, 1229, 97, 40), (0, 418, 0, 38, 1231, 564, 112, 0), (0, 424, 1, 166, 1232, 1234, 97, 41), (0, 410, 0, 34, 1236, 530, 112, 0), (27, 125, 1, 167, 1237, 1238, 97, 1239), (0, 278, 1, 168, 1241, 1243, 97, 42), (0, 285, 1, 169, 1245, 1246, 110, 1247), (0, 288, 1, 170, 1249, 1250, 110, 1251), (9, 35, 1, 169, 1253, 1246, 110, 1247), (27, 129, 1, 171, 1254, 1255, 97, 1256), (27, 133, 1, 172, 1258, 1259, 97, 1260), (0, 291, 1, 173, 1262, 1263, 121, 1264), (0, 294, 1, 174, 1266, 1267, 103, 1268), (27, 137, 1, 175, 1270, 1271, 97, 1272), (27, 142, 1, 176, 1274, 1275, 97, 1276), (0, 309, 1, 177, 1278, 1279, 121, 1280), (11, 66, 1, 119, 1282, 1001, 121, 1002), (0, 312, 1, 178, 1283, 1284, 121, 1285), (27, 146, 1, 179, 1287, 1288, 97, 1289), (0, 315, 1, 180, 1291, 1293, 97, 43), (0, 321, 1, 181, 1295, 1296, 120, 1297), (27, 150, 1, 182, 1299, 1300, 97, 1301), (0, 324, 1, 183, 1303, 1305, 97, 44), (0, 327, 1, 184, 1307, 1309, 97, 45), (0, 404, 1, 185, 1311, 1313, 97, 46), (27, 12, 2, 186, 1317, 1318, 109, 0), (13, 1, 7, 1, 1320, 0, 0, 0), (27, 17, 1, 187, 1569, 1570, 109, 1571), (13, 180, 0, 188, 1573, 1574, 109, 0), (27, 21, 1, 189, 1576, 1577, 109, 1578), (27, 26, 1, 190, 1580, 1581, 109, 1582), (13, 188, 1, 191, 1584, 1586, 109, 47), (13, 184, 1, 192, 1588, 1590, 109, 48), (13, 192, 1, 193, 1592, 1594, 109, 49), (13, 196, 1, 194, 1596, 1598, 109, 50), (27, 31, 1, 195, 1600, 1601, 109, 1602), (27, 36, 1, 196, 1605, 1606, 109, 1607), (13, 205, 1, 197, 1609, 1611, 109, 51), (27, 41, 1, 198, 1613, 1614, 109, 1615), (13, 212, 1, 199, 1617, 1619, 109, 52), (27, 46, 1, 200, 1621, 1622, 109, 1623), (13, 293, 1, 201, 1625, 1627, 109, 53), (13, 222, 1, 202, 1629, 1631, 109, 54), (13, 269, 1, 203, 1633, 1635, 109, 55), (13, 236, 1, 204, 1637, 1639, 109, 56), (13, 255, 1, 205, 1642, 1644, 109, 57), (13, 258, 0, 206, 1647, 1648, 109, 0), (13, 261, 1, 207, 1650, 1652, 109, 58), (13, 232, 1, 208, 1654, 1656, 109, 59), (13, 250, 1, 209, 1659, 1661, 109, 60), (13, 265, 1, 210, 1663, 1665, 109, 61), (13, 247, 0, 211, 1667, 1668, 109, 0), (27, 50, 1, 212, 1672, 1673, 109, 1674), (13, 296, 1, 213, 1676, 1678, 109, 62), (13, 299, 1, 214, 1680, 1682, 109, 63), (27, 54, 1, 215, 1684, 1685, 109, 1686), (13, 313, 1, 216, 1688, 1690, 109, 64), (13, 306, 1, 217, 1692, 1694, 109, 65), (13, 303, 0, 218, 1696, 1697, 109, 0), (13, 310, 1, 219, 1699, 1701, 109, 66), (13, 317, 1, 220, 1703, 1705, 109, 67), (27, 58, 1, 221, 1707, 1708, 109, 1709), (27, 62, 1, 222, 1711, 1712, 109, 1713), (13, 323, 1, 223, 1715, 1717, 109, 68), (27, 66, 1, 224, 1719, 1720, 109, 1721), (13, 326, 1, 225, 1723, 1725, 109, 69), (27, 71, 1, 226, 1727, 1728, 109, 1729), (13, 338, 1, 227, 1731, 1733, 109, 70), (13, 332, 1, 228, 1735, 1737, 109, 71), (13, 335, 1, 229, 1739, 1741, 109, 72), (27, 89, 1, 230, 1743, 1744, 109, 1745), (13, 350, 1, 231, 1747, 1749, 109, 73), (13, 341, 1, 232, 1751, 1753, 109, 74), (13, 344, 1, 233, 1755, 1757, 109, 75), (13, 347, 1, 234, 1759, 1761, 109, 76), (27, 94, 1, 235, 1763, 1764, 109, 1765), (27, 76, 1, 236, 1767, 1768, 109, 1769), (13, 384, 1, 237, 1771, 1773, 109, 77), (13, 356, 1, 238, 1775, 1777, 109, 78), (13, 360, 1, 239, 1779, 1781, 109, 79), (13, 363, 1, 240, 1783, 1785, 109, 80), (13, 366, 1, 241, 1787, 1789, 109, 81), (13, 372, 1, 242, 1791, 1793, 109, 82), (13, 375, 1, 243, 1795, 1797, 109, 83), (13, 378, 1, 244, 1799, 1801, 109, 84), (13, 388, 1, 245, 1803, 1805, 109, 85), (13, 381, 1, 246, 1807, 1809, 109, 86), (27, 85, 1, 247, 1811, 1812, 109, 1813), (27, 81, 1, 248, 1815, 1816, 109, 1817), (27, 98, 1, 249, 1819, 1820, 109, 1821), (27, 103, 1, 250, 1824, 1825, 109, 1826), (13, 392, 1, 251, 1828, 1830, 109, 87), (27, 107, 1, 252, 1832, 1833, 109, 1834), (13, 416, 1, 253, 1836, 1838, 109, 88), (13, 410, 1, 254, 1840, 1842, 109, 89), (13, 413, 0, 255, 1844, 1845, 109, 0), (27, 112, 1, 256, 1847, 1848, 109, 1849), (13, 422, 0, 257, 1851, 1852, 109, 0), (27, 116, 1, 258, 1854, 1855, 109, 1856), (13, 428, 1, 259, 1858, 1860, 109, 90), (27, 120, 1, 260, 1862, 1863, 109, 1864), (27, 124, 1, 261, 1866, 1867, 109, 1868), (13, 434, 1, 262, 1870, 1872, 109, 91), (13, 431, 1, 263, 1874, 1876, 109, 92), (27, 128, 1, 264, 1878, 1879, 109, 1880), (27, 132, 1, 265, 1882, 1883, 109, 1884), (27, 136, 1, 266, 1886, 1887, 109, 1888), (27, 141, 1, 267, 1890, 1891, 109, 1892), (27, 145, 1, 268, 1894, 1895, 109, 1896), (13, 437, 1, 269, 1898, 1900, 109, 93), (27, 149, 1, 270, 1902, 1903, 109, 1904), (13, 440, 1, 271, 1906, 1908, 109, 94), (27, 153, 1, 272, 1910, 1911, 109, 1912), (13, 443, 1, 273, 1914, 1916, 109, 95)]
def mm_cr (o i : Nat) : Option (Nat × Nat) := (mm_ct.find? (fun e => e.1 == o && e.2.1 == i)).map (fun e => (e.2.2.1, e.2.2.2.1))
