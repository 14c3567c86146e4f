/-! THE SMALL MACHINE, tables: names by numbers, fields, methods, links (printed by wip/whole/tools/gen_tabs.py out of the words of the tables) -/
def mm_cns : List String := ["StudentSwaps", "StudentSwaps$Scales", "StudentSwaps$Tape", "StudentSwaps$TextReader", "StudentSwaps$Grid", "StudentSwaps$Facts", "java/util/ArrayList", "StudentSwaps$Plan", "StudentSwaps$Bounds", "StudentSwaps$School", "StudentSwaps$Agreement", "StudentSwaps$Student", "StudentSwaps$Course", "StudentSwapsModel", "java/lang/Object", "java/util/Arrays", "java/util/AbstractList", "java/util/AbstractCollection", "jdk/internal/util/ArraysSupport", "java/lang/Math", "java/util/Objects", "jdk/internal/util/Preconditions", "java/lang/String", "java/lang/StringLatin1", "java/lang/StringUTF16", "java/lang/Character", "java/lang/Integer", "StudentSwapsLaw"]
def mm_cn (o : Nat) : String := mm_cns.getD o ""
def mm_T0 : u_T := fun k => match k with
  | 0 => ("StudentSwaps", "yearNow", "I", false)
  | 1 => ("StudentSwaps", "visaLeast", "[I", true)
  | 2 => ("StudentSwaps", "visaMost", "[I", true)
  | 3 => ("StudentSwaps", "guestsOn", "[I", true)
  | 4 => ("StudentSwaps", "scales", "LStudentSwaps$Scales;", true)
  | 5 => ("StudentSwaps", "tape", "LStudentSwaps$Tape;", true)
  | 6 => ("StudentSwaps", "reader", "LStudentSwaps$TextReader;", true)
  | 7 => ("StudentSwaps", "grid", "LStudentSwaps$Grid;", true)
  | 8 => ("StudentSwaps", "facts", "LStudentSwaps$Facts;", true)
  | 9 => ("StudentSwaps", "schools", "Ljava/util/List;", true)
  | 10 => ("StudentSwaps", "agreements", "Ljava/util/List;", true)
  | 11 => ("StudentSwaps", "students", "Ljava/util/List;", true)
  | _ => ("StudentSwaps", "plan", "LStudentSwaps$Plan;", true)
def mm_ty0 : Nat → FieldType := fun k => match k with
  | 0 => .int
  | 1 => (.array .int)
  | 2 => (.array .int)
  | 3 => (.array .int)
  | 4 => (.object "StudentSwaps$Scales")
  | 5 => (.object "StudentSwaps$Tape")
  | 6 => (.object "StudentSwaps$TextReader")
  | 7 => (.object "StudentSwaps$Grid")
  | 8 => (.object "StudentSwaps$Facts")
  | 9 => (.object "java/util/List")
  | 10 => (.object "java/util/List")
  | 11 => (.object "java/util/List")
  | _ => (.object "StudentSwaps$Plan")
def mm_T1 : u_T := fun k => match k with
  | _ => ("StudentSwaps$Scales", "rows", "[[I", true)
def mm_ty1 : Nat → FieldType := fun k => match k with
  | _ => (.array (.array .int))
def mm_T2 : u_T := fun k => match k with
  | 0 => ("StudentSwaps$Tape", "bytes", "[I", true)
  | _ => ("StudentSwaps$Tape", "size", "I", false)
def mm_ty2 : Nat → FieldType := fun k => match k with
  | 0 => (.array .int)
  | _ => .int
def mm_T3 : u_T := fun k => match k with
  | 0 => ("StudentSwaps$TextReader", "bytes", "[I", false)
  | 1 => ("StudentSwaps$TextReader", "end", "I", false)
  | 2 => ("StudentSwaps$TextReader", "place", "I", false)
  | 3 => ("StudentSwaps$TextReader", "fault", "I", false)
  | 4 => ("StudentSwaps$TextReader", "codes", "[I", true)
  | 5 => ("StudentSwaps$TextReader", "codeCount", "I", false)
  | 6 => ("StudentSwaps$TextReader", "number", "I", false)
  | 7 => ("StudentSwaps$TextReader", "balance", "I", false)
  | 8 => ("StudentSwaps$TextReader", "pence", "I", false)
  | 9 => ("StudentSwaps$TextReader", "firstYear", "I", false)
  | 10 => ("StudentSwaps$TextReader", "lastYear", "I", false)
  | _ => ("StudentSwaps$TextReader", "expressions", "I", false)
def mm_ty3 : Nat → FieldType := fun k => match k with
  | 0 => (.array .int)
  | 1 => .int
  | 2 => .int
  | 3 => .int
  | 4 => (.array .int)
  | 5 => .int
  | 6 => .int
  | 7 => .int
  | 8 => .int
  | 9 => .int
  | 10 => .int
  | _ => .int
def mm_T4 : u_T := fun k => match k with
  | _ => ("StudentSwaps$Grid", "edges", "[[I", true)
def mm_ty4 : Nat → FieldType := fun k => match k with
  | _ => (.array (.array .int))
def mm_T5 : u_T := fun k => match k with
  | 0 => ("StudentSwaps$Facts", "size", "I", false)
  | 1 => ("StudentSwaps$Facts", "latest", "I", false)
  | 2 => ("StudentSwaps$Facts", "who", "[I", true)
  | 3 => ("StudentSwaps$Facts", "kinds", "[I", true)
  | 4 => ("StudentSwaps$Facts", "days", "[I", true)
  | _ => ("StudentSwaps$Facts", "tolds", "[I", true)
def mm_ty5 : Nat → FieldType := fun k => match k with
  | 0 => .int
  | 1 => .int
  | 2 => (.array .int)
  | 3 => (.array .int)
  | 4 => (.array .int)
  | _ => (.array .int)
def mm_T6 : u_T := fun k => match k with
  | 0 => ("java/util/ArrayList", "elementData", "[Ljava/lang/Object;", false)
  | 1 => ("java/util/ArrayList", "size", "I", false)
  | _ => ("java/util/AbstractList", "modCount", "I", false)
def mm_ty6 : Nat → FieldType := fun k => match k with
  | 0 => (.array (.object "java/lang/Object"))
  | 1 => .int
  | _ => .int
def mm_T7 : u_T := fun k => match k with
  | 0 => ("StudentSwaps$Plan", "bounds", "LStudentSwaps$Bounds;", true)
  | 1 => ("StudentSwaps$Plan", "size", "I", false)
  | 2 => ("StudentSwaps$Plan", "who", "[I", true)
  | 3 => ("StudentSwaps$Plan", "options", "[I", true)
  | 4 => ("StudentSwaps$Plan", "wishes", "[[I", true)
  | 5 => ("StudentSwaps$Plan", "hosts", "[[I", true)
  | 6 => ("StudentSwaps$Plan", "agreements", "[[I", true)
  | 7 => ("StudentSwaps$Plan", "ways", "[[I", true)
  | 8 => ("StudentSwaps$Plan", "worths", "[[I", true)
  | 9 => ("StudentSwaps$Plan", "worthLeft", "[I", true)
  | 10 => ("StudentSwaps$Plan", "outLeft", "[[I", true)
  | 11 => ("StudentSwaps$Plan", "backLeft", "[[I", true)
  | 12 => ("StudentSwaps$Plan", "row", "[I", true)
  | 13 => ("StudentSwaps$Plan", "bestRow", "[I", true)
  | _ => ("StudentSwaps$Plan", "best", "I", false)
def mm_ty7 : Nat → FieldType := fun k => match k with
  | 0 => (.object "StudentSwaps$Bounds")
  | 1 => .int
  | 2 => (.array .int)
  | 3 => (.array .int)
  | 4 => (.array (.array .int))
  | 5 => (.array (.array .int))
  | 6 => (.array (.array .int))
  | 7 => (.array (.array .int))
  | 8 => (.array (.array .int))
  | 9 => (.array .int)
  | 10 => (.array (.array .int))
  | 11 => (.array (.array .int))
  | 12 => (.array .int)
  | 13 => (.array .int)
  | _ => .int
def mm_T8 : u_T := fun k => match k with
  | 0 => ("StudentSwaps$Bounds", "mostGoing", "[I", true)
  | 1 => ("StudentSwaps$Bounds", "mostBalance", "[I", true)
  | 2 => ("StudentSwaps$Bounds", "mostGuests", "[I", true)
  | 3 => ("StudentSwaps$Bounds", "goOut", "[I", true)
  | 4 => ("StudentSwaps$Bounds", "goBack", "[I", true)
  | 5 => ("StudentSwaps$Bounds", "balances", "[I", true)
  | _ => ("StudentSwaps$Bounds", "guests", "[I", true)
def mm_ty8 : Nat → FieldType := fun k => match k with
  | 0 => (.array .int)
  | 1 => (.array .int)
  | 2 => (.array .int)
  | 3 => (.array .int)
  | 4 => (.array .int)
  | 5 => (.array .int)
  | _ => (.array .int)
def mm_T9 : u_T := fun k => match k with
  | 0 => ("StudentSwaps$School", "land", "I", true)
  | 1 => ("StudentSwaps$School", "tongue", "I", true)
  | 2 => ("StudentSwaps$School", "from", "I", true)
  | 3 => ("StudentSwaps$School", "to", "I", true)
  | 4 => ("StudentSwaps$School", "fee", "I", true)
  | 5 => ("StudentSwaps$School", "beds", "I", false)
  | _ => ("StudentSwaps$School", "courses", "Ljava/util/List;", true)
def mm_ty9 : Nat → FieldType := fun k => match k with
  | 0 => .int
  | 1 => .int
  | 2 => .int
  | 3 => .int
  | 4 => .int
  | 5 => .int
  | _ => (.object "java/util/List")
def mm_T10 : u_T := fun k => match k with
  | 0 => ("StudentSwaps$Agreement", "first", "I", true)
  | 1 => ("StudentSwaps$Agreement", "second", "I", true)
  | 2 => ("StudentSwaps$Agreement", "number", "I", true)
  | 3 => ("StudentSwaps$Agreement", "balance", "I", true)
  | 4 => ("StudentSwaps$Agreement", "pence", "I", true)
  | 5 => ("StudentSwaps$Agreement", "firstYear", "I", true)
  | 6 => ("StudentSwaps$Agreement", "lastYear", "I", true)
  | 7 => ("StudentSwaps$Agreement", "expressions", "I", true)
  | 8 => ("StudentSwaps$Agreement", "codes", "[I", true)
  | _ => ("StudentSwaps$Agreement", "stack", "[I", true)
def mm_ty10 : Nat → FieldType := fun k => match k with
  | 0 => .int
  | 1 => .int
  | 2 => .int
  | 3 => .int
  | 4 => .int
  | 5 => .int
  | 6 => .int
  | 7 => .int
  | 8 => (.array .int)
  | _ => (.array .int)
def mm_T11 : u_T := fun k => match k with
  | 0 => ("StudentSwaps$Student", "home", "I", true)
  | 1 => ("StudentSwaps$Student", "subject", "I", true)
  | 2 => ("StudentSwaps$Student", "grade", "I", true)
  | 3 => ("StudentSwaps$Student", "credits", "I", true)
  | 4 => ("StudentSwaps$Student", "needs", "I", true)
  | 5 => ("StudentSwaps$Student", "tests", "[I", true)
  | 6 => ("StudentSwaps$Student", "wished", "[I", true)
  | 7 => ("StudentSwaps$Student", "wishes", "I", false)
  | 8 => ("StudentSwaps$Student", "state", "I", false)
  | 9 => ("StudentSwaps$Student", "served", "I", false)
  | _ => ("StudentSwaps$Student", "by", "I", false)
def mm_ty11 : Nat → FieldType := fun k => match k with
  | 0 => .int
  | 1 => .int
  | 2 => .int
  | 3 => .int
  | 4 => .int
  | 5 => (.array .int)
  | 6 => (.array .int)
  | 7 => .int
  | 8 => .int
  | 9 => .int
  | _ => .int
def mm_T12 : u_T := fun k => match k with
  | 0 => ("StudentSwaps$Course", "topics", "I", true)
  | 1 => ("StudentSwaps$Course", "credits", "I", true)
  | 2 => ("StudentSwaps$Course", "level", "I", true)
  | 3 => ("StudentSwaps$Course", "hours", "I", true)
  | _ => ("StudentSwaps$Course", "isCancelled", "Z", false)
def mm_ty12 : Nat → FieldType := fun k => match k with
  | 0 => .int
  | 1 => .int
  | 2 => .int
  | 3 => .int
  | _ => .boolean
def mm_T13 : u_T := fun k => match k with
  | 0 => ("StudentSwapsModel", "visaLeast", "[I", true)
  | 1 => ("StudentSwapsModel", "visaMost", "[I", true)
  | 2 => ("StudentSwapsModel", "hadOf", "[I", true)
  | 3 => ("StudentSwapsModel", "schools", "I", false)
  | 4 => ("StudentSwapsModel", "agreements", "I", false)
  | 5 => ("StudentSwapsModel", "students", "I", false)
  | 6 => ("StudentSwapsModel", "yearNow", "I", false)
  | 7 => ("StudentSwapsModel", "factMany", "I", false)
  | 8 => ("StudentSwapsModel", "lastTold", "I", false)
  | 9 => ("StudentSwapsModel", "landOf", "[I", true)
  | 10 => ("StudentSwapsModel", "tongueOf", "[I", true)
  | 11 => ("StudentSwapsModel", "bedsOf", "[I", true)
  | 12 => ("StudentSwapsModel", "scaleOf", "[I", true)
  | 13 => ("StudentSwapsModel", "termFrom", "[I", true)
  | 14 => ("StudentSwapsModel", "termTo", "[I", true)
  | 15 => ("StudentSwapsModel", "feeOf", "[I", true)
  | 16 => ("StudentSwapsModel", "courseMany", "[I", true)
  | 17 => ("StudentSwapsModel", "topicsOf", "[I", true)
  | 18 => ("StudentSwapsModel", "creditsOf", "[I", true)
  | 19 => ("StudentSwapsModel", "levelOf", "[I", true)
  | 20 => ("StudentSwapsModel", "hoursOf", "[I", true)
  | 21 => ("StudentSwapsModel", "isCancelled", "[Z", true)
  | 22 => ("StudentSwapsModel", "tape", "[B", true)
  | 23 => ("StudentSwapsModel", "taped", "I", false)
  | 24 => ("StudentSwapsModel", "at", "I", false)
  | 25 => ("StudentSwapsModel", "size", "I", false)
  | 26 => ("StudentSwapsModel", "fault", "I", false)
  | 27 => ("StudentSwapsModel", "firstOf", "[I", true)
  | 28 => ("StudentSwapsModel", "secondOf", "[I", true)
  | 29 => ("StudentSwapsModel", "mostOf", "[I", true)
  | 30 => ("StudentSwapsModel", "boundOf", "[I", true)
  | 31 => ("StudentSwapsModel", "penceOf", "[I", true)
  | 32 => ("StudentSwapsModel", "yearFrom", "[I", true)
  | 33 => ("StudentSwapsModel", "yearTo", "[I", true)
  | 34 => ("StudentSwapsModel", "expressions", "[I", true)
  | 35 => ("StudentSwapsModel", "codes", "[I", true)
  | 36 => ("StudentSwapsModel", "codeMany", "[I", true)
  | 37 => ("StudentSwapsModel", "said", "[I", true)
  | 38 => ("StudentSwapsModel", "waits", "[I", true)
  | 39 => ("StudentSwapsModel", "saidMany", "I", false)
  | 40 => ("StudentSwapsModel", "waitMany", "I", false)
  | 41 => ("StudentSwapsModel", "saidMost", "I", false)
  | 42 => ("StudentSwapsModel", "saidBound", "I", false)
  | 43 => ("StudentSwapsModel", "saidPence", "I", false)
  | 44 => ("StudentSwapsModel", "saidFrom", "I", false)
  | 45 => ("StudentSwapsModel", "saidTo", "I", false)
  | 46 => ("StudentSwapsModel", "saidExpressions", "I", false)
  | 47 => ("StudentSwapsModel", "number", "I", false)
  | 48 => ("StudentSwapsModel", "stack", "[Z", true)
  | 49 => ("StudentSwapsModel", "borders", "[I", true)
  | 50 => ("StudentSwapsModel", "borderMany", "[I", true)
  | 51 => ("StudentSwapsModel", "home", "[I", true)
  | 52 => ("StudentSwapsModel", "subjectOf", "[I", true)
  | 53 => ("StudentSwapsModel", "gradeOf", "[I", true)
  | 54 => ("StudentSwapsModel", "creditOf", "[I", true)
  | 55 => ("StudentSwapsModel", "needsOf", "[I", true)
  | 56 => ("StudentSwapsModel", "state", "[I", true)
  | 57 => ("StudentSwapsModel", "placedAt", "[I", true)
  | 58 => ("StudentSwapsModel", "by", "[I", true)
  | 59 => ("StudentSwapsModel", "wishMany", "[I", true)
  | 60 => ("StudentSwapsModel", "wishOf", "[I", true)
  | 61 => ("StudentSwapsModel", "test", "[I", true)
  | 62 => ("StudentSwapsModel", "who", "[I", true)
  | 63 => ("StudentSwapsModel", "oldState", "[I", true)
  | 64 => ("StudentSwapsModel", "oldAt", "[I", true)
  | 65 => ("StudentSwapsModel", "oldBy", "[I", true)
  | 66 => ("StudentSwapsModel", "choice", "[I", true)
  | 67 => ("StudentSwapsModel", "best", "[I", true)
  | 68 => ("StudentSwapsModel", "mayOf", "[I", true)
  | 69 => ("StudentSwapsModel", "served", "[I", true)
  | 70 => ("StudentSwapsModel", "bestServed", "[I", true)
  | 71 => ("StudentSwapsModel", "whoMany", "I", false)
  | 72 => ("StudentSwapsModel", "bestOthers", "I", false)
  | 73 => ("StudentSwapsModel", "setCredits", "I", false)
  | 74 => ("StudentSwapsModel", "setTopics", "I", false)
  | 75 => ("StudentSwapsModel", "studySet", "I", false)
  | 76 => ("StudentSwapsModel", "studyCredits", "I", false)
  | 77 => ("StudentSwapsModel", "studyTopics", "I", false)
  | 78 => ("StudentSwapsModel", "factOf", "[I", true)
  | 79 => ("StudentSwapsModel", "factWhat", "[I", true)
  | 80 => ("StudentSwapsModel", "factDay", "[I", true)
  | _ => ("StudentSwapsModel", "factTold", "[I", true)
def mm_ty13 : Nat → FieldType := fun k => match k with
  | 0 => (.array .int)
  | 1 => (.array .int)
  | 2 => (.array .int)
  | 3 => .int
  | 4 => .int
  | 5 => .int
  | 6 => .int
  | 7 => .int
  | 8 => .int
  | 9 => (.array .int)
  | 10 => (.array .int)
  | 11 => (.array .int)
  | 12 => (.array .int)
  | 13 => (.array .int)
  | 14 => (.array .int)
  | 15 => (.array .int)
  | 16 => (.array .int)
  | 17 => (.array .int)
  | 18 => (.array .int)
  | 19 => (.array .int)
  | 20 => (.array .int)
  | 21 => (.array .boolean)
  | 22 => (.array .byte)
  | 23 => .int
  | 24 => .int
  | 25 => .int
  | 26 => .int
  | 27 => (.array .int)
  | 28 => (.array .int)
  | 29 => (.array .int)
  | 30 => (.array .int)
  | 31 => (.array .int)
  | 32 => (.array .int)
  | 33 => (.array .int)
  | 34 => (.array .int)
  | 35 => (.array .int)
  | 36 => (.array .int)
  | 37 => (.array .int)
  | 38 => (.array .int)
  | 39 => .int
  | 40 => .int
  | 41 => .int
  | 42 => .int
  | 43 => .int
  | 44 => .int
  | 45 => .int
  | 46 => .int
  | 47 => .int
  | 48 => (.array .boolean)
  | 49 => (.array .int)
  | 50 => (.array .int)
  | 51 => (.array .int)
  | 52 => (.array .int)
  | 53 => (.array .int)
  | 54 => (.array .int)
  | 55 => (.array .int)
  | 56 => (.array .int)
  | 57 => (.array .int)
  | 58 => (.array .int)
  | 59 => (.array .int)
  | 60 => (.array .int)
  | 61 => (.array .int)
  | 62 => (.array .int)
  | 63 => (.array .int)
  | 64 => (.array .int)
  | 65 => (.array .int)
  | 66 => (.array .int)
  | 67 => (.array .int)
  | 68 => (.array .int)
  | 69 => (.array .int)
  | 70 => (.array .int)
  | 71 => .int
  | 72 => .int
  | 73 => .int
  | 74 => .int
  | 75 => .int
  | 76 => .int
  | 77 => .int
  | 78 => (.array .int)
  | 79 => (.array .int)
  | 80 => (.array .int)
  | _ => (.array .int)
def mm_cl : List vw_C := [(mm_cn 0, mm_T0, 13), (mm_cn 1, mm_T1, 1), (mm_cn 2, mm_T2, 2), (mm_cn 3, mm_T3, 12), (mm_cn 4, mm_T4, 1), (mm_cn 5, mm_T5, 6), (mm_cn 6, mm_T6, 3), (mm_cn 7, mm_T7, 15), (mm_cn 8, mm_T8, 7), (mm_cn 9, mm_T9, 7), (mm_cn 10, mm_T10, 10), (mm_cn 11, mm_T11, 11), (mm_cn 12, mm_T12, 5), (mm_cn 13, mm_T13, 82)]
def mm_tys : List (Nat → FieldType) := [mm_ty0, mm_ty1, mm_ty2, mm_ty3, mm_ty4, mm_ty5, mm_ty6, mm_ty7, mm_ty8, mm_ty9, mm_ty10, mm_ty11, mm_ty12, mm_ty13]
def mm_fp : List (List Nat) := [[2037, 2039, 2041, 2043, 2045, 2047, 2049, 2051, 2053, 2055, 2057, 2059, 2061], [1048], [1062, 1064], [1091, 1093, 1095, 1097, 1099, 1101, 1103, 1105, 1107, 1109, 1111, 1113], [1124], [1140, 1142, 1144, 1146, 1148, 1150], [1172, 1174, 1176], [1232, 1234, 1236, 1238, 2000, 2002, 2004, 2006, 2008, 2010, 2012, 2014, 2016, 2018, 2020], [1198, 1200, 1202, 1204, 1206, 1208, 1210], [2154, 2156, 2158, 2160, 2162, 2164, 2166], [3215, 3217, 3219, 3221, 3223, 3225, 3227, 3229, 3231, 3233], [4088, 4090, 4092, 4094, 4096, 4098, 4100, 4102, 4104, 4106, 4108], [5086, 5088, 5090, 5092, 5094], [6111, 6113, 6115, 6117, 6119, 6121, 6123, 6125, 6127, 6129, 6131, 6133, 6135, 6137, 6139, 6141, 6143, 6145, 6147, 6149, 6151, 6153, 6155, 6157, 6159, 6161, 6163, 6165, 6167, 6169, 6171, 6173, 6175, 6177, 6179, 6181, 6183, 6185, 6187, 6189, 6191, 6193, 6195, 6197, 6199, 6201, 6203, 6205, 6207, 6209, 6211, 6213, 6215, 6217, 6219, 6221, 6223, 6225, 6227, 6229, 6231, 6233, 6235, 6237, 6239, 7001, 7003, 7005, 7007, 7009, 7011, 7013, 7015, 7017, 7019, 7021, 7023, 7025, 7027, 7029, 7031, 7033]]
def mm_ty (c k : Nat) : FieldType := mm_tys.getD c (fun _ => .int) k
def mm_df (c : Nat) : List Value := match c with
  | 0 => [.int 0, .null, .null, .null, .null, .null, .null, .null, .null, .null, .null, .null, .null]
  | 1 => [.null]
  | 2 => [.null, .int 0]
  | 3 => [.null, .int 0, .int 0, .int 0, .null, .int 0, .int 0, .int 0, .int 0, .int 0, .int 0, .int 0]
  | 4 => [.null]
  | 5 => [.int 0, .int 0, .null, .null, .null, .null]
  | 6 => [.null, .int 0, .int 0]
  | 7 => [.null, .int 0, .null, .null, .null, .null, .null, .null, .null, .null, .null, .null, .null, .null, .int 0]
  | 8 => [.null, .null, .null, .null, .null, .null, .null]
  | 9 => [.int 0, .int 0, .int 0, .int 0, .int 0, .int 0, .null]
  | 10 => [.int 0, .int 0, .int 0, .int 0, .int 0, .int 0, .int 0, .int 0, .null, .null]
  | 11 => [.int 0, .int 0, .int 0, .int 0, .int 0, .null, .null, .int 0, .int 0, .int 0, .int 0]
  | 12 => [.int 0, .int 0, .int 0, .int 0, .int 0]
  | 13 => [.null, .null, .null, .int 0, .int 0, .int 0, .int 0, .int 0, .int 0, .null, .null, .null, .null, .null, .null, .null, .null, .null, .null, .null, .null, .null, .null, .int 0, .int 0, .int 0, .int 0, .null, .null, .null, .null, .null, .null, .null, .null, .null, .null, .null, .null, .int 0, .int 0, .int 0, .int 0, .int 0, .int 0, .int 0, .int 0, .int 0, .null, .null, .null, .null, .null, .null, .null, .null, .null, .null, .null, .null, .null, .null, .null, .null, .null, .null, .null, .null, .null, .null, .null, .int 0, .int 0, .int 0, .int 0, .int 0, .int 0, .int 0, .null, .null, .null, .null]
  | _ => []
/-- the methods: number of the owner, name, bytes, locals, what it returns, parameters, its place among the words -/
def mm_ms : List (Nat × MethodName × ByteArray × Nat × Option FieldType × Nat × Nat) := [
  (0, ⟨"StudentSwaps", "<init>", "()V"⟩, prog_1_method_1_code, 1, none, 0, 1032),
  (1, ⟨"StudentSwaps$Scales", "<init>", "()V"⟩, prog_8_method_1_code, 2, none, 0, 1040),
  (15, ⟨"java/util/Arrays", "fill", "([II)V"⟩, prog_28_method_103_code, 4, none, 2, 1046),
  (2, ⟨"StudentSwaps$Tape", "<init>", "()V"⟩, prog_11_method_1_code, 1, none, 0, 1056),
  (3, ⟨"StudentSwaps$TextReader", "<init>", "()V"⟩, prog_12_method_1_code, 1, none, 0, 1071),
  (4, ⟨"StudentSwaps$Grid", "<init>", "()V"⟩, prog_6_method_1_code, 1, none, 0, 1120),
  (5, ⟨"StudentSwaps$Facts", "<init>", "()V"⟩, prog_5_method_1_code, 1, none, 0, 1131),
  (6, ⟨"java/util/ArrayList", "<init>", "()V"⟩, prog_27_method_2_code, 1, none, 0, 1157),
  (16, ⟨"java/util/AbstractList", "<init>", "()V"⟩, prog_26_method_1_code, 1, none, 0, 1160),
  (17, ⟨"java/util/AbstractCollection", "<init>", "()V"⟩, prog_25_method_1_code, 1, none, 0, 1163),
  (7, ⟨"StudentSwaps$Plan", "<init>", "()V"⟩, prog_7_method_1_code, 1, none, 0, 1183),
  (8, ⟨"StudentSwaps$Bounds", "<init>", "()V"⟩, prog_3_method_1_code, 1, none, 0, 1189),
  (0, ⟨"StudentSwaps", "land", "(III)Z"⟩, prog_1_method_2_code, 4, (Option.some FieldType.boolean), 3, 2067),
  (0, ⟨"StudentSwaps", "isIn", "(III)Z"⟩, prog_1_method_34_code, 3, (Option.some FieldType.boolean), 3, 2070),
  (0, ⟨"StudentSwaps", "had", "(III)Z"⟩, prog_1_method_3_code, 4, (Option.some FieldType.boolean), 3, 2074),
  (1, ⟨"StudentSwaps$Scales", "setHad", "(III)Z"⟩, prog_8_method_3_code, 4, (Option.some FieldType.boolean), 3, 2078),
  (1, ⟨"StudentSwaps$Scales", "isMark", "(II)Z"⟩, prog_8_method_2_code, 3, (Option.some FieldType.boolean), 2, 2082),
  (0, ⟨"StudentSwaps", "turn", "(IIII)I"⟩, prog_1_method_4_code, 5, (Option.some FieldType.int), 4, 2087),
  (1, ⟨"StudentSwaps$Scales", "canTurn", "(II)Z"⟩, prog_8_method_4_code, 3, (Option.some FieldType.boolean), 2, 2092),
  (1, ⟨"StudentSwaps$Scales", "below", "(II)I"⟩, prog_8_method_9_code, 5, (Option.some FieldType.int), 2, 2096),
  (1, ⟨"StudentSwaps$Scales", "turned", "(III)I"⟩, prog_8_method_5_code, 8, (Option.some FieldType.int), 3, 2100),
  (1, ⟨"StudentSwaps$Scales", "leastDoubt", "(III)I"⟩, prog_8_method_6_code, 5, (Option.some FieldType.int), 3, 2104),
  (1, ⟨"StudentSwaps$Scales", "isShared", "(IIII)Z"⟩, prog_8_method_8_code, 7, (Option.some FieldType.boolean), 4, 2108),
  (1, ⟨"StudentSwaps$Scales", "greatestDoubt", "(III)I"⟩, prog_8_method_7_code, 5, (Option.some FieldType.int), 3, 2113),
  (0, ⟨"StudentSwaps", "school", "(IIIIIII)I"⟩, prog_1_method_5_code, 10, (Option.some FieldType.int), 7, 2117),
  (0, ⟨"StudentSwaps", "isDay", "(I)Z"⟩, prog_1_method_35_code, 1, (Option.some FieldType.boolean), 1, 2120),
  (6, ⟨"java/util/ArrayList", "size", "()I"⟩, prog_27_method_8_code, 1, (Option.some FieldType.int), 0, 2131),
  (9, ⟨"StudentSwaps$School", "<init>", "(IIIIII)V"⟩, prog_9_method_1_code, 7, none, 6, 2136),
  (6, ⟨"java/util/ArrayList", "add", "(Ljava/lang/Object;)Z"⟩, prog_27_method_25_code, 2, (Option.some FieldType.boolean), 1, 2177),
  (6, ⟨"java/util/ArrayList", "add", "(Ljava/lang/Object;[Ljava/lang/Object;I)V"⟩, prog_27_method_24_code, 4, none, 3, 2181),
  (6, ⟨"java/util/ArrayList", "grow", "()[Ljava/lang/Object;"⟩, prog_27_method_7_code, 1, (Option.some (FieldType.array (FieldType.object "java/lang/Object"))), 0, 2185),
  (6, ⟨"java/util/ArrayList", "grow", "(I)[Ljava/lang/Object;"⟩, prog_27_method_6_code, 4, (Option.some (FieldType.array (FieldType.object "java/lang/Object"))), 1, 2189),
  (18, ⟨"jdk/internal/util/ArraysSupport", "newLength", "(III)I"⟩, prog_34_method_27_code, 4, (Option.some FieldType.int), 3, 2192),
  (19, ⟨"java/lang/Math", "max", "(II)I"⟩, prog_20_method_65_code, 2, (Option.some FieldType.int), 2, 2195),
  (18, ⟨"jdk/internal/util/ArraysSupport", "hugeLength", "(II)I"⟩, prog_34_method_28_code, 3, (Option.some FieldType.int), 2, 2199),
  (15, ⟨"java/util/Arrays", "copyOf", "([Ljava/lang/Object;I)[Ljava/lang/Object;"⟩, prog_28_method_119_code, 2, (Option.some (FieldType.array (FieldType.object "java/lang/Object"))), 2, 2202),
  (15, ⟨"java/util/Arrays", "copyOf", "([Ljava/lang/Object;ILjava/lang/Class;)[Ljava/lang/Object;"⟩, prog_28_method_120_code, 4, (Option.some (FieldType.array (FieldType.object "java/lang/Object"))), 3, 2223),
  (19, ⟨"java/lang/Math", "min", "(II)I"⟩, prog_20_method_69_code, 2, (Option.some FieldType.int), 2, 2229),
  (0, ⟨"StudentSwaps", "beds", "(II)Z"⟩, prog_1_method_6_code, 4, (Option.some FieldType.boolean), 2, 2238),
  (0, ⟨"StudentSwaps", "schoolAt", "(I)LStudentSwaps$School;"⟩, prog_1_method_36_code, 2, (Option.some (FieldType.object "StudentSwaps$School")), 1, 3002),
  (6, ⟨"java/util/ArrayList", "get", "(I)Ljava/lang/Object;"⟩, prog_27_method_20_code, 2, (Option.some (FieldType.object "java/lang/Object")), 1, 3011),
  (20, ⟨"java/util/Objects", "checkIndex", "(II)I"⟩, prog_31_method_17_code, 2, (Option.some FieldType.int), 2, 3014),
  (21, ⟨"jdk/internal/util/Preconditions", "checkIndex", "(IILjava/util/function/BiFunction;)I"⟩, prog_35_method_11_code, 3, (Option.some FieldType.int), 3, 3017),
  (6, ⟨"java/util/ArrayList", "elementData", "(I)Ljava/lang/Object;"⟩, prog_27_method_18_code, 2, (Option.some (FieldType.object "java/lang/Object")), 1, 3021),
  (0, ⟨"StudentSwaps", "feed", "(IIIII)I"⟩, prog_1_method_7_code, 6, (Option.some FieldType.int), 5, 3025),
  (2, ⟨"StudentSwaps$Tape", "hasRoom", "()Z"⟩, prog_11_method_2_code, 1, (Option.some FieldType.boolean), 0, 3029),
  (2, ⟨"StudentSwaps$Tape", "append", "(I)V"⟩, prog_11_method_3_code, 3, none, 1, 3033),
  (0, ⟨"StudentSwaps", "agreement", "(III)I"⟩, prog_1_method_8_code, 5, (Option.some FieldType.int), 3, 3037),
  (3, ⟨"StudentSwaps$TextReader", "readText", "([II)I"⟩, prog_12_method_2_code, 4, (Option.some FieldType.int), 2, 3041),
  (3, ⟨"StudentSwaps$TextReader", "readClause", "()V"⟩, prog_12_method_4_code, 2, none, 0, 3046),
  (3, ⟨"StudentSwaps$TextReader", "peek", "()I"⟩, prog_12_method_11_code, 1, (Option.some FieldType.int), 0, 3050),
  (3, ⟨"StudentSwaps$TextReader", "readBracket", "(I)V"⟩, prog_12_method_5_code, 2, none, 1, 3054),
  (3, ⟨"StudentSwaps$TextReader", "fail", "(II)V"⟩, prog_12_method_14_code, 3, none, 2, 3058),
  (3, ⟨"StudentSwaps$TextReader", "expect", "(C)V"⟩, prog_12_method_12_code, 2, none, 1, 3062),
  (3, ⟨"StudentSwaps$TextReader", "readExpression", "(I)V"⟩, prog_12_method_6_code, 3, none, 1, 3066),
  (3, ⟨"StudentSwaps$TextReader", "readTerm", "(I)V"⟩, prog_12_method_7_code, 3, none, 1, 3070),
  (3, ⟨"StudentSwaps$TextReader", "readFactor", "(I)V"⟩, prog_12_method_8_code, 4, none, 1, 3074),
  (3, ⟨"StudentSwaps$TextReader", "readComparison", "()V"⟩, prog_12_method_9_code, 4, none, 0, 3078),
  (3, ⟨"StudentSwaps$TextReader", "expectOneOf", "(Ljava/lang/String;)I"⟩, prog_12_method_13_code, 4, (Option.some FieldType.int), 1, 3083),
  (22, ⟨"java/lang/String", "indexOf", "(I)I"⟩, prog_21_method_79_code, 2, (Option.some FieldType.int), 1, 3087),
  (22, ⟨"java/lang/String", "indexOf", "(II)I"⟩, prog_21_method_80_code, 3, (Option.some FieldType.int), 2, 3091),
  (22, ⟨"java/lang/String", "isLatin1", "()Z"⟩, prog_21_method_154_code, 1, (Option.some FieldType.boolean), 0, 3095),
  (22, ⟨"java/lang/String", "length", "()I"⟩, prog_21_method_54_code, 1, (Option.some FieldType.int), 0, 3101),
  (22, ⟨"java/lang/String", "coder", "()B"⟩, prog_21_method_152_code, 1, (Option.some FieldType.byte), 0, 3105),
  (23, ⟨"java/lang/StringLatin1", "indexOf", "([BIII)I"⟩, prog_22_method_22_code, 4, (Option.some FieldType.int), 4, 3108),
  (23, ⟨"java/lang/StringLatin1", "canEncode", "(I)Z"⟩, prog_22_method_4_code, 1, (Option.some FieldType.boolean), 1, 3111),
  (23, ⟨"java/lang/StringLatin1", "indexOfChar", "([BIII)I"⟩, prog_22_method_23_code, 6, (Option.some FieldType.int), 4, 3116),
  (24, ⟨"java/lang/StringUTF16", "indexOf", "([BIII)I"⟩, prog_23_method_40_code, 4, (Option.some FieldType.int), 4, 3119),
  (24, ⟨"java/lang/StringUTF16", "indexOfChar", "([BIII)I"⟩, prog_23_method_47_code, 4, (Option.some FieldType.int), 4, 3125),
  (24, ⟨"java/lang/StringUTF16", "checkBoundsBeginEnd", "(II[B)V"⟩, prog_23_method_93_code, 3, none, 3, 3128),
  (24, ⟨"java/lang/StringUTF16", "length", "([B)I"⟩, prog_23_method_6_code, 1, (Option.some FieldType.int), 1, 3131),
  (22, ⟨"java/lang/String", "checkBoundsBeginEnd", "(III)V"⟩, prog_21_method_158_code, 3, none, 3, 3134),
  (21, ⟨"jdk/internal/util/Preconditions", "checkFromToIndex", "(IIILjava/util/function/BiFunction;)I"⟩, prog_35_method_12_code, 4, (Option.some FieldType.int), 4, 3139),
  (24, ⟨"java/lang/StringUTF16", "indexOfCharUnsafe", "([BIII)I"⟩, prog_23_method_48_code, 5, (Option.some FieldType.int), 4, 3142),
  (24, ⟨"java/lang/StringUTF16", "getChar", "([BI)C"⟩, prog_23_method_5_code, 2, (Option.some FieldType.char), 2, 3145),
  (24, ⟨"java/lang/StringUTF16", "indexOfSupplementary", "([BIII)I"⟩, prog_23_method_49_code, 7, (Option.some FieldType.int), 4, 3154),
  (25, ⟨"java/lang/Character", "isValidCodePoint", "(I)Z"⟩, prog_16_method_11_code, 2, (Option.some FieldType.boolean), 1, 3157),
  (25, ⟨"java/lang/Character", "highSurrogate", "(I)C"⟩, prog_16_method_28_code, 1, (Option.some FieldType.char), 1, 3160),
  (25, ⟨"java/lang/Character", "lowSurrogate", "(I)C"⟩, prog_16_method_29_code, 1, (Option.some FieldType.char), 1, 3164),
  (3, ⟨"StudentSwaps$TextReader", "readNumber", "(II)I"⟩, prog_12_method_10_code, 5, (Option.some FieldType.int), 2, 3170),
  (3, ⟨"StudentSwaps$TextReader", "put", "(I)V"⟩, prog_12_method_15_code, 2, none, 1, 3176),
  (10, ⟨"StudentSwaps$Agreement", "<init>", "(IILStudentSwaps$TextReader;)V"⟩, prog_2_method_1_code, 4, none, 3, 3182),
  (3, ⟨"StudentSwaps$TextReader", "codes", "()[I"⟩, prog_12_method_3_code, 1, (Option.some (FieldType.array FieldType.int)), 0, 3187),
  (15, ⟨"java/util/Arrays", "copyOf", "([II)[I"⟩, prog_28_method_123_code, 3, (Option.some (FieldType.array FieldType.int)), 2, 3191),
  (0, ⟨"StudentSwaps", "meets", "(IIIII)I"⟩, prog_1_method_9_code, 7, (Option.some FieldType.int), 5, 4000),
  (0, ⟨"StudentSwaps", "agreementAt", "(I)LStudentSwaps$Agreement;"⟩, prog_1_method_37_code, 2, (Option.some (FieldType.object "StudentSwaps$Agreement")), 1, 4004),
  (10, ⟨"StudentSwaps$Agreement", "subjectsThatMeet", "(III)I"⟩, prog_2_method_5_code, 7, (Option.some FieldType.int), 3, 4008),
  (10, ⟨"StudentSwaps$Agreement", "compared", "(IIII)I"⟩, prog_2_method_7_code, 6, (Option.some FieldType.int), 4, 4011),
  (10, ⟨"StudentSwaps$Agreement", "holds", "(III)Z"⟩, prog_2_method_9_code, 3, (Option.some FieldType.boolean), 3, 4014),
  (10, ⟨"StudentSwaps$Agreement", "comparedSubjects", "(II)I"⟩, prog_2_method_8_code, 5, (Option.some FieldType.int), 2, 4017),
  (0, ⟨"StudentSwaps", "terms", "(III)I"⟩, prog_1_method_10_code, 6, (Option.some FieldType.int), 3, 4021),
  (4, ⟨"StudentSwaps$Grid", "haveCommon", "(LStudentSwaps$Agreement;LStudentSwaps$Agreement;)Z"⟩, prog_6_method_2_code, 3, (Option.some FieldType.boolean), 2, 4025),
  (4, ⟨"StudentSwaps$Grid", "finds", "(LStudentSwaps$Agreement;LStudentSwaps$Agreement;Z)Z"⟩, prog_6_method_4_code, 5, (Option.some FieldType.boolean), 3, 4029),
  (4, ⟨"StudentSwaps$Grid", "markEdges", "([I)V"⟩, prog_6_method_6_code, 5, none, 1, 4034),
  (4, ⟨"StudentSwaps$Grid", "markEdge", "(II)V"⟩, prog_6_method_7_code, 3, none, 2, 4038),
  (4, ⟨"StudentSwaps$Grid", "findsAtGrade", "(LStudentSwaps$Agreement;LStudentSwaps$Agreement;ZI)Z"⟩, prog_6_method_5_code, 9, (Option.some FieldType.boolean), 4, 4043),
  (4, ⟨"StudentSwaps$Grid", "isBeyond", "(LStudentSwaps$Agreement;LStudentSwaps$Agreement;)Z"⟩, prog_6_method_3_code, 3, (Option.some FieldType.boolean), 2, 4048),
  (10, ⟨"StudentSwaps$Agreement", "isBeside", "(LStudentSwaps$Agreement;)Z"⟩, prog_2_method_4_code, 2, (Option.some FieldType.boolean), 1, 4052),
  (10, ⟨"StudentSwaps$Agreement", "isBetween", "(II)Z"⟩, prog_2_method_3_code, 3, (Option.some FieldType.boolean), 2, 4056),
  (0, ⟨"StudentSwaps", "student", "(IIIII)I"⟩, prog_1_method_11_code, 6, (Option.some FieldType.int), 5, 4060),
  (11, ⟨"StudentSwaps$Student", "<init>", "(IIIII)V"⟩, prog_10_method_1_code, 6, none, 5, 4065),
  (0, ⟨"StudentSwaps", "level", "(III)Z"⟩, prog_1_method_12_code, 5, (Option.some FieldType.boolean), 3, 4114),
  (0, ⟨"StudentSwaps", "studentAt", "(I)LStudentSwaps$Student;"⟩, prog_1_method_38_code, 2, (Option.some (FieldType.object "StudentSwaps$Student")), 1, 4118),
  (0, ⟨"StudentSwaps", "wish", "(II)Z"⟩, prog_1_method_13_code, 4, (Option.some FieldType.boolean), 2, 4122),
  (11, ⟨"StudentSwaps$Student", "addWish", "(I)Z"⟩, prog_10_method_4_code, 3, (Option.some FieldType.boolean), 1, 4126),
  (11, ⟨"StudentSwaps$Student", "wishAt", "(I)I"⟩, prog_10_method_3_code, 2, (Option.some FieldType.int), 1, 4130),
  (0, ⟨"StudentSwaps", "may", "(II)I"⟩, prog_1_method_14_code, 4, (Option.some FieldType.int), 2, 4134),
  (0, ⟨"StudentSwaps", "agreementTo", "(LStudentSwaps$Student;I)I"⟩, prog_1_method_39_code, 7, (Option.some FieldType.int), 2, 4138),
  (11, ⟨"StudentSwaps$Student", "levelOf", "(I)I"⟩, prog_10_method_2_code, 2, (Option.some FieldType.int), 1, 4142),
  (10, ⟨"StudentSwaps$Agreement", "isInForce", "(I)Z"⟩, prog_2_method_2_code, 2, (Option.some FieldType.boolean), 1, 4148),
  (0, ⟨"StudentSwaps", "round", "()I"⟩, prog_1_method_15_code, 1, (Option.some FieldType.int), 0, 4154),
  (0, ⟨"StudentSwaps", "preparePlan", "(IZ)V"⟩, prog_1_method_40_code, 6, none, 2, 4158),
  (7, ⟨"StudentSwaps$Plan", "clear", "()V"⟩, prog_7_method_2_code, 1, none, 0, 4162),
  (8, ⟨"StudentSwaps$Bounds", "clear", "()V"⟩, prog_3_method_2_code, 1, none, 0, 4166),
  (0, ⟨"StudentSwaps", "setBounds", "()V"⟩, prog_1_method_41_code, 3, none, 0, 4171),
  (8, ⟨"StudentSwaps$Bounds", "setBeds", "(II)V"⟩, prog_3_method_3_code, 3, none, 2, 4175),
  (8, ⟨"StudentSwaps$Bounds", "setAgreement", "(III)V"⟩, prog_3_method_4_code, 4, none, 3, 4179),
  (0, ⟨"StudentSwaps", "addToPlan", "(ILStudentSwaps$Student;Z)V"⟩, prog_1_method_42_code, 9, none, 3, 4183),
  (11, ⟨"StudentSwaps$Student", "host", "()I"⟩, prog_10_method_5_code, 1, (Option.some FieldType.int), 0, 4187),
  (7, ⟨"StudentSwaps$Plan", "addStudent", "(I)V"⟩, prog_7_method_3_code, 2, none, 1, 4191),
  (0, ⟨"StudentSwaps", "wayOf", "(II)I"⟩, prog_1_method_43_code, 4, (Option.some FieldType.int), 2, 4196),
  (7, ⟨"StudentSwaps$Plan", "addOption", "(IIIII)V"⟩, prog_7_method_4_code, 6, none, 5, 4200),
  (7, ⟨"StudentSwaps$Plan", "putOption", "(IIIII)V"⟩, prog_7_method_6_code, 8, none, 5, 4206),
  (7, ⟨"StudentSwaps$Plan", "addNothing", "(I)V"⟩, prog_7_method_5_code, 2, none, 1, 4210),
  (8, ⟨"StudentSwaps$Bounds", "addGuests", "(IIII)V"⟩, prog_3_method_5_code, 5, none, 4, 4214),
  (8, ⟨"StudentSwaps$Bounds", "addToBalance", "(III)V"⟩, prog_3_method_6_code, 4, none, 3, 4218),
  (7, ⟨"StudentSwaps$Plan", "isFound", "()Z"⟩, prog_7_method_7_code, 1, (Option.some FieldType.boolean), 0, 4222),
  (7, ⟨"StudentSwaps$Plan", "measureLeft", "()V"⟩, prog_7_method_12_code, 5, none, 0, 4226),
  (7, ⟨"StudentSwaps$Plan", "addLeft", "(III)V"⟩, prog_7_method_13_code, 4, none, 3, 4234),
  (8, ⟨"StudentSwaps$Bounds", "areNumbersKept", "()Z"⟩, prog_3_method_8_code, 2, (Option.some FieldType.boolean), 0, 4238),
  (7, ⟨"StudentSwaps$Plan", "search", "(II)V"⟩, prog_7_method_14_code, 4, none, 2, 5002),
  (8, ⟨"StudentSwaps$Bounds", "canBalance", "([I[I)Z"⟩, prog_3_method_9_code, 4, (Option.some FieldType.boolean), 2, 5006),
  (8, ⟨"StudentSwaps$Bounds", "hasRoom", "(III)Z"⟩, prog_3_method_7_code, 5, (Option.some FieldType.boolean), 3, 5014),
  (0, ⟨"StudentSwaps", "carryOutPlan", "()I"⟩, prog_1_method_44_code, 6, (Option.some FieldType.int), 0, 5019),
  (7, ⟨"StudentSwaps$Plan", "studentOf", "(I)I"⟩, prog_7_method_8_code, 2, (Option.some FieldType.int), 1, 5023),
  (7, ⟨"StudentSwaps$Plan", "wishOf", "(I)I"⟩, prog_7_method_9_code, 2, (Option.some FieldType.int), 1, 5027),
  (7, ⟨"StudentSwaps$Plan", "isChoice", "(I)Z"⟩, prog_7_method_11_code, 2, (Option.some FieldType.boolean), 1, 5031),
  (7, ⟨"StudentSwaps$Plan", "agreementOf", "(I)I"⟩, prog_7_method_10_code, 2, (Option.some FieldType.int), 1, 5035),
  (11, ⟨"StudentSwaps$Student", "settle", "(II)V"⟩, prog_10_method_6_code, 3, none, 2, 5039),
  (5, ⟨"StudentSwaps$Facts", "forget", "(I)V"⟩, prog_5_method_4_code, 3, none, 1, 5043),
  (0, ⟨"StudentSwaps", "out", "(I)Z"⟩, prog_1_method_16_code, 3, (Option.some FieldType.boolean), 1, 5047),
  (0, ⟨"StudentSwaps", "mend", "()I"⟩, prog_1_method_17_code, 1, (Option.some FieldType.int), 0, 5051),
  (0, ⟨"StudentSwaps", "kept", "()I"⟩, prog_1_method_18_code, 1, (Option.some FieldType.int), 0, 5055),
  (0, ⟨"StudentSwaps", "balance", "(I)I"⟩, prog_1_method_19_code, 2, (Option.some FieldType.int), 1, 5059),
  (0, ⟨"StudentSwaps", "balanceOf", "(I)I"⟩, prog_1_method_45_code, 5, (Option.some FieldType.int), 1, 5063),
  (0, ⟨"StudentSwaps", "course", "(IIIII)I"⟩, prog_1_method_20_code, 7, (Option.some FieldType.int), 5, 5067),
  (12, ⟨"StudentSwaps$Course", "<init>", "(IIII)V"⟩, prog_4_method_1_code, 5, none, 4, 5073),
  (0, ⟨"StudentSwaps", "cancel", "(IIZ)Z"⟩, prog_1_method_21_code, 6, (Option.some FieldType.boolean), 3, 5100),
  (0, ⟨"StudentSwaps", "study", "(III)I"⟩, prog_1_method_22_code, 7, (Option.some FieldType.int), 3, 5104),
  (9, ⟨"StudentSwaps$School", "bestSet", "(II)I"⟩, prog_9_method_4_code, 6, (Option.some FieldType.int), 2, 5108),
  (9, ⟨"StudentSwaps$School", "canBeStudied", "(II)Z"⟩, prog_9_method_8_code, 6, (Option.some FieldType.boolean), 2, 5115),
  (9, ⟨"StudentSwaps$School", "hasCourse", "(II)Z"⟩, prog_9_method_7_code, 2, (Option.some FieldType.boolean), 2, 5118),
  (9, ⟨"StudentSwaps$School", "creditsOf", "(I)I"⟩, prog_9_method_5_code, 4, (Option.some FieldType.int), 1, 5125),
  (9, ⟨"StudentSwaps$School", "isBetter", "(III)Z"⟩, prog_9_method_9_code, 5, (Option.some FieldType.boolean), 3, 5129),
  (9, ⟨"StudentSwaps$School", "topicsOf", "(I)I"⟩, prog_9_method_6_code, 4, (Option.some FieldType.int), 1, 5133),
  (26, ⟨"java/lang/Integer", "bitCount", "(I)I"⟩, prog_18_method_49_code, 1, (Option.some FieldType.int), 1, 5136),
  (0, ⟨"StudentSwaps", "fact", "(IIII)Z"⟩, prog_1_method_23_code, 6, (Option.some FieldType.boolean), 4, 5145),
  (5, ⟨"StudentSwaps$Facts", "tell", "(IIII)Z"⟩, prog_5_method_2_code, 5, (Option.some FieldType.boolean), 4, 5149),
  (0, ⟨"StudentSwaps", "known", "(III)I"⟩, prog_1_method_24_code, 4, (Option.some FieldType.int), 3, 5153),
  (5, ⟨"StudentSwaps$Facts", "dayOf", "(III)I"⟩, prog_5_method_3_code, 5, (Option.some FieldType.int), 3, 5157),
  (0, ⟨"StudentSwaps", "visa", "(II)I"⟩, prog_1_method_25_code, 6, (Option.some FieldType.int), 2, 5162),
  (0, ⟨"StudentSwaps", "visaInTime", "(LStudentSwaps$School;II)I"⟩, prog_1_method_50_code, 4, (Option.some FieldType.int), 3, 5166),
  (0, ⟨"StudentSwaps", "there", "(III)I"⟩, prog_1_method_26_code, 5, (Option.some FieldType.int), 3, 5170),
  (0, ⟨"StudentSwaps", "countGuests", "(ILStudentSwaps$School;I)V"⟩, prog_1_method_54_code, 7, none, 3, 5174),
  (0, ⟨"StudentSwaps", "dayBehindLastThere", "(ILStudentSwaps$School;I)I"⟩, prog_1_method_52_code, 5, (Option.some FieldType.int), 3, 5178),
  (0, ⟨"StudentSwaps", "firstDayThere", "(ILStudentSwaps$School;I)I"⟩, prog_1_method_51_code, 5, (Option.some FieldType.int), 3, 5183),
  (0, ⟨"StudentSwaps", "counts", "(III)I"⟩, prog_1_method_27_code, 9, (Option.some FieldType.int), 3, 5188),
  (0, ⟨"StudentSwaps", "daysThere", "(ILStudentSwaps$School;I)I"⟩, prog_1_method_53_code, 4, (Option.some FieldType.int), 3, 5192),
  (9, ⟨"StudentSwaps$School", "termDays", "()I"⟩, prog_9_method_2_code, 1, (Option.some FieldType.int), 0, 5196),
  (9, ⟨"StudentSwaps$School", "partOf", "(II)I"⟩, prog_9_method_3_code, 4, (Option.some FieldType.int), 2, 5200),
  (0, ⟨"StudentSwaps", "crowded", "(II)I"⟩, prog_1_method_28_code, 5, (Option.some FieldType.int), 2, 5205),
  (0, ⟨"StudentSwaps", "year", "()I"⟩, prog_1_method_29_code, 2, (Option.some FieldType.int), 0, 5209),
  (11, ⟨"StudentSwaps$Student", "endYear", "()V"⟩, prog_10_method_7_code, 1, none, 0, 5213),
  (5, ⟨"StudentSwaps$Facts", "clear", "()V"⟩, prog_5_method_5_code, 1, none, 0, 5217),
  (0, ⟨"StudentSwaps", "owed", "(I)J"⟩, prog_1_method_30_code, 8, (Option.some FieldType.long), 1, 5221),
  (0, ⟨"StudentSwaps", "look", "(II)I"⟩, prog_1_method_31_code, 4, (Option.some FieldType.int), 2, 5225),
  (11, ⟨"StudentSwaps$Student", "placeShown", "(I)I"⟩, prog_10_method_8_code, 2, (Option.some FieldType.int), 1, 5229),
  (11, ⟨"StudentSwaps$Student", "selfShown", "(I)I"⟩, prog_10_method_9_code, 2, (Option.some FieldType.int), 1, 5234),
  (0, ⟨"StudentSwaps", "about", "(II)I"⟩, prog_1_method_32_code, 4, (Option.some FieldType.int), 2, 5238),
  (0, ⟨"StudentSwaps", "placedBy", "(I)I"⟩, prog_1_method_46_code, 5, (Option.some FieldType.int), 1, 6002),
  (10, ⟨"StudentSwaps$Agreement", "shown", "(I)I"⟩, prog_2_method_6_code, 2, (Option.some FieldType.int), 1, 6006),
  (0, ⟨"StudentSwaps", "count", "(I)I"⟩, prog_1_method_33_code, 2, (Option.some FieldType.int), 1, 6010),
  (0, ⟨"StudentSwaps", "inState", "(I)I"⟩, prog_1_method_48_code, 4, (Option.some FieldType.int), 1, 6014),
  (0, ⟨"StudentSwaps", "shownOfSchool", "(II)I"⟩, prog_1_method_49_code, 4, (Option.some FieldType.int), 2, 6018),
  (0, ⟨"StudentSwaps", "placedAt", "(I)I"⟩, prog_1_method_47_code, 4, (Option.some FieldType.int), 1, 6022),
  (13, ⟨"StudentSwapsModel", "<init>", "()V"⟩, prog_14_method_1_code, 2, none, 0, 6027),
  (13, ⟨"StudentSwapsModel", "land", "(III)Z"⟩, prog_14_method_3_code, 4, (Option.some FieldType.boolean), 3, 7040),
  (13, ⟨"StudentSwapsModel", "in", "(III)Z"⟩, prog_14_method_2_code, 3, (Option.some FieldType.boolean), 3, 7043),
  (13, ⟨"StudentSwapsModel", "had", "(III)Z"⟩, prog_14_method_4_code, 4, (Option.some FieldType.boolean), 3, 7047),
  (13, ⟨"StudentSwapsModel", "turn", "(IIII)I"⟩, prog_14_method_9_code, 8, (Option.some FieldType.int), 4, 7051),
  (13, ⟨"StudentSwapsModel", "allOf", "(I)I"⟩, prog_14_method_6_code, 2, (Option.some FieldType.int), 1, 7055),
  (13, ⟨"StudentSwapsModel", "below", "(II)I"⟩, prog_14_method_5_code, 5, (Option.some FieldType.int), 2, 7059),
  (13, ⟨"StudentSwapsModel", "turned", "(III)I"⟩, prog_14_method_7_code, 8, (Option.some FieldType.int), 3, 7063),
  (13, ⟨"StudentSwapsModel", "overlaps", "(IIII)Z"⟩, prog_14_method_8_code, 9, (Option.some FieldType.boolean), 4, 7067),
  (13, ⟨"StudentSwapsModel", "school", "(IIIIIII)I"⟩, prog_14_method_11_code, 8, (Option.some FieldType.int), 7, 7071),
  (13, ⟨"StudentSwapsModel", "beds", "(II)Z"⟩, prog_14_method_12_code, 3, (Option.some FieldType.boolean), 2, 7076),
  (13, ⟨"StudentSwapsModel", "isSchool", "(I)Z"⟩, prog_14_method_10_code, 2, (Option.some FieldType.boolean), 1, 7080),
  (13, ⟨"StudentSwapsModel", "feed", "(IIIII)I"⟩, prog_14_method_14_code, 6, (Option.some FieldType.int), 5, 7084),
  (13, ⟨"StudentSwapsModel", "types", "(I)V"⟩, prog_14_method_13_code, 3, none, 1, 7088),
  (13, ⟨"StudentSwapsModel", "agreement", "(III)I"⟩, prog_14_method_26_code, 6, (Option.some FieldType.int), 3, 7092),
  (13, ⟨"StudentSwapsModel", "readsClause", "()Z"⟩, prog_14_method_25_code, 3, (Option.some FieldType.boolean), 0, 7096),
  (13, ⟨"StudentSwapsModel", "sign", "()I"⟩, prog_14_method_15_code, 1, (Option.some FieldType.int), 0, 7100),
  (13, ⟨"StudentSwapsModel", "readsExpression", "()Z"⟩, prog_14_method_24_code, 5, (Option.some FieldType.boolean), 0, 7104),
  (13, ⟨"StudentSwapsModel", "wrong", "(II)Z"⟩, prog_14_method_17_code, 3, (Option.some FieldType.boolean), 2, 7108),
  (13, ⟨"StudentSwapsModel", "holds", "(I)V"⟩, prog_14_method_20_code, 2, none, 1, 7113),
  (13, ⟨"StudentSwapsModel", "letterOf", "(I)I"⟩, prog_14_method_23_code, 1, (Option.some FieldType.int), 1, 7117),
  (13, ⟨"StudentSwapsModel", "readsNumber", "(II)Z"⟩, prog_14_method_18_code, 4, (Option.some FieldType.boolean), 2, 7121),
  (13, ⟨"StudentSwapsModel", "isDigit", "()Z"⟩, prog_14_method_16_code, 1, (Option.some FieldType.boolean), 0, 7125),
  (13, ⟨"StudentSwapsModel", "says", "(I)V"⟩, prog_14_method_19_code, 2, none, 1, 7130),
  (13, ⟨"StudentSwapsModel", "closes", "(I)V"⟩, prog_14_method_21_code, 2, none, 1, 7134),
  (13, ⟨"StudentSwapsModel", "binds", "(I)I"⟩, prog_14_method_22_code, 1, (Option.some FieldType.int), 1, 7137),
  (13, ⟨"StudentSwapsModel", "meets", "(IIIII)I"⟩, prog_14_method_29_code, 6, (Option.some FieldType.int), 5, 7143),
  (13, ⟨"StudentSwapsModel", "isAgreement", "(I)Z"⟩, prog_14_method_27_code, 2, (Option.some FieldType.boolean), 1, 7147),
  (13, ⟨"StudentSwapsModel", "isMet", "(IIIII)Z"⟩, prog_14_method_28_code, 13, (Option.some FieldType.boolean), 5, 7151),
  (13, ⟨"StudentSwapsModel", "terms", "(III)I"⟩, prog_14_method_35_code, 4, (Option.some FieldType.int), 3, 7155),
  (13, ⟨"StudentSwapsModel", "isSome", "(IIZ)Z"⟩, prog_14_method_33_code, 12, (Option.some FieldType.boolean), 3, 7159),
  (13, ⟨"StudentSwapsModel", "marks", "(II)V"⟩, prog_14_method_31_code, 4, none, 2, 7163),
  (13, ⟨"StudentSwapsModel", "mostOfLetter", "(I)I"⟩, prog_14_method_30_code, 1, (Option.some FieldType.int), 1, 7166),
  (13, ⟨"StudentSwapsModel", "bordersOf", "(I)V"⟩, prog_14_method_32_code, 4, none, 1, 7170),
  (13, ⟨"StudentSwapsModel", "areOfOne", "(II)Z"⟩, prog_14_method_34_code, 4, (Option.some FieldType.boolean), 2, 7174),
  (13, ⟨"StudentSwapsModel", "student", "(IIIII)I"⟩, prog_14_method_37_code, 7, (Option.some FieldType.int), 5, 7178),
  (13, ⟨"StudentSwapsModel", "level", "(III)Z"⟩, prog_14_method_38_code, 4, (Option.some FieldType.boolean), 3, 7182),
  (13, ⟨"StudentSwapsModel", "isStudent", "(I)Z"⟩, prog_14_method_36_code, 2, (Option.some FieldType.boolean), 1, 7186),
  (13, ⟨"StudentSwapsModel", "wish", "(II)Z"⟩, prog_14_method_41_code, 3, (Option.some FieldType.boolean), 2, 7190),
  (13, ⟨"StudentSwapsModel", "wishAt", "(II)I"⟩, prog_14_method_40_code, 4, (Option.some FieldType.int), 2, 7194),
  (13, ⟨"StudentSwapsModel", "may", "(II)I"⟩, prog_14_method_44_code, 3, (Option.some FieldType.int), 2, 7198),
  (13, ⟨"StudentSwapsModel", "mayBy", "(II)I"⟩, prog_14_method_43_code, 5, (Option.some FieldType.int), 2, 7202),
  (13, ⟨"StudentSwapsModel", "isInForce", "(I)Z"⟩, prog_14_method_42_code, 2, (Option.some FieldType.boolean), 1, 7206),
  (13, ⟨"StudentSwapsModel", "levelIn", "(II)I"⟩, prog_14_method_39_code, 4, (Option.some FieldType.int), 2, 7210),
  (13, ⟨"StudentSwapsModel", "kept", "()I"⟩, prog_14_method_49_code, 1, (Option.some FieldType.int), 0, 7214),
  (13, ⟨"StudentSwapsModel", "areKept", "()Z"⟩, prog_14_method_48_code, 3, (Option.some FieldType.boolean), 0, 7218),
  (13, ⟨"StudentSwapsModel", "balanceOf", "(I)I"⟩, prog_14_method_45_code, 4, (Option.some FieldType.int), 1, 7222),
  (13, ⟨"StudentSwapsModel", "goingFrom", "(II)I"⟩, prog_14_method_46_code, 5, (Option.some FieldType.int), 2, 7226),
  (13, ⟨"StudentSwapsModel", "placedIn", "(I)I"⟩, prog_14_method_47_code, 4, (Option.some FieldType.int), 1, 7230),
  (13, ⟨"StudentSwapsModel", "balance", "(I)I"⟩, prog_14_method_50_code, 2, (Option.some FieldType.int), 1, 7234),
  (13, ⟨"StudentSwapsModel", "round", "()I"⟩, prog_14_method_60_code, 3, (Option.some FieldType.int), 0, 7238),
  (13, ⟨"StudentSwapsModel", "plans", "(Z)Z"⟩, prog_14_method_58_code, 8, (Option.some FieldType.boolean), 1, 8002),
  (13, ⟨"StudentSwapsModel", "begins", "(Z)V"⟩, prog_14_method_51_code, 4, none, 1, 8006),
  (13, ⟨"StudentSwapsModel", "isPlan", "(I)Z"⟩, prog_14_method_54_code, 4, (Option.some FieldType.boolean), 1, 8010),
  (13, ⟨"StudentSwapsModel", "others", "()I"⟩, prog_14_method_55_code, 4, (Option.some FieldType.int), 0, 8014),
  (13, ⟨"StudentSwapsModel", "serves", "()V"⟩, prog_14_method_56_code, 2, none, 0, 8018),
  (13, ⟨"StudentSwapsModel", "isFairer", "()Z"⟩, prog_14_method_57_code, 2, (Option.some FieldType.boolean), 0, 8022),
  (13, ⟨"StudentSwapsModel", "goes", "(II)V"⟩, prog_14_method_52_code, 4, none, 2, 8026),
  (13, ⟨"StudentSwapsModel", "goesBack", "(I)V"⟩, prog_14_method_53_code, 2, none, 1, 8030),
  (13, ⟨"StudentSwapsModel", "does", "()V"⟩, prog_14_method_59_code, 2, none, 0, 8034),
  (13, ⟨"StudentSwapsModel", "forgets", "(I)V"⟩, prog_14_method_70_code, 3, none, 1, 8038),
  (13, ⟨"StudentSwapsModel", "mend", "()I"⟩, prog_14_method_61_code, 1, (Option.some FieldType.int), 0, 8042),
  (13, ⟨"StudentSwapsModel", "out", "(I)Z"⟩, prog_14_method_62_code, 2, (Option.some FieldType.boolean), 1, 8046),
  (13, ⟨"StudentSwapsModel", "course", "(IIIII)I"⟩, prog_14_method_63_code, 7, (Option.some FieldType.int), 5, 8050),
  (13, ⟨"StudentSwapsModel", "cancel", "(IIZ)Z"⟩, prog_14_method_65_code, 4, (Option.some FieldType.boolean), 3, 8055),
  (13, ⟨"StudentSwapsModel", "isCourse", "(II)Z"⟩, prog_14_method_64_code, 3, (Option.some FieldType.boolean), 2, 8059),
  (13, ⟨"StudentSwapsModel", "study", "(III)I"⟩, prog_14_method_69_code, 4, (Option.some FieldType.int), 3, 8063),
  (13, ⟨"StudentSwapsModel", "studies", "(II)V"⟩, prog_14_method_68_code, 5, none, 2, 8067),
  (13, ⟨"StudentSwapsModel", "canTake", "(III)Z"⟩, prog_14_method_66_code, 7, (Option.some FieldType.boolean), 3, 8071),
  (13, ⟨"StudentSwapsModel", "bits", "(I)I"⟩, prog_14_method_67_code, 3, (Option.some FieldType.int), 1, 8074),
  (13, ⟨"StudentSwapsModel", "fact", "(IIII)Z"⟩, prog_14_method_72_code, 5, (Option.some FieldType.boolean), 4, 8078),
  (13, ⟨"StudentSwapsModel", "isDay", "(I)Z"⟩, prog_14_method_71_code, 1, (Option.some FieldType.boolean), 1, 8081),
  (13, ⟨"StudentSwapsModel", "known", "(III)I"⟩, prog_14_method_74_code, 4, (Option.some FieldType.int), 3, 8085),
  (13, ⟨"StudentSwapsModel", "knownOf", "(III)I"⟩, prog_14_method_73_code, 6, (Option.some FieldType.int), 3, 8089),
  (13, ⟨"StudentSwapsModel", "visa", "(II)I"⟩, prog_14_method_75_code, 6, (Option.some FieldType.int), 2, 8093),
  (13, ⟨"StudentSwapsModel", "there", "(III)I"⟩, prog_14_method_78_code, 4, (Option.some FieldType.int), 3, 8097),
  (13, ⟨"StudentSwapsModel", "thereOn", "(III)I"⟩, prog_14_method_77_code, 6, (Option.some FieldType.int), 3, 8101),
  (13, ⟨"StudentSwapsModel", "isThere", "(III)Z"⟩, prog_14_method_76_code, 7, (Option.some FieldType.boolean), 3, 8105),
  (13, ⟨"StudentSwapsModel", "counts", "(III)I"⟩, prog_14_method_79_code, 8, (Option.some FieldType.int), 3, 8109),
  (13, ⟨"StudentSwapsModel", "crowded", "(II)I"⟩, prog_14_method_80_code, 4, (Option.some FieldType.int), 2, 8113),
  (13, ⟨"StudentSwapsModel", "year", "()I"⟩, prog_14_method_81_code, 2, (Option.some FieldType.int), 0, 8117),
  (13, ⟨"StudentSwapsModel", "owed", "(I)J"⟩, prog_14_method_82_code, 7, (Option.some FieldType.long), 1, 8121),
  (13, ⟨"StudentSwapsModel", "look", "(II)I"⟩, prog_14_method_83_code, 4, (Option.some FieldType.int), 2, 8125),
  (13, ⟨"StudentSwapsModel", "lookFar", "(II)I"⟩, prog_14_method_84_code, 3, (Option.some FieldType.int), 2, 8129),
  (13, ⟨"StudentSwapsModel", "about", "(II)I"⟩, prog_14_method_86_code, 3, (Option.some FieldType.int), 2, 8133),
  (13, ⟨"StudentSwapsModel", "placedBy", "(I)I"⟩, prog_14_method_85_code, 4, (Option.some FieldType.int), 1, 8137),
  (13, ⟨"StudentSwapsModel", "count", "(I)I"⟩, prog_14_method_88_code, 2, (Option.some FieldType.int), 1, 8141),
  (13, ⟨"StudentSwapsModel", "with", "(I)I"⟩, prog_14_method_87_code, 4, (Option.some FieldType.int), 1, 8145),
  (7, ⟨"StudentSwaps$Plan", "choose", "(III)V"⟩, prog_7_method_15_code, 7, none, 3, 5010)]
def mm_ft : List (Nat × Nat × Nat × Nat × Nat × Nat) := [(1, 13, 1, 0, 1047, 0), (2, 9, 2, 0, 1058, 0), (0, 145, 2, 0, 1059, 0), (2, 13, 2, 1, 1060, 0), (0, 143, 2, 1, 1061, 0), (3, 9, 3, 0, 1073, 0), (3, 24, 3, 1, 1074, 0), (3, 28, 3, 2, 1075, 0), (3, 31, 3, 3, 1076, 0), (3, 15, 3, 4, 1077, 0), (3, 34, 3, 5, 1078, 0), (10, 18, 3, 6, 1079, 0), (3, 37, 3, 6, 1080, 0), (10, 24, 3, 7, 1081, 0), (3, 40, 3, 7, 1082, 0), (10, 28, 3, 8, 1083, 0), (3, 43, 3, 8, 1084, 0), (10, 32, 3, 9, 1085, 0), (3, 46, 3, 9, 1086, 0), (10, 36, 3, 10, 1087, 0), (3, 49, 3, 10, 1088, 0), (10, 40, 3, 11, 1089, 0), (3, 52, 3, 11, 1090, 0), (4, 13, 4, 0, 1123, 0), (5, 9, 5, 0, 1133, 0), (0, 330, 5, 0, 1134, 0), (5, 15, 5, 1, 1135, 0), (5, 18, 5, 2, 1136, 0), (5, 22, 5, 3, 1137, 0), (5, 25, 5, 4, 1138, 0), (5, 28, 5, 5, 1139, 0), (6, 9, 6, 0, 1167, 0), (6, 48, 6, 1, 1168, 0), (16, 7, 6, 2, 1169, 0), (6, 63, 6, 2, 1170, 1171), (8, 9, 8, 0, 1191, 0), (8, 15, 8, 1, 1192, 0), (8, 18, 8, 2, 1193, 0), (8, 21, 8, 3, 1194, 0), (8, 24, 8, 4, 1195, 0), (8, 27, 8, 5, 1196, 0), (8, 30, 8, 6, 1197, 0), (7, 14, 7, 0, 1215, 0), (0, 352, 7, 0, 1216, 0), (7, 20, 7, 1, 1217, 0), (0, 347, 7, 1, 1218, 0), (7, 24, 7, 2, 1219, 0), (7, 28, 7, 3, 1220, 0), (7, 33, 7, 4, 1221, 0), (7, 36, 7, 5, 1222, 0), (7, 39, 7, 6, 1223, 0), (7, 42, 7, 7, 1224, 0), (7, 45, 7, 8, 1225, 0), (7, 48, 7, 9, 1226, 0), (7, 51, 7, 10, 1227, 0), (7, 54, 7, 11, 1228, 0), (7, 57, 7, 12, 1229, 0), (7, 60, 7, 13, 1230, 0), (7, 64, 7, 14, 1231, 0), (0, 7, 0, 0, 2024, 0), (0, 13, 0, 1, 2025, 0), (0, 17, 0, 2, 2026, 0), (0, 20, 0, 3, 2027, 0), (0, 26, 0, 4, 2028, 0), (0, 33, 0, 5, 2029, 0), (0, 40, 0, 6, 2030, 0), (0, 47, 0, 7, 2031, 0), (0, 54, 0, 8, 2032, 0), (0, 61, 0, 9, 2033, 0), (0, 65, 0, 10, 2034, 0), (0, 68, 0, 11, 2035, 0), (0, 74, 0, 12, 2036, 0), (9, 16, 9, 0, 2140, 0), (0, 267, 9, 0, 2141, 0), (9, 20, 9, 1, 2142, 0), (0, 238, 9, 1, 2143, 0), (9, 26, 9, 2, 2144, 0), (0, 407, 9, 2, 2145, 0), (9, 29, 9, 3, 2146, 0), (0, 415, 9, 3, 2147, 0), (9, 32, 9, 4, 2148, 0), (0, 282, 9, 4, 2149, 0), (9, 23, 9, 5, 2150, 0), (0, 132, 9, 5, 2151, 0), (9, 10, 9, 6, 2152, 0), (0, 221, 9, 6, 2153, 0), (10, 9, 10, 0, 3199, 0), (0, 303, 10, 0, 3200, 0), (10, 15, 10, 1, 3201, 0), (0, 300, 10, 1, 3202, 0), (10, 23, 10, 2, 3203, 0), (0, 374, 10, 2, 3204, 0), (10, 27, 10, 3, 3205, 0), (0, 377, 10, 3, 3206, 0), (10, 31, 10, 4, 3207, 0), (0, 297, 10, 4, 3208, 0), (10, 35, 10, 5, 3209, 0), (10, 39, 10, 6, 3210, 0), (10, 43, 10, 7, 3211, 0), (10, 48, 10, 8, 3212, 0), (4, 26, 10, 8, 3213, 0), (10, 51, 10, 9, 3214, 0), (11, 31, 11, 0, 4068, 0), (0, 264, 11, 0, 4069, 0), (11, 34, 11, 1, 4070, 0), (0, 340, 11, 1, 4071, 0), (11, 37, 11, 2, 4072, 0), (0, 334, 11, 2, 4073, 0), (11, 40, 11, 3, 4074, 0), (0, 337, 11, 3, 4075, 0), (11, 43, 11, 4, 4076, 0), (0, 235, 11, 4, 4077, 0), (11, 9, 11, 5, 4078, 0), (0, 184, 11, 5, 4079, 0), (11, 15, 11, 6, 4080, 0), (11, 18, 11, 7, 4081, 0), (0, 386, 11, 7, 4082, 0), (11, 22, 11, 8, 4083, 0), (0, 204, 11, 8, 4084, 0), (11, 25, 11, 9, 4085, 0), (11, 28, 11, 10, 4086, 0), (0, 356, 11, 10, 4087, 0), (12, 13, 12, 0, 5075, 0), (9, 70, 12, 0, 5076, 0), (12, 17, 12, 1, 5077, 0), (9, 67, 12, 1, 5078, 0), (12, 20, 12, 2, 5079, 0), (9, 77, 12, 2, 5080, 0), (12, 23, 12, 3, 5081, 0), (9, 80, 12, 3, 5082, 0), (12, 7, 12, 4, 5083, 0), (9, 73, 12, 4, 5084, 0), (0, 231, 12, 4, 5085, 0), (13, 7, 13, 0, 6029, 0), (13, 13, 13, 1, 6030, 0), (13, 16, 13, 2, 6031, 0), (13, 200, 13, 3, 6032, 0), (13, 290, 13, 4, 6033, 0), (13, 320, 13, 5, 6034, 0), (13, 329, 13, 6, 6035, 0), (13, 419, 13, 7, 6036, 0), (13, 425, 13, 8, 6037, 0), (13, 19, 13, 9, 6038, 0), (13, 22, 13, 10, 6039, 0), (13, 25, 13, 11, 6040, 0), (13, 28, 13, 12, 6041, 0), (13, 31, 13, 13, 6042, 0), (13, 34, 13, 14, 6043, 0), (13, 37, 13, 15, 6044, 0), (13, 40, 13, 16, 6045, 0), (13, 43, 13, 17, 6046, 0), (13, 46, 13, 18, 6047, 0), (13, 49, 13, 19, 6048, 0), (13, 52, 13, 20, 6049, 0), (13, 55, 13, 21, 6050, 0), (13, 59, 13, 22, 6051, 0), (13, 209, 13, 23, 6052, 0), (13, 216, 13, 24, 6053, 0), (13, 219, 13, 25, 6054, 0), (13, 226, 13, 26, 6055, 0), (13, 63, 13, 27, 6056, 0), (13, 66, 13, 28, 6057, 0), (13, 69, 13, 29, 6058, 0), (13, 72, 13, 30, 6059, 0), (13, 75, 13, 31, 6060, 0), (13, 78, 13, 32, 6061, 0), (13, 81, 13, 33, 6062, 0), (13, 84, 13, 34, 6063, 0), (13, 87, 13, 35, 6064, 0), (13, 90, 13, 36, 6065, 0), (13, 93, 13, 37, 6066, 0), (13, 96, 13, 38, 6067, 0), (13, 240, 13, 39, 6068, 0), (13, 243, 13, 40, 6069, 0), (13, 275, 13, 41, 6070, 0), (13, 278, 13, 42, 6071, 0), (13, 281, 13, 43, 6072, 0), (13, 284, 13, 44, 6073, 0), (13, 287, 13, 45, 6074, 0), (13, 272, 13, 46, 6075, 0), (13, 229, 13, 47, 6076, 0), (13, 99, 13, 48, 6077, 0), (13, 102, 13, 49, 6078, 0), (13, 105, 13, 50, 6079, 0), (13, 108, 13, 51, 6080, 0), (13, 111, 13, 52, 6081, 0), (13, 114, 13, 53, 6082, 0), (13, 117, 13, 54, 6083, 0), (13, 120, 13, 55, 6084, 0), (13, 123, 13, 56, 6085, 0), (13, 126, 13, 57, 6086, 0), (13, 129, 13, 58, 6087, 0), (13, 132, 13, 59, 6088, 0), (13, 135, 13, 60, 6089, 0), (13, 138, 13, 61, 6090, 0), (13, 141, 13, 62, 6091, 0), (13, 144, 13, 63, 6092, 0), (13, 147, 13, 64, 6093, 0), (13, 150, 13, 65, 6094, 0), (13, 153, 13, 66, 6095, 0), (13, 156, 13, 67, 6096, 0), (13, 159, 13, 68, 6097, 0), (13, 162, 13, 69, 6098, 0), (13, 165, 13, 70, 6099, 0), (13, 353, 13, 71, 6100, 0), (13, 369, 13, 72, 6101, 0), (13, 395, 13, 73, 6102, 0), (13, 398, 13, 74, 6103, 0), (13, 401, 13, 75, 6104, 0), (13, 404, 13, 76, 6105, 0), (13, 407, 13, 77, 6106, 0), (13, 168, 13, 78, 6107, 0), (13, 171, 13, 79, 6108, 0), (13, 174, 13, 80, 6109, 0), (13, 177, 13, 81, 6110, 0)]
def mm_fr (o i : Nat) : Option (Nat × Nat) := (mm_ft.find? (fun e => e.1 == o && e.2.1 == i)).map (fun e => (e.2.2.1, e.2.2.2.1))
/-- links to what is made, or cast to -/
def mm_kt : List (Nat × Nat × Nat × Nat × Nat × Nat) := [(27, 7, 0, 1028, 1029, 1001), (0, 23, 1, 1036, 1037, 1002), (0, 30, 2, 1052, 1053, 1004), (0, 37, 3, 1067, 1068, 1005), (0, 44, 4, 1116, 1117, 1006), (0, 51, 5, 1127, 1128, 1007), (0, 58, 6, 1153, 1154, 1010), (0, 71, 7, 1179, 1180, 1011), (7, 11, 8, 1185, 1186, 1012), (0, 119, 9, 2132, 2133, 1014), (9, 7, 6, 2138, 1154, 1010), (0, 152, 10, 3178, 3179, 1024), (0, 175, 11, 4061, 4062, 1025), (0, 218, 12, 5069, 5070, 1026), (9, 65, 12, 5121, 5070, 1026), (27, 10, 13, 6023, 6024, 1013)]
def mm_kr (o i : Nat) : Option Nat := (mm_kt.find? (fun e => e.1 == o && e.2.1 == i)).map (fun e => e.2.2.1)
def mm_nt : List (Nat × Nat × Int32 × Nat) := [(7, 63, -1000000, 1214), (0, 112, 99999, 2121), (18, 200, 2147483639, 2196), (24, 227, 65536, 3122), (25, 110, 55232, 3161), (25, 76, 56320, 3165), (0, 220, 1048575, 5068), (26, 265, 1431655765, 5137), (26, 266, 858993459, 5138), (26, 267, 252645135, 5139), (13, 204, 99999, 7072), (13, 246, 1000003, 7109), (13, 253, 1000002, 7114), (13, 264, 100000, 7126), (13, 254, 1000000, 7138), (13, 268, 1000001, 7139), (13, 391, 1048575, 8051)]
def mm_nr (o i : Nat) : Option Int32 := (mm_nt.find? (fun e => e.1 == o && e.2.1 == i)).map (fun e => e.2.2.1)
/-- calls: owner, index, kind (0 static, 1 virtual, 2 init, 3 to 5 the same of a nest mate, 7 Object.init), the method, places of the words -/
def mm_ct : List (Nat × Nat × Nat × Nat × Nat × Nat × Nat × Nat) := [(27, 9, 2, 0, 1030, 1031, 1001, 0), (0, 1, 7, 0, 1033, 0, 0, 0), (0, 25, 2, 1, 1038, 1039, 1002, 0), (1, 3, 7, 0, 1041, 0, 0, 0), (1, 16, 0, 2, 1044, 1045, 1003, 0), (0, 32, 5, 3, 1054, 1055, 1004, 0), (2, 1, 7, 0, 1057, 0, 0, 0), (0, 39, 5, 4, 1069, 1070, 1005, 0), (3, 3, 7, 0, 1072, 0, 0, 0), (0, 46, 5, 5, 1118, 1119, 1006, 0), (4, 3, 7, 0, 1121, 0, 0, 0), (0, 53, 5, 6, 1129, 1130, 1007, 0), (5, 3, 7, 0, 1132, 0, 0, 0), (0, 60, 2, 7, 1155, 1156, 1010, 0), (6, 1, 2, 8, 1158, 1159, 1009, 0), (16, 1, 2, 9, 1161, 1162, 1008, 0), (17, 1, 7, 0, 1164, 0, 0, 0), (0, 73, 5, 10, 1181, 1182, 1011, 0), (7, 5, 7, 0, 1184, 0, 0, 0), (7, 13, 5, 11, 1187, 1188, 1012, 0), (8, 3, 7, 0, 1190, 0, 0, 0), (0, 78, 0, 2, 2023, 1045, 1003, 0), (27, 13, 1, 12, 2064, 2065, 1001, 2066), (0, 84, 0, 13, 2068, 2069, 1001, 0), (27, 18, 1, 14, 2071, 2072, 1001, 2073), (0, 88, 1, 15, 2075, 2076, 1002, 2077), (1, 26, 1, 16, 2079, 2080, 1002, 2081), (1, 22, 3, 13, 2083, 2069, 1001, 0), (27, 22, 1, 17, 2084, 2085, 1001, 2086), (0, 91, 1, 16, 2088, 2080, 1002, 2081), (0, 95, 1, 18, 2089, 2090, 1002, 2091), (1, 30, 1, 19, 2093, 2095, 1002, 0), (0, 98, 1, 20, 2097, 2098, 1002, 2099), (0, 102, 1, 21, 2101, 2102, 1002, 2103), (1, 34, 1, 22, 2105, 2107, 1002, 1), (1, 38, 1, 20, 2109, 2098, 1002, 2099), (0, 105, 1, 23, 2110, 2111, 1002, 2112), (27, 27, 1, 24, 2114, 2115, 1001, 2116), (0, 108, 0, 25, 2118, 2119, 1001, 0), (0, 121, 2, 27, 2134, 2135, 1014, 0), (9, 1, 7, 0, 2137, 0, 0, 0), (9, 9, 2, 7, 2139, 1156, 1010, 0), (6, 131, 1, 29, 2178, 2180, 1010, 2), (6, 129, 1, 30, 2182, 2184, 1010, 3), (6, 69, 1, 31, 2186, 2188, 1010, 4), (6, 73, 0, 32, 2190, 2191, 1015, 0), (18, 194, 0, 33, 2193, 2194, 1016, 0), (18, 201, 0, 34, 2197, 2198, 1015, 0), (6, 66, 0, 35, 2200, 2201, 1003, 0), (15, 300, 0, 36, 2221, 2222, 1003, 0), (15, 304, 0, 37, 2227, 2228, 1016, 0), (6, 79, 0, 33, 2233, 2194, 1016, 0), (27, 32, 1, 38, 2235, 2236, 1001, 2237), (0, 128, 1, 39, 2239, 3001, 1001, 5), (6, 118, 0, 41, 3012, 3013, 1018, 0), (20, 105, 0, 42, 3015, 3016, 1019, 0), (6, 123, 1, 43, 3018, 3019, 1010, 3020), (27, 37, 1, 44, 3022, 3023, 1001, 3024), (0, 135, 1, 45, 3026, 3027, 1004, 3028), (0, 139, 1, 46, 3030, 3031, 1004, 3032), (27, 42, 1, 47, 3034, 3035, 1001, 3036), (0, 148, 1, 48, 3038, 3039, 1005, 3040), (3, 18, 0, 37, 3042, 2228, 1016, 0), (3, 55, 1, 49, 3043, 3045, 1005, 6), (3, 71, 1, 50, 3047, 3049, 1005, 7), (3, 75, 1, 51, 3051, 3053, 1005, 8), (3, 91, 1, 52, 3055, 3057, 1005, 9), (3, 58, 1, 53, 3059, 3061, 1005, 10), (3, 95, 1, 54, 3063, 3065, 1005, 11), (3, 98, 1, 55, 3067, 3069, 1005, 12), (3, 101, 1, 56, 3071, 3073, 1005, 13), (3, 104, 1, 57, 3075, 3077, 1005, 14), (3, 84, 1, 58, 3080, 3082, 1005, 15), (3, 120, 1, 59, 3084, 3085, 1020, 3086), (22, 633, 1, 60, 3088, 3089, 1020, 3090), (22, 492, 1, 61, 3092, 3093, 1020, 3094), (22, 505, 1, 62, 3098, 3099, 1020, 3100), (22, 335, 1, 63, 3102, 3103, 1020, 3104), (22, 637, 0, 64, 3106, 3107, 1021, 0), (23, 88, 0, 65, 3109, 3110, 1021, 0), (23, 92, 0, 33, 3112, 2194, 1016, 0), (23, 38, 0, 37, 3113, 2228, 1016, 0), (23, 95, 0, 66, 3114, 3115, 1021, 0), (22, 640, 0, 67, 3117, 3118, 1022, 0), (24, 224, 0, 33, 3120, 2194, 1016, 0), (24, 183, 0, 37, 3121, 2228, 1016, 0), (24, 228, 0, 68, 3123, 3124, 1022, 0), (24, 96, 0, 69, 3126, 3127, 1022, 0), (24, 48, 0, 70, 3129, 3130, 1022, 0), (24, 241, 0, 71, 3132, 3133, 1020, 0), (22, 1062, 0, 72, 3137, 3138, 1019, 0), (24, 244, 0, 73, 3140, 3141, 1022, 0), (24, 71, 0, 74, 3143, 3144, 1022, 0), (24, 232, 0, 75, 3152, 3153, 1022, 0), (24, 164, 0, 76, 3155, 3156, 1023, 0), (24, 157, 0, 77, 3158, 3159, 1023, 0), (24, 161, 0, 78, 3162, 3163, 1023, 0), (3, 88, 1, 79, 3167, 3169, 1005, 16), (3, 116, 3, 13, 3171, 2069, 1001, 0), (3, 111, 1, 62, 3172, 3099, 1020, 3100), (3, 79, 1, 80, 3173, 3175, 1005, 17), (0, 154, 2, 81, 3180, 3181, 1024, 0), (10, 3, 7, 0, 3183, 0, 0, 0), (10, 44, 1, 82, 3184, 3185, 1005, 3186), (3, 62, 0, 33, 3188, 2194, 1016, 0), (3, 65, 0, 83, 3189, 3190, 1003, 0), (27, 47, 1, 84, 3237, 3238, 1001, 3239), (0, 157, 1, 85, 4001, 4003, 1001, 18), (0, 161, 1, 86, 4005, 4006, 1024, 4007), (10, 62, 0, 87, 4009, 4010, 1024, 0), (10, 66, 0, 88, 4012, 4013, 1024, 0), (10, 69, 0, 89, 4015, 4016, 1024, 0), (27, 51, 1, 90, 4018, 4019, 1001, 4020), (0, 164, 1, 91, 4022, 4023, 1006, 4024), (4, 16, 1, 92, 4026, 4028, 1006, 19), (4, 20, 0, 2, 4030, 1045, 1003, 0), (4, 32, 1, 93, 4031, 4033, 1006, 20), (4, 46, 1, 94, 4035, 4037, 1006, 21), (4, 50, 3, 13, 4039, 2069, 1001, 0), (4, 36, 1, 95, 4040, 4042, 1006, 22), (4, 40, 1, 86, 4044, 4006, 1024, 4007), (0, 168, 1, 96, 4045, 4046, 1006, 4047), (0, 171, 1, 97, 4049, 4050, 1024, 4051), (10, 58, 1, 98, 4053, 4054, 1024, 4055), (27, 55, 1, 99, 4057, 4058, 1001, 4059), (0, 177, 2, 100, 4063, 4064, 1025, 0), (11, 3, 7, 0, 4066, 0, 0, 0), (11, 46, 0, 2, 4067, 1045, 1003, 0), (27, 59, 1, 101, 4111, 4112, 1001, 4113), (0, 180, 1, 102, 4115, 4117, 1001, 23), (27, 63, 1, 103, 4119, 4120, 1001, 4121), (0, 187, 1, 104, 4123, 4124, 1025, 4125), (11, 62, 1, 105, 4127, 4128, 1025, 4129), (27, 67, 1, 106, 4131, 4132, 1001, 4133), (0, 190, 1, 107, 4135, 4137, 1001, 24), (0, 241, 1, 108, 4139, 4140, 1025, 4141), (11, 52, 3, 13, 4143, 2069, 1001, 0), (11, 56, 0, 33, 4144, 2194, 1016, 0), (0, 318, 1, 109, 4145, 4146, 1024, 4147), (10, 54, 3, 13, 4149, 2069, 1001, 0), (0, 331, 1, 98, 4150, 4054, 1024, 4055), (27, 72, 1, 110, 4151, 4152, 1001, 4153), (0, 194, 1, 111, 4155, 4157, 1001, 25), (0, 343, 1, 112, 4159, 4160, 1011, 4161), (7, 67, 1, 113, 4163, 4164, 1012, 4165), (8, 33, 0, 2, 4167, 1045, 1003, 0), (0, 344, 1, 114, 4168, 4170, 1001, 26), (0, 371, 1, 115, 4172, 4173, 1012, 4174), (0, 380, 1, 116, 4176, 4177, 1012, 4178), (0, 348, 1, 117, 4180, 4182, 1001, 27), (0, 261, 1, 118, 4184, 4185, 1025, 4186), (0, 383, 1, 119, 4188, 4189, 1011, 4190), (0, 306, 1, 105, 4192, 4128, 1025, 4129), (0, 359, 1, 120, 4193, 4195, 1001, 28), (0, 389, 1, 121, 4197, 4198, 1011, 4199), (7, 73, 1, 122, 4203, 4205, 1011, 29), (0, 392, 1, 123, 4207, 4208, 1011, 4209), (0, 362, 1, 124, 4211, 4212, 1012, 4213), (0, 367, 1, 125, 4215, 4216, 1012, 4217), (0, 198, 1, 126, 4219, 4220, 1011, 4221), (7, 77, 1, 127, 4223, 4225, 1011, 30), (7, 92, 0, 37, 4227, 2228, 1016, 0), (7, 98, 0, 33, 4228, 2194, 1016, 0), (7, 101, 0, 2, 4229, 1045, 1003, 0), (7, 113, 1, 128, 4231, 4233, 1011, 31), (7, 80, 1, 129, 4235, 4236, 1012, 4237), (7, 84, 1, 130, 4239, 5001, 1011, 32), (7, 117, 1, 131, 5003, 5004, 1012, 5005), (7, 121, 1, 273, 5007, 5009, 1011, 33), (7, 124, 1, 132, 5011, 5012, 1012, 5013), (7, 128, 1, 124, 5015, 4212, 1012, 4213), (0, 201, 1, 133, 5016, 5018, 1001, 34), (0, 395, 1, 134, 5020, 5021, 1011, 5022), (0, 398, 1, 135, 5024, 5025, 1011, 5026), (7, 88, 1, 136, 5028, 5030, 1011, 35), (0, 401, 1, 137, 5032, 5033, 1011, 5034), (0, 207, 1, 138, 5036, 5037, 1025, 5038), (0, 211, 1, 139, 5040, 5041, 1007, 5042), (27, 77, 1, 140, 5044, 5045, 1001, 5046), (27, 82, 1, 141, 5048, 5049, 1001, 5050), (27, 86, 1, 142, 5052, 5053, 1001, 5054), (27, 90, 1, 143, 5056, 5057, 1001, 5058), (0, 214, 1, 144, 5060, 5062, 1001, 36), (27, 95, 1, 145, 5064, 5065, 1001, 5066), (0, 224, 2, 146, 5071, 5072, 1026, 0), (12, 1, 7, 0, 5074, 0, 0, 0), (27, 99, 1, 147, 5097, 5098, 1001, 5099), (27, 104, 1, 148, 5101, 5102, 1001, 5103), (0, 244, 1, 149, 5105, 5106, 1014, 5107), (9, 44, 0, 37, 5111, 2228, 1016, 0), (9, 50, 1, 150, 5112, 5114, 1014, 37), (9, 58, 0, 151, 5116, 5117, 1014, 0), (9, 83, 1, 152, 5122, 5123, 1014, 5124), (9, 54, 1, 153, 5126, 5128, 1014, 38), (9, 87, 1, 154, 5130, 5131, 1014, 5132), (9, 90, 0, 155, 5134, 5135, 1027, 0), (0, 248, 1, 152, 5140, 5123, 1014, 5124), (0, 251, 1, 154, 5141, 5131, 1014, 5132), (27, 108, 1, 156, 5142, 5143, 1001, 5144), (0, 254, 1, 157, 5146, 5147, 1007, 5148), (27, 113, 1, 158, 5150, 5151, 1001, 5152), (0, 258, 1, 159, 5154, 5155, 1007, 5156), (5, 31, 0, 37, 5158, 2228, 1016, 0), (27, 117, 1, 160, 5159, 5160, 1001, 5161), (0, 270, 1, 161, 5163, 5165, 1001, 39), (27, 121, 1, 162, 5167, 5168, 1001, 5169), (0, 274, 1, 163, 5171, 5173, 1001, 40), (0, 421, 1, 164, 5175, 5177, 1001, 41), (0, 418, 0, 37, 5179, 2228, 1016, 0), (0, 424, 1, 165, 5180, 5182, 1001, 42), (0, 410, 0, 33, 5184, 2194, 1016, 0), (27, 125, 1, 166, 5185, 5186, 1001, 5187), (0, 278, 1, 167, 5189, 5191, 1001, 43), (0, 285, 1, 168, 5193, 5194, 1014, 5195), (0, 288, 1, 169, 5197, 5198, 1014, 5199), (9, 35, 1, 168, 5201, 5194, 1014, 5195), (27, 129, 1, 170, 5202, 5203, 1001, 5204), (27, 133, 1, 171, 5206, 5207, 1001, 5208), (0, 291, 1, 172, 5210, 5211, 1025, 5212), (0, 294, 1, 173, 5214, 5215, 1007, 5216), (27, 137, 1, 174, 5218, 5219, 1001, 5220), (27, 142, 1, 175, 5222, 5223, 1001, 5224), (0, 309, 1, 176, 5226, 5227, 1025, 5228), (11, 66, 1, 118, 5230, 4185, 1025, 4186), (0, 312, 1, 177, 5231, 5232, 1025, 5233), (27, 146, 1, 178, 5235, 5236, 1001, 5237), (0, 315, 1, 179, 5239, 6001, 1001, 44), (0, 321, 1, 180, 6003, 6004, 1024, 6005), (27, 150, 1, 181, 6007, 6008, 1001, 6009), (0, 324, 1, 182, 6011, 6013, 1001, 45), (0, 327, 1, 183, 6015, 6017, 1001, 46), (0, 404, 1, 184, 6019, 6021, 1001, 47), (27, 12, 2, 185, 6025, 6026, 1013, 0), (13, 1, 7, 0, 6028, 0, 0, 0), (27, 17, 1, 186, 7037, 7038, 1013, 7039), (13, 180, 0, 187, 7041, 7042, 1013, 0), (27, 21, 1, 188, 7044, 7045, 1013, 7046), (27, 26, 1, 189, 7048, 7049, 1013, 7050), (13, 188, 1, 190, 7052, 7054, 1013, 48), (13, 184, 1, 191, 7056, 7058, 1013, 49), (13, 192, 1, 192, 7060, 7062, 1013, 50), (13, 196, 1, 193, 7064, 7066, 1013, 51), (27, 31, 1, 194, 7068, 7069, 1013, 7070), (27, 36, 1, 195, 7073, 7074, 1013, 7075), (13, 205, 1, 196, 7077, 7079, 1013, 52), (27, 41, 1, 197, 7081, 7082, 1013, 7083), (13, 212, 1, 198, 7085, 7087, 1013, 53), (27, 46, 1, 199, 7089, 7090, 1013, 7091), (13, 293, 1, 200, 7093, 7095, 1013, 54), (13, 222, 1, 201, 7097, 7099, 1013, 55), (13, 269, 1, 202, 7101, 7103, 1013, 56), (13, 236, 1, 203, 7105, 7107, 1013, 57), (13, 255, 1, 204, 7110, 7112, 1013, 58), (13, 258, 0, 205, 7115, 7116, 1013, 0), (13, 261, 1, 206, 7118, 7120, 1013, 59), (13, 232, 1, 207, 7122, 7124, 1013, 60), (13, 250, 1, 208, 7127, 7129, 1013, 61), (13, 265, 1, 209, 7131, 7133, 1013, 62), (13, 247, 0, 210, 7135, 7136, 1013, 0), (27, 50, 1, 211, 7140, 7141, 1013, 7142), (13, 296, 1, 212, 7144, 7146, 1013, 63), (13, 299, 1, 213, 7148, 7150, 1013, 64), (27, 54, 1, 214, 7152, 7153, 1013, 7154), (13, 313, 1, 215, 7156, 7158, 1013, 65), (13, 306, 1, 216, 7160, 7162, 1013, 66), (13, 303, 0, 217, 7164, 7165, 1013, 0), (13, 310, 1, 218, 7167, 7169, 1013, 67), (13, 317, 1, 219, 7171, 7173, 1013, 68), (27, 58, 1, 220, 7175, 7176, 1013, 7177), (27, 62, 1, 221, 7179, 7180, 1013, 7181), (13, 323, 1, 222, 7183, 7185, 1013, 69), (27, 66, 1, 223, 7187, 7188, 1013, 7189), (13, 326, 1, 224, 7191, 7193, 1013, 70), (27, 71, 1, 225, 7195, 7196, 1013, 7197), (13, 338, 1, 226, 7199, 7201, 1013, 71), (13, 332, 1, 227, 7203, 7205, 1013, 72), (13, 335, 1, 228, 7207, 7209, 1013, 73), (27, 89, 1, 229, 7211, 7212, 1013, 7213), (13, 350, 1, 230, 7215, 7217, 1013, 74), (13, 341, 1, 231, 7219, 7221, 1013, 75), (13, 344, 1, 232, 7223, 7225, 1013, 76), (13, 347, 1, 233, 7227, 7229, 1013, 77), (27, 94, 1, 234, 7231, 7232, 1013, 7233), (27, 76, 1, 235, 7235, 7236, 1013, 7237), (13, 384, 1, 236, 7239, 8001, 1013, 78), (13, 356, 1, 237, 8003, 8005, 1013, 79), (13, 360, 1, 238, 8007, 8009, 1013, 80), (13, 363, 1, 239, 8011, 8013, 1013, 81), (13, 366, 1, 240, 8015, 8017, 1013, 82), (13, 372, 1, 241, 8019, 8021, 1013, 83), (13, 375, 1, 242, 8023, 8025, 1013, 84), (13, 378, 1, 243, 8027, 8029, 1013, 85), (13, 388, 1, 244, 8031, 8033, 1013, 86), (13, 381, 1, 245, 8035, 8037, 1013, 87), (27, 85, 1, 246, 8039, 8040, 1013, 8041), (27, 81, 1, 247, 8043, 8044, 1013, 8045), (27, 98, 1, 248, 8047, 8048, 1013, 8049), (27, 103, 1, 249, 8052, 8053, 1013, 8054), (13, 392, 1, 250, 8056, 8058, 1013, 88), (27, 107, 1, 251, 8060, 8061, 1013, 8062), (13, 416, 1, 252, 8064, 8066, 1013, 89), (13, 410, 1, 253, 8068, 8070, 1013, 90), (13, 413, 0, 254, 8072, 8073, 1013, 0), (27, 112, 1, 255, 8075, 8076, 1013, 8077), (13, 422, 0, 256, 8079, 8080, 1013, 0), (27, 116, 1, 257, 8082, 8083, 1013, 8084), (13, 428, 1, 258, 8086, 8088, 1013, 91), (27, 120, 1, 259, 8090, 8091, 1013, 8092), (27, 124, 1, 260, 8094, 8095, 1013, 8096), (13, 434, 1, 261, 8098, 8100, 1013, 92), (13, 431, 1, 262, 8102, 8104, 1013, 93), (27, 128, 1, 263, 8106, 8107, 1013, 8108), (27, 132, 1, 264, 8110, 8111, 1013, 8112), (27, 136, 1, 265, 8114, 8115, 1013, 8116), (27, 141, 1, 266, 8118, 8119, 1013, 8120), (27, 145, 1, 267, 8122, 8123, 1013, 8124), (13, 437, 1, 268, 8126, 8128, 1013, 94), (27, 149, 1, 269, 8130, 8131, 1013, 8132), (13, 440, 1, 270, 8134, 8136, 1013, 95), (27, 153, 1, 271, 8138, 8139, 1013, 8140), (13, 443, 1, 272, 8142, 8144, 1013, 96)]
def mm_cr (o i : Nat) : Option (Nat × Nat) := (mm_ct.find? (fun e => e.1 == o && e.2.1 == i)).map (fun e => (e.2.2.1, e.2.2.2.1))
