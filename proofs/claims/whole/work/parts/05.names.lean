/-! names: classes, methods (by program out of the Statement) -/
def db_T0 : u_T := fun k => match k with
  | 0 => ("DeflateBlocks$BlockLog", "facts", "[I", false)
  | 1 => ("DeflateBlocks$BlockLog", "symbolWidths", "[I", true)
  | 2 => ("DeflateBlocks$BlockLog", "distanceWidths", "[I", true)
  | 3 => ("DeflateBlocks$BlockLog", "rowWidths", "[I", true)
  | 4 => ("DeflateBlocks$BlockLog", "count", "I", false)
  | _ => ("DeflateBlocks$BlockLog", "hasOwn", "Z", false)
def db_t0 : Nat → FieldType := fun k => match k with
  | 0 => .array .int
  | 1 => .array .int
  | 2 => .array .int
  | 3 => .array .int
  | 4 => .int
  | _ => .boolean
theorem db_n0 : ∀ a, a < 6 → ∀ b, b < 6 → a ≠ b → (db_T0 a).2.1 ≠ (db_T0 b).2.1 := by decide +kernel
theorem db_y0 : ∀ k, k < 6 → parseFieldDescriptor (db_T0 k).2.2.1 = some (db_t0 k) := by decide +kernel
theorem db_w0 : GoodIn lw_tbl (u_ws "DeflateBlocks$BlockLog" db_T0 6) := goodIn_r _ [439, 441, 443, 445, 447, 449] (by decide +kernel) (by decide +kernel)
def db_T1 : u_T := fun k => match k with
  | 0 => ("DeflateBlocks$Bytes", "row", "[I", true)
  | _ => ("DeflateBlocks$Bytes", "count", "I", false)
def db_t1 : Nat → FieldType := fun k => match k with
  | 0 => .array .int
  | _ => .int
theorem db_n1 : ∀ a, a < 2 → ∀ b, b < 2 → a ≠ b → (db_T1 a).2.1 ≠ (db_T1 b).2.1 := by decide +kernel
theorem db_y1 : ∀ k, k < 2 → parseFieldDescriptor (db_T1 k).2.2.1 = some (db_t1 k) := by decide +kernel
theorem db_w1 : GoodIn lw_tbl (u_ws "DeflateBlocks$Bytes" db_T1 2) := goodIn_r _ [112, 114] (by decide +kernel) (by decide +kernel)
def db_T2 : u_T := fun k => match k with
  | 0 => ("DeflateBlocks$Code", "widths", "[I", true)
  | 1 => ("DeflateBlocks$Code", "words", "[I", true)
  | 2 => ("DeflateBlocks$Code", "symbolsByWord", "[I", true)
  | 3 => ("DeflateBlocks$Code", "counts", "[I", true)
  | 4 => ("DeflateBlocks$Code", "firstWords", "[I", true)
  | 5 => ("DeflateBlocks$Code", "starts", "[I", true)
  | 6 => ("DeflateBlocks$Code", "given", "[I", true)
  | 7 => ("DeflateBlocks$Code", "wordCount", "I", false)
  | 8 => ("DeflateBlocks$Code", "greatest", "I", false)
  | _ => ("DeflateBlocks$Code", "full", "Z", false)
def db_t2 : Nat → FieldType := fun k => match k with
  | 0 => .array .int
  | 1 => .array .int
  | 2 => .array .int
  | 3 => .array .int
  | 4 => .array .int
  | 5 => .array .int
  | 6 => .array .int
  | 7 => .int
  | 8 => .int
  | _ => .boolean
theorem db_n2 : ∀ a, a < 10 → ∀ b, b < 10 → a ≠ b → (db_T2 a).2.1 ≠ (db_T2 b).2.1 := by decide +kernel
theorem db_y2 : ∀ k, k < 10 → parseFieldDescriptor (db_T2 k).2.2.1 = some (db_t2 k) := by decide +kernel
theorem db_w2 : GoodIn lw_tbl (u_ws "DeflateBlocks$Code" db_T2 10) := goodIn_r _ [215, 217, 219, 221, 223, 225, 227, 229, 231, 233] (by decide +kernel) (by decide +kernel)
def db_T3 : u_T := fun k => match k with
  | 0 => ("DeflateBlocks$Cuts", "row", "[I", true)
  | _ => ("DeflateBlocks$Cuts", "count", "I", false)
def db_t3 : Nat → FieldType := fun k => match k with
  | 0 => .array .int
  | _ => .int
theorem db_n3 : ∀ a, a < 2 → ∀ b, b < 2 → a ≠ b → (db_T3 a).2.1 ≠ (db_T3 b).2.1 := by decide +kernel
theorem db_y3 : ∀ k, k < 2 → parseFieldDescriptor (db_T3 k).2.2.1 = some (db_t3 k) := by decide +kernel
theorem db_w3 : GoodIn lw_tbl (u_ws "DeflateBlocks$Cuts" db_T3 2) := goodIn_r _ [127, 129] (by decide +kernel) (by decide +kernel)
def db_T4 : u_T := fun k => match k with
  | 0 => ("DeflateBlocks$Joining", "leaves", "[I", true)
  | 1 => ("DeflateBlocks$Joining", "numbers", "[I", true)
  | 2 => ("DeflateBlocks$Joining", "joinedTo", "[I", true)
  | 3 => ("DeflateBlocks$Joining", "depths", "[I", true)
  | 4 => ("DeflateBlocks$Joining", "leafCount", "I", false)
  | 5 => ("DeflateBlocks$Joining", "nodeCount", "I", false)
  | 6 => ("DeflateBlocks$Joining", "nextLeaf", "I", false)
  | _ => ("DeflateBlocks$Joining", "nextJoined", "I", false)
def db_t4 : Nat → FieldType := fun k => match k with
  | 0 => .array .int
  | 1 => .array .int
  | 2 => .array .int
  | 3 => .array .int
  | 4 => .int
  | 5 => .int
  | 6 => .int
  | _ => .int
theorem db_n4 : ∀ a, a < 8 → ∀ b, b < 8 → a ≠ b → (db_T4 a).2.1 ≠ (db_T4 b).2.1 := by decide +kernel
theorem db_y4 : ∀ k, k < 8 → parseFieldDescriptor (db_T4 k).2.2.1 = some (db_t4 k) := by decide +kernel
theorem db_w4 : GoodIn lw_tbl (u_ws "DeflateBlocks$Joining" db_T4 8) := goodIn_r _ [276, 278, 280, 282, 284, 286, 288, 290] (by decide +kernel) (by decide +kernel)
def db_T5 : u_T := fun k => match k with
  | 0 => ("DeflateBlocks$Opener", "in", "LDeflateBlocks$Reader;", true)
  | 1 => ("DeflateBlocks$Opener", "opened", "LDeflateBlocks$Bytes;", true)
  | 2 => ("DeflateBlocks$Opener", "fixedSymbols", "LDeflateBlocks$Code;", true)
  | 3 => ("DeflateBlocks$Opener", "fixedDistances", "LDeflateBlocks$Code;", true)
  | 4 => ("DeflateBlocks$Opener", "ownSymbols", "LDeflateBlocks$Code;", true)
  | 5 => ("DeflateBlocks$Opener", "ownDistances", "LDeflateBlocks$Code;", true)
  | 6 => ("DeflateBlocks$Opener", "rowCode", "LDeflateBlocks$Code;", true)
  | _ => ("DeflateBlocks$Opener", "row", "[I", true)
def db_t5 : Nat → FieldType := fun k => match k with
  | 0 => .object "DeflateBlocks$Reader"
  | 1 => .object "DeflateBlocks$Bytes"
  | 2 => .object "DeflateBlocks$Code"
  | 3 => .object "DeflateBlocks$Code"
  | 4 => .object "DeflateBlocks$Code"
  | 5 => .object "DeflateBlocks$Code"
  | 6 => .object "DeflateBlocks$Code"
  | _ => .array .int
theorem db_n5 : ∀ a, a < 8 → ∀ b, b < 8 → a ≠ b → (db_T5 a).2.1 ≠ (db_T5 b).2.1 := by decide +kernel
theorem db_y5 : ∀ k, k < 8 → parseFieldDescriptor (db_T5 k).2.2.1 = some (db_t5 k) := by decide +kernel
theorem db_w5 : GoodIn lw_tbl (u_ws "DeflateBlocks$Opener" db_T5 8) := goodIn_r _ [409, 411, 413, 415, 417, 419, 421, 423] (by decide +kernel) (by decide +kernel)
def db_T6 : u_T := fun k => match k with
  | 0 => ("DeflateBlocks$OwnCodes", "symbols", "LDeflateBlocks$Code;", true)
  | 1 => ("DeflateBlocks$OwnCodes", "distances", "LDeflateBlocks$Code;", true)
  | 2 => ("DeflateBlocks$OwnCodes", "rowCode", "LDeflateBlocks$Code;", true)
  | 3 => ("DeflateBlocks$OwnCodes", "joining", "LDeflateBlocks$Joining;", true)
  | 4 => ("DeflateBlocks$OwnCodes", "symbolCounts", "[I", true)
  | 5 => ("DeflateBlocks$OwnCodes", "distanceCounts", "[I", true)
  | 6 => ("DeflateBlocks$OwnCodes", "rowCounts", "[I", true)
  | 7 => ("DeflateBlocks$OwnCodes", "row", "[I", true)
  | 8 => ("DeflateBlocks$OwnCodes", "told", "[I", true)
  | 9 => ("DeflateBlocks$OwnCodes", "toldFields", "[I", true)
  | 10 => ("DeflateBlocks$OwnCodes", "symbolTotal", "I", false)
  | 11 => ("DeflateBlocks$OwnCodes", "distanceTotal", "I", false)
  | 12 => ("DeflateBlocks$OwnCodes", "rowTotal", "I", false)
  | _ => ("DeflateBlocks$OwnCodes", "toldCount", "I", false)
def db_t6 : Nat → FieldType := fun k => match k with
  | 0 => .object "DeflateBlocks$Code"
  | 1 => .object "DeflateBlocks$Code"
  | 2 => .object "DeflateBlocks$Code"
  | 3 => .object "DeflateBlocks$Joining"
  | 4 => .array .int
  | 5 => .array .int
  | 6 => .array .int
  | 7 => .array .int
  | 8 => .array .int
  | 9 => .array .int
  | 10 => .int
  | 11 => .int
  | 12 => .int
  | _ => .int
theorem db_n6 : ∀ a, a < 14 → ∀ b, b < 14 → a ≠ b → (db_T6 a).2.1 ≠ (db_T6 b).2.1 := by decide +kernel
theorem db_y6 : ∀ k, k < 14 → parseFieldDescriptor (db_T6 k).2.2.1 = some (db_t6 k) := by decide +kernel
theorem db_w6 : GoodIn lw_tbl (u_ws "DeflateBlocks$OwnCodes" db_T6 14) := goodIn_r _ [310, 312, 314, 316, 318, 320, 322, 324, 326, 328, 330, 332, 334, 336] (by decide +kernel) (by decide +kernel)
def db_T7 : u_T := fun k => match k with
  | 0 => ("DeflateBlocks$Packer", "out", "LDeflateBlocks$Writer;", true)
  | 1 => ("DeflateBlocks$Packer", "fixedSymbols", "LDeflateBlocks$Code;", true)
  | 2 => ("DeflateBlocks$Packer", "fixedDistances", "LDeflateBlocks$Code;", true)
  | 3 => ("DeflateBlocks$Packer", "own", "LDeflateBlocks$OwnCodes;", true)
  | 4 => ("DeflateBlocks$Packer", "begin", "I", false)
  | 5 => ("DeflateBlocks$Packer", "end", "I", false)
  | 6 => ("DeflateBlocks$Packer", "firstStep", "I", false)
  | _ => ("DeflateBlocks$Packer", "endStep", "I", false)
def db_t7 : Nat → FieldType := fun k => match k with
  | 0 => .object "DeflateBlocks$Writer"
  | 1 => .object "DeflateBlocks$Code"
  | 2 => .object "DeflateBlocks$Code"
  | 3 => .object "DeflateBlocks$OwnCodes"
  | 4 => .int
  | 5 => .int
  | 6 => .int
  | _ => .int
theorem db_n7 : ∀ a, a < 8 → ∀ b, b < 8 → a ≠ b → (db_T7 a).2.1 ≠ (db_T7 b).2.1 := by decide +kernel
theorem db_y7 : ∀ k, k < 8 → parseFieldDescriptor (db_T7 k).2.2.1 = some (db_t7 k) := by decide +kernel
theorem db_w7 : GoodIn lw_tbl (u_ws "DeflateBlocks$Packer" db_T7 8) := goodIn_r _ [348, 350, 352, 354, 356, 358, 360, 362] (by decide +kernel) (by decide +kernel)
def db_T8 : u_T := fun k => match k with
  | 0 => ("DeflateBlocks$Reader", "row", "[I", false)
  | 1 => ("DeflateBlocks$Reader", "count", "I", false)
  | 2 => ("DeflateBlocks$Reader", "bits", "I", false)
  | _ => ("DeflateBlocks$Reader", "fault", "I", false)
def db_t8 : Nat → FieldType := fun k => match k with
  | 0 => .array .int
  | 1 => .int
  | 2 => .int
  | _ => .int
theorem db_n8 : ∀ a, a < 4 → ∀ b, b < 4 → a ≠ b → (db_T8 a).2.1 ≠ (db_T8 b).2.1 := by decide +kernel
theorem db_y8 : ∀ k, k < 4 → parseFieldDescriptor (db_T8 k).2.2.1 = some (db_t8 k) := by decide +kernel
theorem db_w8 : GoodIn lw_tbl (u_ws "DeflateBlocks$Reader" db_T8 4) := goodIn_r _ [384, 386, 388, 390] (by decide +kernel) (by decide +kernel)
def db_T9 : u_T := fun k => match k with
  | 0 => ("DeflateBlocks$Repeats", "places", "[I", true)
  | 1 => ("DeflateBlocks$Repeats", "lengths", "[I", true)
  | 2 => ("DeflateBlocks$Repeats", "values", "[I", true)
  | 3 => ("DeflateBlocks$Repeats", "count", "I", false)
  | 4 => ("DeflateBlocks$Repeats", "foundLength", "I", false)
  | _ => ("DeflateBlocks$Repeats", "foundDistance", "I", false)
def db_t9 : Nat → FieldType := fun k => match k with
  | 0 => .array .int
  | 1 => .array .int
  | 2 => .array .int
  | 3 => .int
  | 4 => .int
  | _ => .int
theorem db_n9 : ∀ a, a < 6 → ∀ b, b < 6 → a ≠ b → (db_T9 a).2.1 ≠ (db_T9 b).2.1 := by decide +kernel
theorem db_y9 : ∀ k, k < 6 → parseFieldDescriptor (db_T9 k).2.2.1 = some (db_t9 k) := by decide +kernel
theorem db_w9 : GoodIn lw_tbl (u_ws "DeflateBlocks$Repeats" db_T9 6) := goodIn_r _ [152, 154, 156, 158, 160, 162] (by decide +kernel) (by decide +kernel)
def db_T10 : u_T := fun k => match k with
  | 0 => ("DeflateBlocks$Writer", "row", "[I", true)
  | _ => ("DeflateBlocks$Writer", "bits", "I", false)
def db_t10 : Nat → FieldType := fun k => match k with
  | 0 => .array .int
  | _ => .int
theorem db_n10 : ∀ a, a < 2 → ∀ b, b < 2 → a ≠ b → (db_T10 a).2.1 ≠ (db_T10 b).2.1 := by decide +kernel
theorem db_y10 : ∀ k, k < 2 → parseFieldDescriptor (db_T10 k).2.2.1 = some (db_t10 k) := by decide +kernel
theorem db_w10 : GoodIn lw_tbl (u_ws "DeflateBlocks$Writer" db_T10 2) := goodIn_r _ [182, 184] (by decide +kernel) (by decide +kernel)
def db_T11 : u_T := fun k => match k with
  | 0 => ("DeflateBlocks", "dataBytes", "LDeflateBlocks$Bytes;", true)
  | 1 => ("DeflateBlocks", "tapeBytes", "LDeflateBlocks$Bytes;", true)
  | 2 => ("DeflateBlocks", "cuts", "LDeflateBlocks$Cuts;", true)
  | 3 => ("DeflateBlocks", "repeats", "LDeflateBlocks$Repeats;", true)
  | 4 => ("DeflateBlocks", "packer", "LDeflateBlocks$Packer;", true)
  | 5 => ("DeflateBlocks", "opener", "LDeflateBlocks$Opener;", true)
  | 6 => ("DeflateBlocks", "latest", "LDeflateBlocks$BlockLog;", false)
  | 7 => ("DeflateBlocks", "spare", "LDeflateBlocks$BlockLog;", false)
  | 8 => ("DeflateBlocks", "repeatsAreFound", "Z", false)
  | _ => ("DeflateBlocks", "faultPlace", "I", false)
def db_t11 : Nat → FieldType := fun k => match k with
  | 0 => .object "DeflateBlocks$Bytes"
  | 1 => .object "DeflateBlocks$Bytes"
  | 2 => .object "DeflateBlocks$Cuts"
  | 3 => .object "DeflateBlocks$Repeats"
  | 4 => .object "DeflateBlocks$Packer"
  | 5 => .object "DeflateBlocks$Opener"
  | 6 => .object "DeflateBlocks$BlockLog"
  | 7 => .object "DeflateBlocks$BlockLog"
  | 8 => .boolean
  | _ => .int
theorem db_n11 : ∀ a, a < 10 → ∀ b, b < 10 → a ≠ b → (db_T11 a).2.1 ≠ (db_T11 b).2.1 := by decide +kernel
theorem db_y11 : ∀ k, k < 10 → parseFieldDescriptor (db_T11 k).2.2.1 = some (db_t11 k) := by decide +kernel
theorem db_w11 : GoodIn lw_tbl (u_ws "DeflateBlocks" db_T11 10) := goodIn_r _ [462, 464, 466, 468, 470, 472, 474, 476, 478, 480] (by decide +kernel) (by decide +kernel)
def db_T12 : u_T := fun k => match k with
  | 0 => ("DeflateBlocksModel", "data", "[I", true)
  | 1 => ("DeflateBlocksModel", "size", "I", false)
  | 2 => ("DeflateBlocksModel", "cuts", "[I", true)
  | 3 => ("DeflateBlocksModel", "cutMany", "I", false)
  | 4 => ("DeflateBlocksModel", "tape", "[Z", true)
  | 5 => ("DeflateBlocksModel", "bytes", "I", false)
  | 6 => ("DeflateBlocksModel", "badAt", "I", false)
  | 7 => ("DeflateBlocksModel", "kinds", "[I", true)
  | 8 => ("DeflateBlocksModel", "froms", "[I", true)
  | 9 => ("DeflateBlocksModel", "sizes", "[I", true)
  | 10 => ("DeflateBlocksModel", "begins", "[I", true)
  | 11 => ("DeflateBlocksModel", "longs", "[I", true)
  | 12 => ("DeflateBlocksModel", "blocks", "I", false)
  | 13 => ("DeflateBlocksModel", "toldSymbols", "[I", true)
  | 14 => ("DeflateBlocksModel", "toldDistances", "[I", true)
  | 15 => ("DeflateBlocksModel", "toldWidths", "[I", true)
  | 16 => ("DeflateBlocksModel", "isTold", "Z", false)
  | 17 => ("DeflateBlocksModel", "stepAt", "[I", true)
  | 18 => ("DeflateBlocksModel", "stepLong", "[I", true)
  | 19 => ("DeflateBlocksModel", "stepFar", "[I", true)
  | 20 => ("DeflateBlocksModel", "stepMany", "I", false)
  | 21 => ("DeflateBlocksModel", "ofWidth", "[I", true)
  | 22 => ("DeflateBlocksModel", "numbers", "[I", true)
  | 23 => ("DeflateBlocksModel", "above", "[I", true)
  | 24 => ("DeflateBlocksModel", "joined", "[Z", true)
  | 25 => ("DeflateBlocksModel", "out", "[Z", true)
  | 26 => ("DeflateBlocksModel", "outs", "I", false)
  | 27 => ("DeflateBlocksModel", "symbols", "[I", true)
  | 28 => ("DeflateBlocksModel", "distances", "[I", true)
  | 29 => ("DeflateBlocksModel", "widthCode", "[I", true)
  | 30 => ("DeflateBlocksModel", "counts", "[I", true)
  | 31 => ("DeflateBlocksModel", "farCounts", "[I", true)
  | 32 => ("DeflateBlocksModel", "row", "[I", true)
  | 33 => ("DeflateBlocksModel", "rowField", "[I", true)
  | 34 => ("DeflateBlocksModel", "rowMany", "I", false)
  | 35 => ("DeflateBlocksModel", "all", "[I", true)
  | 36 => ("DeflateBlocksModel", "rowCounts", "[I", true)
  | 37 => ("DeflateBlocksModel", "newKinds", "[I", true)
  | 38 => ("DeflateBlocksModel", "newFroms", "[I", true)
  | 39 => ("DeflateBlocksModel", "newSizes", "[I", true)
  | 40 => ("DeflateBlocksModel", "newBegins", "[I", true)
  | 41 => ("DeflateBlocksModel", "newLongs", "[I", true)
  | 42 => ("DeflateBlocksModel", "newMany", "I", false)
  | 43 => ("DeflateBlocksModel", "newSymbols", "[I", true)
  | 44 => ("DeflateBlocksModel", "newDistances", "[I", true)
  | 45 => ("DeflateBlocksModel", "newWidths", "[I", true)
  | 46 => ("DeflateBlocksModel", "isNewTold", "Z", false)
  | 47 => ("DeflateBlocksModel", "place", "I", false)
  | 48 => ("DeflateBlocksModel", "bad", "I", false)
  | 49 => ("DeflateBlocksModel", "fresh", "[I", true)
  | _ => ("DeflateBlocksModel", "freshSize", "I", false)
def db_t12 : Nat → FieldType := fun k => match k with
  | 0 => .array .int
  | 1 => .int
  | 2 => .array .int
  | 3 => .int
  | 4 => .array .boolean
  | 5 => .int
  | 6 => .int
  | 7 => .array .int
  | 8 => .array .int
  | 9 => .array .int
  | 10 => .array .int
  | 11 => .array .int
  | 12 => .int
  | 13 => .array .int
  | 14 => .array .int
  | 15 => .array .int
  | 16 => .boolean
  | 17 => .array .int
  | 18 => .array .int
  | 19 => .array .int
  | 20 => .int
  | 21 => .array .int
  | 22 => .array .int
  | 23 => .array .int
  | 24 => .array .boolean
  | 25 => .array .boolean
  | 26 => .int
  | 27 => .array .int
  | 28 => .array .int
  | 29 => .array .int
  | 30 => .array .int
  | 31 => .array .int
  | 32 => .array .int
  | 33 => .array .int
  | 34 => .int
  | 35 => .array .int
  | 36 => .array .int
  | 37 => .array .int
  | 38 => .array .int
  | 39 => .array .int
  | 40 => .array .int
  | 41 => .array .int
  | 42 => .int
  | 43 => .array .int
  | 44 => .array .int
  | 45 => .array .int
  | 46 => .boolean
  | 47 => .int
  | 48 => .int
  | 49 => .array .int
  | _ => .int
theorem db_n12 : ∀ a, a < 51 → ∀ b, b < 51 → a ≠ b → (db_T12 a).2.1 ≠ (db_T12 b).2.1 := by decide +kernel
theorem db_y12 : ∀ k, k < 51 → parseFieldDescriptor (db_T12 k).2.2.1 = some (db_t12 k) := by decide +kernel
theorem db_w12 : GoodIn lw_tbl (u_ws "DeflateBlocksModel" db_T12 51) := goodIn_r _ [989, 991, 993, 995, 997, 999, 1001, 1003, 1005, 1007, 1009, 1011, 1013, 1015, 1017, 1019, 1021, 1023, 1025, 1027, 1029, 1031, 1033, 1035, 1037, 1039, 1041, 1043, 1045, 1047, 1049, 1051, 1053, 1055, 1057, 1059, 1061, 1063, 1065, 1067, 1069, 1071, 1073, 1075, 1077, 1079, 1081, 1083, 1085, 1087, 1089] (by decide +kernel) (by decide +kernel)
def db_cl : List vw_C := [("DeflateBlocks$BlockLog", db_T0, 6), ("DeflateBlocks$Bytes", db_T1, 2), ("DeflateBlocks$Code", db_T2, 10), ("DeflateBlocks$Cuts", db_T3, 2), ("DeflateBlocks$Joining", db_T4, 8), ("DeflateBlocks$Opener", db_T5, 8), ("DeflateBlocks$OwnCodes", db_T6, 14), ("DeflateBlocks$Packer", db_T7, 8), ("DeflateBlocks$Reader", db_T8, 4), ("DeflateBlocks$Repeats", db_T9, 6), ("DeflateBlocks$Writer", db_T10, 2), ("DeflateBlocks", db_T11, 10), ("DeflateBlocksModel", db_T12, 51)]
/-- places of the words instantiable, initialized of a class -/
def db_cw : List (Nat × Nat) := [(427, 82), (94, 70), (191, 76), (119, 72), (263, 79), (366, 80), (255, 78), (166, 74), (372, 81), (133, 73), (172, 75), (86, 69), (933, 83)]
abbrev db_M : Type := MethodName × ByteArray × Nat × Option FieldType
def db_ms : List db_M := [
  (⟨"DeflateBlocksLaw", "law", "([I)Z"⟩, code, 4, (some .boolean)),
  (⟨"DeflateBlocks", "<init>", "()V"⟩, prog_1_method_1_code, 1, none),
  (⟨"DeflateBlocks$Bytes", "<init>", "(I)V"⟩, prog_3_method_1_code, 2, none),
  (⟨"DeflateBlocks$Cuts", "<init>", "()V"⟩, prog_5_method_1_code, 1, none),
  (⟨"DeflateBlocks$Repeats", "<init>", "()V"⟩, prog_11_method_1_code, 1, none),
  (⟨"DeflateBlocks$Packer", "<init>", "()V"⟩, prog_9_method_1_code, 1, none),
  (⟨"DeflateBlocks$Writer", "<init>", "()V"⟩, prog_12_method_1_code, 1, none),
  (⟨"DeflateBlocks$Code", "fixedSymbols", "()LDeflateBlocks$Code;"⟩, prog_4_method_2_code, 2, (some (.object "DeflateBlocks$Code"))),
  (⟨"DeflateBlocks$Code", "<init>", "(I)V"⟩, prog_4_method_1_code, 3, none),
  (⟨"DeflateBlocks$Code", "settle", "()V"⟩, prog_4_method_4_code, 3, none),
  (⟨"DeflateBlocks$Code", "countWidths", "()V"⟩, prog_4_method_5_code, 5, none),
  (⟨"java/util/Arrays", "fill", "([II)V"⟩, prog_18_method_103_code, 4, none),
  (⟨"DeflateBlocks$Code", "giveWords", "()V"⟩, prog_4_method_6_code, 4, none),
  (⟨"DeflateBlocks$Code", "fixedDistances", "()LDeflateBlocks$Code;"⟩, prog_4_method_3_code, 1, (some (.object "DeflateBlocks$Code"))),
  (⟨"DeflateBlocks$OwnCodes", "<init>", "()V"⟩, prog_8_method_1_code, 1, none),
  (⟨"DeflateBlocks$Joining", "<init>", "()V"⟩, prog_6_method_1_code, 1, none),
  (⟨"DeflateBlocks$Opener", "<init>", "()V"⟩, prog_7_method_1_code, 1, none),
  (⟨"DeflateBlocks$Reader", "<init>", "()V"⟩, prog_10_method_1_code, 1, none),
  (⟨"DeflateBlocks$BlockLog", "<init>", "()V"⟩, prog_2_method_1_code, 1, none),
  (⟨"DeflateBlocks", "octet", "(I)I"⟩, prog_1_method_2_code, 2, (some .int)),
  (⟨"DeflateBlocks", "isByte", "(I)Z"⟩, prog_1_method_18_code, 1, (some .boolean)),
  (⟨"DeflateBlocks$Bytes", "add", "(I)Z"⟩, prog_3_method_4_code, 2, (some .boolean)),
  (⟨"DeflateBlocks", "empty", "()I"⟩, prog_1_method_3_code, 2, (some .int)),
  (⟨"DeflateBlocks", "cutAt", "(I)I"⟩, prog_1_method_4_code, 2, (some .int)),
  (⟨"DeflateBlocks$Cuts", "add", "(I)Z"⟩, prog_5_method_2_code, 3, (some .boolean)),
  (⟨"DeflateBlocks", "at", "(I)I"⟩, prog_1_method_5_code, 2, (some .int)),
  (⟨"DeflateBlocks$Bytes", "get", "(I)I"⟩, prog_3_method_3_code, 2, (some .int)),
  (⟨"DeflateBlocks$Bytes", "has", "(I)Z"⟩, prog_3_method_2_code, 2, (some .boolean)),
  (⟨"DeflateBlocks", "pack", "(II)I"⟩, prog_1_method_6_code, 4, (some .int)),
  (⟨"DeflateBlocks", "findRepeats", "()V"⟩, prog_1_method_19_code, 1, none),
  (⟨"DeflateBlocks$Repeats", "find", "(LDeflateBlocks$Bytes;LDeflateBlocks$Cuts;)V"⟩, prog_11_method_2_code, 6, none),
  (⟨"DeflateBlocks$Cuts", "endOfBlock", "(II)I"⟩, prog_5_method_3_code, 5, (some .int)),
  (⟨"DeflateBlocks$Repeats", "search", "(LDeflateBlocks$Bytes;II)V"⟩, prog_11_method_3_code, 7, none),
  (⟨"DeflateBlocks$Repeats", "runOf", "(LDeflateBlocks$Bytes;III)I"⟩, prog_11_method_4_code, 6, (some .int)),
  (⟨"DeflateBlocks$Writer", "backTo", "(I)V"⟩, prog_12_method_2_code, 2, none),
  (⟨"DeflateBlocks", "writeHead", "(LDeflateBlocks$Writer;I)V"⟩, prog_1_method_21_code, 6, none),
  (⟨"DeflateBlocks$Writer", "field", "(II)V"⟩, prog_12_method_5_code, 4, none),
  (⟨"DeflateBlocks$Writer", "bit", "(I)V"⟩, prog_12_method_4_code, 4, none),
  (⟨"DeflateBlocks$Packer", "packBlocks", "(LDeflateBlocks$Bytes;LDeflateBlocks$Cuts;LDeflateBlocks$Repeats;ILDeflateBlocks$BlockLog;)V"⟩, prog_9_method_2_code, 9, none),
  (⟨"DeflateBlocks$BlockLog", "clear", "()V"⟩, prog_2_method_2_code, 1, none),
  (⟨"DeflateBlocks$Repeats", "indexFrom", "(II)I"⟩, prog_11_method_5_code, 4, (some .int)),
  (⟨"DeflateBlocks$OwnCodes", "workOut", "(LDeflateBlocks$Repeats;II)V"⟩, prog_8_method_2_code, 4, none),
  (⟨"DeflateBlocks$OwnCodes", "countSteps", "(LDeflateBlocks$Repeats;II)V"⟩, prog_8_method_3_code, 7, none),
  (⟨"DeflateBlocks", "indexOfBase", "([II)I"⟩, prog_1_method_25_code, 3, (some .int)),
  (⟨"DeflateBlocks$Joining", "join", "([I[I)V"⟩, prog_6_method_2_code, 5, none),
  (⟨"DeflateBlocks$Joining", "sortLeaves", "([I)V"⟩, prog_6_method_3_code, 4, none),
  (⟨"DeflateBlocks$Joining", "joinAll", "()V"⟩, prog_6_method_4_code, 4, none),
  (⟨"DeflateBlocks$Joining", "takeLeast", "()I"⟩, prog_6_method_5_code, 3, (some .int)),
  (⟨"DeflateBlocks$Joining", "findDepths", "()V"⟩, prog_6_method_6_code, 5, none),
  (⟨"DeflateBlocks$OwnCodes", "fillRow", "()V"⟩, prog_8_method_4_code, 1, none),
  (⟨"DeflateBlocks$OwnCodes", "upToLast", "([II)I"⟩, prog_8_method_5_code, 3, (some .int)),
  (⟨"DeflateBlocks$OwnCodes", "tellRow", "()V"⟩, prog_8_method_6_code, 4, none),
  (⟨"DeflateBlocks$OwnCodes", "tellFrom", "(II)I"⟩, prog_8_method_7_code, 6, (some .int)),
  (⟨"DeflateBlocks$OwnCodes", "runFrom", "(II)I"⟩, prog_8_method_8_code, 4, (some .int)),
  (⟨"DeflateBlocks$OwnCodes", "tell", "(II)V"⟩, prog_8_method_9_code, 3, none),
  (⟨"DeflateBlocks$OwnCodes", "workOutRowCode", "()V"⟩, prog_8_method_10_code, 2, none),
  (⟨"DeflateBlocks$OwnCodes", "halve", "([I)V"⟩, prog_8_method_11_code, 2, none),
  (⟨"DeflateBlocks$Packer", "bestKind", "(LDeflateBlocks$Bytes;LDeflateBlocks$Repeats;)I"⟩, prog_9_method_3_code, 8, (some .int)),
  (⟨"DeflateBlocks$Packer", "writeBlock", "(ILDeflateBlocks$Bytes;LDeflateBlocks$Repeats;)V"⟩, prog_9_method_4_code, 4, none),
  (⟨"DeflateBlocks$Packer", "writePlain", "(LDeflateBlocks$Bytes;)V"⟩, prog_9_method_5_code, 4, none),
  (⟨"DeflateBlocks$Writer", "toByte", "()V"⟩, prog_12_method_8_code, 1, none),
  (⟨"DeflateBlocks$Packer", "writeSteps", "(LDeflateBlocks$Repeats;LDeflateBlocks$Code;LDeflateBlocks$Code;)V"⟩, prog_9_method_6_code, 5, none),
  (⟨"DeflateBlocks$Packer", "writeRepeat", "(LDeflateBlocks$Code;LDeflateBlocks$Code;II)V"⟩, prog_9_method_7_code, 7, none),
  (⟨"DeflateBlocks$Writer", "word", "(LDeflateBlocks$Code;I)V"⟩, prog_12_method_7_code, 4, none),
  (⟨"DeflateBlocks", "lengthBits", "(I)I"⟩, prog_1_method_23_code, 1, (some .int)),
  (⟨"DeflateBlocks", "distanceBits", "(I)I"⟩, prog_1_method_24_code, 1, (some .int)),
  (⟨"DeflateBlocks$OwnCodes", "write", "(LDeflateBlocks$Writer;)V"⟩, prog_8_method_12_code, 3, none),
  (⟨"DeflateBlocks", "rowFieldBits", "(I)I"⟩, prog_1_method_26_code, 1, (some .int)),
  (⟨"DeflateBlocks$BlockLog", "add", "(IIIII)V"⟩, prog_2_method_3_code, 7, none),
  (⟨"java/util/Arrays", "copyOf", "([II)[I"⟩, prog_18_method_123_code, 3, (some (.array .int))),
  (⟨"DeflateBlocks$BlockLog", "takeWidths", "(LDeflateBlocks$Code;LDeflateBlocks$Code;LDeflateBlocks$Code;)V"⟩, prog_2_method_4_code, 4, none),
  (⟨"DeflateBlocks$BlockLog", "copyWidths", "([I[I)V"⟩, prog_2_method_5_code, 2, none),
  (⟨"DeflateBlocks", "writeTail", "(LDeflateBlocks$Writer;I)V"⟩, prog_1_method_22_code, 3, none),
  (⟨"DeflateBlocks$Bytes", "adler", "()I"⟩, prog_3_method_6_code, 4, (some .int)),
  (⟨"DeflateBlocks$Writer", "highestFirst", "(I)V"⟩, prog_12_method_6_code, 3, none),
  (⟨"DeflateBlocks$Bytes", "crc", "()I"⟩, prog_3_method_7_code, 4, (some .int)),
  (⟨"DeflateBlocks$Writer", "fits", "()Z"⟩, prog_12_method_3_code, 1, (some .boolean)),
  (⟨"DeflateBlocks$Bytes", "copyFrom", "([II)V"⟩, prog_3_method_5_code, 4, none),
  (⟨"DeflateBlocks", "takeSpareLog", "()V"⟩, prog_1_method_20_code, 2, none),
  (⟨"DeflateBlocks", "open", "(I)I"⟩, prog_1_method_7_code, 3, (some .int)),
  (⟨"DeflateBlocks$Opener", "openTape", "(LDeflateBlocks$Bytes;ILDeflateBlocks$BlockLog;)I"⟩, prog_7_method_2_code, 6, (some .int)),
  (⟨"DeflateBlocks$Reader", "start", "(LDeflateBlocks$Bytes;)V"⟩, prog_10_method_2_code, 2, none),
  (⟨"DeflateBlocks$Opener", "readHead", "(I)V"⟩, prog_7_method_3_code, 5, none),
  (⟨"DeflateBlocks$Reader", "field", "(I)I"⟩, prog_10_method_5_code, 4, (some .int)),
  (⟨"DeflateBlocks$Reader", "bit", "()I"⟩, prog_10_method_4_code, 3, (some .int)),
  (⟨"DeflateBlocks$Reader", "fail", "(I)V"⟩, prog_10_method_3_code, 2, none),
  (⟨"DeflateBlocks$Opener", "readBlock", "(LDeflateBlocks$BlockLog;)Z"⟩, prog_7_method_5_code, 6, (some .boolean)),
  (⟨"DeflateBlocks$Opener", "readPlain", "()V"⟩, prog_7_method_6_code, 3, none),
  (⟨"DeflateBlocks$Reader", "toByte", "()V"⟩, prog_10_method_8_code, 1, none),
  (⟨"DeflateBlocks$Opener", "put", "(I)V"⟩, prog_7_method_7_code, 2, none),
  (⟨"DeflateBlocks$Opener", "readSteps", "(LDeflateBlocks$Code;LDeflateBlocks$Code;)V"⟩, prog_7_method_8_code, 5, none),
  (⟨"DeflateBlocks$Reader", "symbol", "(LDeflateBlocks$Code;)I"⟩, prog_10_method_7_code, 5, (some .int)),
  (⟨"DeflateBlocks$Code", "symbolOf", "(II)I"⟩, prog_4_method_7_code, 5, (some .int)),
  (⟨"DeflateBlocks$Opener", "readRepeat", "(ILDeflateBlocks$Code;)V"⟩, prog_7_method_9_code, 7, none),
  (⟨"DeflateBlocks$Opener", "readOwnCodes", "()V"⟩, prog_7_method_10_code, 4, none),
  (⟨"DeflateBlocks$Opener", "readRowCode", "(I)V"⟩, prog_7_method_11_code, 3, none),
  (⟨"DeflateBlocks$Opener", "readRow", "(I)V"⟩, prog_7_method_12_code, 4, none),
  (⟨"DeflateBlocks$Opener", "readWidths", "(III)I"⟩, prog_7_method_13_code, 8, (some .int)),
  (⟨"DeflateBlocks$Opener", "leastTimes", "(I)I"⟩, prog_7_method_14_code, 1, (some .int)),
  (⟨"DeflateBlocks$Opener", "takeRow", "(IILDeflateBlocks$Code;)V"⟩, prog_7_method_15_code, 5, none),
  (⟨"DeflateBlocks$Code", "isFitForDistances", "()Z"⟩, prog_4_method_8_code, 1, (some .boolean)),
  (⟨"DeflateBlocks$Opener", "readTail", "(I)V"⟩, prog_7_method_4_code, 2, none),
  (⟨"DeflateBlocks$Reader", "highestFirst", "()I"⟩, prog_10_method_6_code, 3, (some .int)),
  (⟨"DeflateBlocks$Reader", "hasBit", "()Z"⟩, prog_10_method_9_code, 1, (some .boolean)),
  (⟨"DeflateBlocks", "place", "()I"⟩, prog_1_method_8_code, 1, (some .int)),
  (⟨"DeflateBlocks", "block", "(II)I"⟩, prog_1_method_9_code, 3, (some .int)),
  (⟨"DeflateBlocks$BlockLog", "fact", "(II)I"⟩, prog_2_method_6_code, 4, (some .int)),
  (⟨"DeflateBlocks", "width", "(II)I"⟩, prog_1_method_10_code, 4, (some .int)),
  (⟨"DeflateBlocks$BlockLog", "widthsOf", "(I)[I"⟩, prog_2_method_7_code, 2, (some (.array .int))),
  (⟨"DeflateBlocks", "steps", "()I"⟩, prog_1_method_11_code, 1, (some .int)),
  (⟨"DeflateBlocks", "step", "(II)I"⟩, prog_1_method_12_code, 3, (some .int)),
  (⟨"DeflateBlocks", "sum", "(I)I"⟩, prog_1_method_13_code, 2, (some .int)),
  (⟨"DeflateBlocks", "tape", "(I)I"⟩, prog_1_method_14_code, 2, (some .int)),
  (⟨"DeflateBlocks", "flip", "(II)I"⟩, prog_1_method_15_code, 3, (some .int)),
  (⟨"DeflateBlocks", "keep", "(I)I"⟩, prog_1_method_16_code, 2, (some .int)),
  (⟨"DeflateBlocks", "more", "(I)I"⟩, prog_1_method_17_code, 2, (some .int)),
  (⟨"DeflateBlocksModel", "<init>", "()V"⟩, prog_14_method_1_code, 1, none),
  (⟨"DeflateBlocksModel", "octet", "(I)I"⟩, prog_14_method_10_code, 2, (some .int)),
  (⟨"DeflateBlocksModel", "in", "(III)Z"⟩, prog_14_method_3_code, 3, (some .boolean)),
  (⟨"DeflateBlocksModel", "empty", "()I"⟩, prog_14_method_11_code, 2, (some .int)),
  (⟨"DeflateBlocksModel", "cutAt", "(I)I"⟩, prog_14_method_12_code, 3, (some .int)),
  (⟨"DeflateBlocksModel", "at", "(I)I"⟩, prog_14_method_13_code, 2, (some .int)),
  (⟨"DeflateBlocksModel", "steps", "()I"⟩, prog_14_method_16_code, 1, (some .int)),
  (⟨"DeflateBlocksModel", "laySteps", "()V"⟩, prog_14_method_15_code, 7, none),
  (⟨"DeflateBlocksModel", "endOf", "(I)I"⟩, prog_14_method_14_code, 4, (some .int)),
  (⟨"DeflateBlocksModel", "step", "(II)I"⟩, prog_14_method_17_code, 3, (some .int)),
  (⟨"DeflateBlocksModel", "sum", "(I)I"⟩, prog_14_method_20_code, 2, (some .int)),
  (⟨"DeflateBlocksModel", "adler", "()I"⟩, prog_14_method_18_code, 4, (some .int)),
  (⟨"DeflateBlocksModel", "crc", "()I"⟩, prog_14_method_19_code, 4, (some .int)),
  (⟨"DeflateBlocksModel", "pack", "(II)I"⟩, prog_14_method_41_code, 10, (some .int)),
  (⟨"DeflateBlocksModel", "field", "(II)V"⟩, prog_14_method_26_code, 4, none),
  (⟨"DeflateBlocksModel", "writeBlock", "(III)V"⟩, prog_14_method_37_code, 5, none),
  (⟨"DeflateBlocksModel", "align", "()V"⟩, prog_14_method_28_code, 1, none),
  (⟨"DeflateBlocksModel", "layFixed", "()V"⟩, prog_14_method_29_code, 2, none),
  (⟨"DeflateBlocksModel", "writeSteps", "(II)V"⟩, prog_14_method_30_code, 6, none),
  (⟨"DeflateBlocksModel", "word", "([III)V"⟩, prog_14_method_27_code, 6, none),
  (⟨"DeflateBlocksModel", "wordOf", "([III)I"⟩, prog_14_method_22_code, 6, (some .int)),
  (⟨"DeflateBlocksModel", "countWidths", "([II)V"⟩, prog_14_method_21_code, 4, none),
  (⟨"DeflateBlocksModel", "lengthCode", "(I)I"⟩, prog_14_method_8_code, 2, (some .int)),
  (⟨"DeflateBlocksModel", "lengthBase", "(I)I"⟩, prog_14_method_5_code, 3, (some .int)),
  (⟨"DeflateBlocksModel", "lengthBits", "(I)I"⟩, prog_14_method_4_code, 1, (some .int)),
  (⟨"DeflateBlocksModel", "distanceCode", "(I)I"⟩, prog_14_method_9_code, 2, (some .int)),
  (⟨"DeflateBlocksModel", "distanceBase", "(I)I"⟩, prog_14_method_7_code, 3, (some .int)),
  (⟨"DeflateBlocksModel", "distanceBits", "(I)I"⟩, prog_14_method_6_code, 1, (some .int)),
  (⟨"DeflateBlocksModel", "writeOwn", "(II)V"⟩, prog_14_method_36_code, 7, none),
  (⟨"DeflateBlocksModel", "layOwn", "(II)V"⟩, prog_14_method_31_code, 5, none),
  (⟨"DeflateBlocksModel", "layWidths", "([II[I)V"⟩, prog_14_method_24_code, 10, none),
  (⟨"DeflateBlocksModel", "leastOf", "(II)I"⟩, prog_14_method_25_code, 5, (some .int)),
  (⟨"DeflateBlocksModel", "layRow", "(I)V"⟩, prog_14_method_32_code, 7, none),
  (⟨"DeflateBlocksModel", "layWidthCode", "()V"⟩, prog_14_method_34_code, 3, none),
  (⟨"DeflateBlocksModel", "widthPlace", "(I)I"⟩, prog_14_method_35_code, 1, (some .int)),
  (⟨"DeflateBlocksModel", "rowBits", "(I)I"⟩, prog_14_method_33_code, 1, (some .int)),
  (⟨"DeflateBlocksModel", "note", "(IIIII)V"⟩, prog_14_method_38_code, 7, none),
  (⟨"DeflateBlocksModel", "highFirst", "(I)V"⟩, prog_14_method_40_code, 3, none),
  (⟨"DeflateBlocksModel", "takeNotes", "()V"⟩, prog_14_method_39_code, 2, none),
  (⟨"DeflateBlocksModel", "open", "(I)I"⟩, prog_14_method_54_code, 6, (some .int)),
  (⟨"DeflateBlocksModel", "readHead", "(I)V"⟩, prog_14_method_51_code, 6, none),
  (⟨"DeflateBlocksModel", "number", "(I)I"⟩, prog_14_method_44_code, 4, (some .int)),
  (⟨"DeflateBlocksModel", "bit", "()I"⟩, prog_14_method_43_code, 1, (some .int)),
  (⟨"DeflateBlocksModel", "fail", "(I)V"⟩, prog_14_method_42_code, 2, none),
  (⟨"DeflateBlocksModel", "readPlain", "()V"⟩, prog_14_method_48_code, 4, none),
  (⟨"DeflateBlocksModel", "come", "(I)V"⟩, prog_14_method_47_code, 2, none),
  (⟨"DeflateBlocksModel", "readWidths", "()V"⟩, prog_14_method_49_code, 9, none),
  (⟨"DeflateBlocksModel", "leftOf", "([II)I"⟩, prog_14_method_23_code, 5, (some .int)),
  (⟨"DeflateBlocksModel", "symbol", "([II)I"⟩, prog_14_method_45_code, 8, (some .int)),
  (⟨"DeflateBlocksModel", "nth", "([IIII)I"⟩, prog_14_method_46_code, 6, (some .int)),
  (⟨"DeflateBlocksModel", "readWords", "()V"⟩, prog_14_method_50_code, 7, none),
  (⟨"DeflateBlocksModel", "readTail", "(I)V"⟩, prog_14_method_53_code, 4, none),
  (⟨"DeflateBlocksModel", "freshSum", "(Z)I"⟩, prog_14_method_52_code, 6, (some .int)),
  (⟨"DeflateBlocksModel", "place", "()I"⟩, prog_14_method_55_code, 1, (some .int)),
  (⟨"DeflateBlocksModel", "block", "(II)I"⟩, prog_14_method_56_code, 3, (some .int)),
  (⟨"DeflateBlocksModel", "width", "(II)I"⟩, prog_14_method_57_code, 3, (some .int)),
  (⟨"DeflateBlocksModel", "tape", "(I)I"⟩, prog_14_method_58_code, 4, (some .int)),
  (⟨"DeflateBlocksModel", "flip", "(II)I"⟩, prog_14_method_59_code, 3, (some .int)),
  (⟨"DeflateBlocksModel", "keep", "(I)I"⟩, prog_14_method_60_code, 2, (some .int)),
  (⟨"DeflateBlocksModel", "more", "(I)I"⟩, prog_14_method_61_code, 3, (some .int))]
def db_mi (y : Nat) : db_M := db_ms.getD y (x, code, 4, some .boolean)
def db_my (y : Nat) : MethodName := (db_mi y).1
def db_ow (y : Nat) : String := (db_my y).cls
def db_by (y : Nat) : ByteArray := (db_mi y).2.1
def db_ml (y : Nat) : Nat := (db_mi y).2.2.1
def db_rt (y : Nat) : Option FieldType := (db_mi y).2.2.2
/-- frames and words of locals that a call of the method needs -/
def db_dl : List (Nat × Nat) := [(8, 197), (5, 110), (1, 21), (1, 20), (1, 20), (4, 90), (1, 20), (3, 69), (1, 21), (2, 47), (1, 23), (0, 0), (1, 23), (3, 69), (2, 43), (1, 20), (4, 90), (1, 20), (1, 20), (1, 21), (0, 0), (0, 0), (0, 0), (1, 22), (0, 0), (2, 42), (1, 21), (0, 0), (7, 174), (3, 76), (2, 51), (0, 0), (1, 25), (0, 0), (1, 21), (2, 46), (1, 23), (0, 0), (6, 146), (0, 0), (1, 21), (4, 90), (1, 23), (0, 0), (2, 45), (0, 0), (1, 22), (0, 0), (1, 21), (1, 26), (0, 0), (2, 48), (1, 23), (0, 0), (0, 0), (3, 69), (0, 0), (5, 119), (4, 96), (3, 66), (2, 46), (3, 72), (2, 46), (1, 23), (0, 0), (0, 0), (2, 46), (0, 0), (2, 48), (1, 26), (2, 47), (1, 26), (3, 68), (0, 0), (2, 46), (0, 0), (0, 0), (1, 26), (0, 0), (7, 168), (6, 143), (0, 0), (2, 45), (1, 22), (0, 0), (0, 0), (5, 118), (2, 45), (0, 0), (1, 21), (3, 74), (1, 24), (0, 0), (2, 48), (4, 95), (3, 69), (3, 72), (2, 45), (0, 0), (3, 69), (0, 0), (3, 67), (2, 45), (0, 0), (0, 0), (1, 23), (0, 0), (1, 21), (0, 0), (4, 96), (4, 96), (1, 23), (2, 42), (1, 21), (0, 0), (1, 21), (1, 20), (1, 22), (0, 0), (0, 0), (1, 22), (1, 22), (2, 49), (1, 23), (0, 0), (2, 49), (1, 23), (0, 0), (0, 0), (6, 148), (0, 0), (5, 124), (0, 0), (0, 0), (3, 73), (2, 48), (1, 23), (0, 0), (2, 42), (1, 20), (0, 0), (2, 42), (1, 20), (0, 0), (4, 98), (3, 63), (1, 24), (0, 0), (0, 0), (2, 53), (0, 0), (0, 0), (0, 0), (1, 23), (0, 0), (4, 96), (3, 64), (2, 41), (1, 21), (0, 0), (3, 64), (1, 21), (3, 68), (0, 0), (2, 41), (0, 0), (3, 68), (3, 64), (0, 0), (0, 0), (1, 22), (1, 22), (1, 22), (2, 45), (1, 22), (1, 22)]
def db_dp (y : Nat) : Nat := (db_dl.getD y (0, 0)).1
def db_lo (y : Nat) : Nat := (db_dl.getD y (0, 0)).2
/-- of a method: places of the words code, (is it static) static or instanceMethod, selects, initialized; how many parameters -/
def db_mw : List (Nat × Nat × Nat × Nat × Nat × Nat) := [(0, 0, 0, 0, 0, 0), (89, 0, 88, 0, 69, 0), (97, 0, 96, 0, 70, 1), (122, 0, 121, 0, 72, 0), (136, 0, 135, 0, 73, 0), (169, 0, 168, 0, 74, 0), (175, 0, 174, 0, 75, 0), (189, 1, 188, 0, 76, 0), (194, 0, 193, 0, 76, 1), (239, 0, 237, 238, 76, 0), (243, 0, 242, 0, 76, 0), (246, 1, 245, 0, 77, 2), (250, 0, 249, 1, 76, 0), (253, 1, 252, 0, 76, 0), (258, 0, 257, 0, 78, 0), (266, 0, 265, 0, 79, 0), (369, 0, 368, 0, 80, 0), (375, 0, 374, 0, 81, 0), (430, 0, 429, 0, 82, 0), (486, 0, 484, 485, 69, 1), (489, 1, 488, 0, 69, 1), (493, 0, 491, 492, 70, 1), (497, 0, 495, 496, 69, 0), (501, 0, 499, 500, 69, 1), (505, 0, 503, 504, 72, 1), (509, 0, 507, 508, 69, 1), (513, 0, 511, 512, 70, 1), (517, 0, 515, 516, 70, 1), (521, 0, 519, 520, 69, 2), (525, 0, 524, 2, 69, 0), (529, 0, 527, 528, 73, 2), (534, 0, 532, 533, 72, 2), (541, 0, 540, 3, 73, 3), (544, 1, 543, 0, 73, 4), (549, 0, 547, 548, 75, 1), (553, 1, 552, 0, 69, 2), (557, 0, 555, 556, 75, 2), (561, 0, 560, 4, 75, 1), (567, 0, 565, 566, 74, 5), (571, 0, 569, 570, 82, 0), (576, 0, 574, 575, 73, 2), (581, 0, 579, 580, 78, 3), (585, 0, 584, 5, 78, 3), (592, 1, 591, 0, 69, 2), (599, 0, 597, 598, 79, 2), (604, 0, 603, 6, 79, 1), (608, 0, 607, 7, 79, 0), (612, 0, 611, 8, 79, 0), (616, 0, 615, 9, 79, 0), (622, 0, 621, 10, 78, 0), (625, 1, 624, 0, 78, 2), (632, 0, 631, 11, 78, 0), (637, 0, 636, 12, 78, 2), (641, 0, 640, 13, 78, 2), (645, 0, 644, 14, 78, 2), (649, 0, 648, 15, 78, 0), (652, 1, 651, 0, 78, 1), (658, 0, 657, 16, 74, 2), (662, 0, 661, 17, 74, 3), (667, 0, 666, 18, 74, 1), (671, 0, 669, 670, 75, 0), (678, 0, 677, 19, 74, 3), (683, 0, 682, 20, 74, 4), (689, 0, 687, 688, 75, 2), (692, 1, 691, 0, 69, 1), (696, 1, 695, 0, 69, 1), (700, 0, 698, 699, 78, 1), (705, 1, 704, 0, 69, 1), (710, 0, 708, 709, 82, 5), (714, 1, 713, 0, 77, 2), (727, 0, 725, 726, 82, 3), (730, 1, 729, 0, 82, 2), (736, 0, 735, 21, 69, 2), (740, 0, 738, 739, 70, 0), (745, 0, 743, 744, 75, 1), (749, 0, 747, 748, 70, 0), (754, 0, 752, 753, 75, 0), (758, 0, 756, 757, 70, 2), (764, 0, 763, 22, 69, 0), (768, 0, 766, 767, 69, 1), (772, 0, 770, 771, 80, 3), (776, 0, 774, 775, 81, 1), (781, 0, 780, 23, 80, 1), (785, 0, 783, 784, 81, 1), (789, 0, 787, 788, 81, 0), (793, 0, 791, 792, 81, 1), (798, 0, 797, 24, 80, 1), (802, 0, 801, 25, 80, 0), (806, 0, 804, 805, 81, 0), (811, 0, 810, 26, 80, 1), (816, 0, 815, 27, 80, 2), (820, 0, 818, 819, 81, 1), (824, 0, 822, 823, 76, 2), (829, 0, 828, 28, 80, 2), (838, 0, 837, 29, 80, 0), (842, 0, 841, 30, 80, 1), (849, 0, 848, 31, 80, 1), (853, 0, 852, 32, 80, 3), (856, 1, 855, 0, 80, 1), (861, 0, 860, 33, 80, 3), (865, 0, 863, 864, 76, 0), (871, 0, 870, 34, 80, 1), (875, 0, 873, 874, 81, 0), (882, 0, 880, 881, 81, 0), (886, 0, 884, 885, 69, 0), (890, 0, 888, 889, 69, 2), (894, 0, 892, 893, 82, 2), (898, 0, 896, 897, 69, 2), (902, 0, 900, 901, 82, 1), (906, 0, 904, 905, 69, 0), (910, 0, 908, 909, 69, 2), (914, 0, 912, 913, 69, 1), (918, 0, 916, 917, 69, 1), (922, 0, 920, 921, 69, 2), (927, 0, 925, 926, 69, 1), (931, 0, 929, 930, 69, 1), (936, 0, 935, 0, 83, 0), (1096, 0, 1094, 1095, 83, 1), (1099, 1, 1098, 0, 83, 3), (1103, 0, 1101, 1102, 83, 0), (1107, 0, 1105, 1106, 83, 1), (1111, 0, 1109, 1110, 83, 1), (1115, 0, 1113, 1114, 83, 0), (1119, 0, 1118, 35, 83, 0), (1123, 0, 1122, 36, 83, 1), (1127, 0, 1125, 1126, 83, 2), (1131, 0, 1129, 1130, 83, 1), (1135, 0, 1134, 37, 83, 0), (1140, 0, 1139, 38, 83, 0), (1145, 0, 1143, 1144, 83, 2), (1149, 0, 1148, 39, 83, 2), (1153, 0, 1152, 40, 83, 3), (1157, 0, 1156, 41, 83, 0), (1162, 0, 1161, 42, 83, 0), (1166, 0, 1165, 43, 83, 2), (1170, 0, 1169, 44, 83, 3), (1174, 0, 1173, 45, 83, 3), (1178, 0, 1177, 46, 83, 2), (1181, 1, 1180, 0, 83, 1), (1184, 1, 1183, 0, 83, 1), (1187, 1, 1186, 0, 83, 1), (1190, 1, 1189, 0, 83, 1), (1193, 1, 1192, 0, 83, 1), (1196, 1, 1195, 0, 83, 1), (1200, 0, 1199, 47, 83, 2), (1204, 0, 1203, 48, 83, 2), (1208, 0, 1207, 49, 83, 3), (1212, 0, 1211, 50, 83, 2), (1216, 0, 1215, 51, 83, 1), (1220, 0, 1219, 52, 83, 0), (1223, 1, 1222, 0, 83, 1), (1226, 1, 1225, 0, 83, 1), (1230, 0, 1229, 53, 83, 5), (1234, 0, 1233, 54, 83, 1), (1238, 0, 1237, 55, 83, 0), (1242, 0, 1240, 1241, 83, 1), (1246, 0, 1245, 56, 83, 1), (1250, 0, 1249, 57, 83, 1), (1254, 0, 1253, 58, 83, 0), (1258, 0, 1257, 59, 83, 1), (1263, 0, 1262, 60, 83, 0), (1267, 0, 1266, 61, 83, 1), (1271, 0, 1270, 62, 83, 0), (1275, 0, 1274, 63, 83, 2), (1280, 0, 1279, 64, 83, 2), (1283, 1, 1282, 0, 83, 4), (1287, 0, 1286, 65, 83, 0), (1291, 0, 1290, 66, 83, 1), (1295, 0, 1294, 67, 83, 1), (1299, 0, 1297, 1298, 83, 0), (1303, 0, 1301, 1302, 83, 2), (1307, 0, 1305, 1306, 83, 2), (1311, 0, 1309, 1310, 83, 1), (1315, 0, 1313, 1314, 83, 2), (1320, 0, 1318, 1319, 83, 1), (1324, 0, 1322, 1323, 83, 1)]
/-- static arrays -/
def db_sf : List (String × String × String) := [("DeflateBlocks", "LENGTH_BASES", "[I"), ("DeflateBlocks", "DISTANCE_BASES", "[I"), ("DeflateBlocks", "ROW_ORDER", "[I"), ("DeflateBlocks", "CRC_HEAD", "[I")]
