/-! printed by wip/whole/gen2.py out of the claim's own tables: names, places of words, methods, links. (The rows of R, T, ty, nm are those of the printed names.) -/
def RX0 : String := "ImageFile$Bytes"
def RX1 : String := "ImageFile$Image"
def RX2 : String := "ImageFile$Layout"
def RX3 : String := "ImageFile$Reader"
def RX4 : String := "ImageFile$Segment"
def RX5 : String := "ImageFile$Sum"
def RX6 : String := "ImageFile$Writer"
def RX7 : String := "ImageFile"
def RX8 : String := "ImageFileModel"
def RJ7 : String := "java/util/Arrays"
def RL : String := "ImageFileLaw"
def TX0 : u_T := fun k => match k with
  | 0 => ("ImageFile$Bytes", "limit", "I", true)
  | 1 => ("ImageFile$Bytes", "row", "[B", false)
  | _ => ("ImageFile$Bytes", "count", "I", false)
def tyX0 : Nat → FieldType := fun k => match k with
  | 0 => .int
  | 1 => .array .byte
  | _ => .int
theorem nmX0 : ∀ a, a < 3 → ∀ b, b < 3 → a ≠ b → (TX0 a).2.1 ≠ (TX0 b).2.1 := by decide +kernel
theorem tyX0_ok : ∀ k, k < 3 → parseFieldDescriptor (TX0 k).2.2.1 = some (tyX0 k) := by decide +kernel
def TX1 : u_T := fun k => match k with
  | 0 => ("ImageFile$Image", "segments", "[LImageFile$Segment;", true)
  | 1 => ("ImageFile$Image", "text", "LImageFile$Segment;", true)
  | 2 => ("ImageFile$Image", "markBytes", "[B", true)
  | 3 => ("ImageFile$Image", "entryAddress", "I", false)
  | _ => ("ImageFile$Image", "pageSize", "I", false)
def tyX1 : Nat → FieldType := fun k => match k with
  | 0 => .array (.object "ImageFile$Segment")
  | 1 => .object "ImageFile$Segment"
  | 2 => .array .byte
  | 3 => .int
  | _ => .int
theorem nmX1 : ∀ a, a < 5 → ∀ b, b < 5 → a ≠ b → (TX1 a).2.1 ≠ (TX1 b).2.1 := by decide +kernel
theorem tyX1_ok : ∀ k, k < 5 → parseFieldDescriptor (TX1 k).2.2.1 = some (tyX1 k) := by decide +kernel
def TX3 : u_T := fun k => match k with
  | 0 => ("ImageFile$Reader", "file", "LImageFile$Bytes;", true)
  | 1 => ("ImageFile$Reader", "draft", "LImageFile$Image;", true)
  | 2 => ("ImageFile$Reader", "rowOf", "[I", true)
  | 3 => ("ImageFile$Reader", "tableBegin", "I", false)
  | 4 => ("ImageFile$Reader", "rows", "I", false)
  | 5 => ("ImageFile$Reader", "noteRow", "I", false)
  | 6 => ("ImageFile$Reader", "noteBegin", "I", false)
  | 7 => ("ImageFile$Reader", "noteLength", "I", false)
  | _ => ("ImageFile$Reader", "faultPlace", "I", false)
def tyX3 : Nat → FieldType := fun k => match k with
  | 0 => .object "ImageFile$Bytes"
  | 1 => .object "ImageFile$Image"
  | 2 => .array .int
  | 3 => .int
  | 4 => .int
  | 5 => .int
  | 6 => .int
  | 7 => .int
  | _ => .int
theorem nmX3 : ∀ a, a < 9 → ∀ b, b < 9 → a ≠ b → (TX3 a).2.1 ≠ (TX3 b).2.1 := by decide +kernel
theorem tyX3_ok : ∀ k, k < 9 → parseFieldDescriptor (TX3 k).2.2.1 = some (tyX3 k) := by decide +kernel
def TX4 : u_T := fun k => match k with
  | 0 => ("ImageFile$Segment", "permits", "I", true)
  | 1 => ("ImageFile$Segment", "bytes", "LImageFile$Bytes;", true)
  | 2 => ("ImageFile$Segment", "there", "Z", false)
  | 3 => ("ImageFile$Segment", "address", "I", false)
  | _ => ("ImageFile$Segment", "more", "I", false)
def tyX4 : Nat → FieldType := fun k => match k with
  | 0 => .int
  | 1 => .object "ImageFile$Bytes"
  | 2 => .boolean
  | 3 => .int
  | _ => .int
theorem nmX4 : ∀ a, a < 5 → ∀ b, b < 5 → a ≠ b → (TX4 a).2.1 ≠ (TX4 b).2.1 := by decide +kernel
theorem tyX4_ok : ∀ k, k < 5 → parseFieldDescriptor (TX4 k).2.2.1 = some (tyX4 k) := by decide +kernel
def TX6 : u_T := fun k => match k with
  | 0 => ("ImageFile$Writer", "file", "LImageFile$Bytes;", true)
  | 1 => ("ImageFile$Writer", "begins", "[I", true)
  | 2 => ("ImageFile$Writer", "noteBegin", "I", false)
  | _ => ("ImageFile$Writer", "rows", "I", false)
def tyX6 : Nat → FieldType := fun k => match k with
  | 0 => .object "ImageFile$Bytes"
  | 1 => .array .int
  | 2 => .int
  | _ => .int
theorem nmX6 : ∀ a, a < 4 → ∀ b, b < 4 → a ≠ b → (TX6 a).2.1 ≠ (TX6 b).2.1 := by decide +kernel
theorem tyX6_ok : ∀ k, k < 4 → parseFieldDescriptor (TX6 k).2.2.1 = some (tyX6 k) := by decide +kernel
def TX7 : u_T := fun k => match k with
  | 0 => ("ImageFile", "made", "LImageFile$Image;", true)
  | 1 => ("ImageFile", "seen", "LImageFile$Image;", true)
  | 2 => ("ImageFile", "file", "LImageFile$Bytes;", true)
  | 3 => ("ImageFile", "writer", "LImageFile$Writer;", true)
  | _ => ("ImageFile", "reader", "LImageFile$Reader;", true)
def tyX7 : Nat → FieldType := fun k => match k with
  | 0 => .object "ImageFile$Image"
  | 1 => .object "ImageFile$Image"
  | 2 => .object "ImageFile$Bytes"
  | 3 => .object "ImageFile$Writer"
  | _ => .object "ImageFile$Reader"
theorem nmX7 : ∀ a, a < 5 → ∀ b, b < 5 → a ≠ b → (TX7 a).2.1 ≠ (TX7 b).2.1 := by decide +kernel
theorem tyX7_ok : ∀ k, k < 5 → parseFieldDescriptor (TX7 k).2.2.1 = some (tyX7 k) := by decide +kernel
def TX8 : u_T := fun k => match k with
  | 0 => ("ImageFileModel", "there", "[Z", true)
  | 1 => ("ImageFileModel", "address", "[I", true)
  | 2 => ("ImageFileModel", "more", "[I", true)
  | 3 => ("ImageFileModel", "many", "[I", true)
  | 4 => ("ImageFileModel", "bytes", "[I", true)
  | 5 => ("ImageFileModel", "marks", "[Z", true)
  | 6 => ("ImageFileModel", "entry", "[I", true)
  | 7 => ("ImageFileModel", "page", "[I", true)
  | 8 => ("ImageFileModel", "file", "[I", true)
  | 9 => ("ImageFileModel", "filed", "I", false)
  | 10 => ("ImageFileModel", "place", "I", false)
  | 11 => ("ImageFileModel", "table", "I", false)
  | 12 => ("ImageFileModel", "rows", "I", false)
  | 13 => ("ImageFileModel", "rowOf", "[I", true)
  | 14 => ("ImageFileModel", "begins", "[I", true)
  | _ => ("ImageFileModel", "sum", "I", false)
def tyX8 : Nat → FieldType := fun k => match k with
  | 0 => .array .boolean
  | 1 => .array .int
  | 2 => .array .int
  | 3 => .array .int
  | 4 => .array .int
  | 5 => .array .boolean
  | 6 => .array .int
  | 7 => .array .int
  | 8 => .array .int
  | 9 => .int
  | 10 => .int
  | 11 => .int
  | 12 => .int
  | 13 => .array .int
  | 14 => .array .int
  | _ => .int
theorem nmX8 : ∀ a, a < 16 → ∀ b, b < 16 → a ≠ b → (TX8 a).2.1 ≠ (TX8 b).2.1 := by decide +kernel
theorem tyX8_ok : ∀ k, k < 16 → parseFieldDescriptor (TX8 k).2.2.1 = some (tyX8 k) := by decide +kernel
def px_cl : List vw_C := [(RX0, TX0, 3), (RX1, TX1, 5), (RX3, TX3, 9), (RX4, TX4, 5), (RX6, TX6, 4), (RX7, TX7, 5), (RX8, TX8, 16)]
def px_ftL : List (Nat → FieldType) := [tyX0, tyX1, tyX3, tyX4, tyX6, tyX7, tyX8]
def px_ft (ci : Nat) : Nat → FieldType := px_ftL.getD ci tyX0
def px_cnL : List String := [RX0, RX1, RX2, RX3, RX4, RX5, RX6, RX7, RX8, RJ7, RL]
def px_cn (o : Nat) : String := px_cnL.getD o ""
def px_ynL : List MethodName := [
  ⟨RX7, "<init>", "()V"⟩, ⟨RX1, "<init>", "()V"⟩, ⟨RX4, "<init>", "(I)V"⟩, ⟨RX0, "<init>", "(I)V"⟩,
  ⟨RX6, "<init>", "(LImageFile$Bytes;)V"⟩, ⟨RX3, "<init>", "(LImageFile$Bytes;)V"⟩, ⟨RX7, "clear", "()V"⟩, ⟨RX1, "becomeEmpty", "()V"⟩,
  ⟨RX4, "leave", "()V"⟩, ⟨RX0, "shorten", "(I)Z"⟩, ⟨RJ7, "fill", "([BB)V"⟩, ⟨RX7, "entry", "(I)V"⟩,
  ⟨RX7, "page", "(I)Z"⟩, ⟨RX7, "segment", "(III)Z"⟩, ⟨RX1, "segmentOrNull", "(I)LImageFile$Segment;"⟩, ⟨RX4, "lieAt", "(II)V"⟩,
  ⟨RX7, "drop", "(I)Z"⟩, ⟨RX7, "put", "(IIJ)Z"⟩, ⟨RX0, "addHighest", "(IJ)Z"⟩, ⟨RX0, "makeRoom", "(I)Z"⟩,
  ⟨RJ7, "copyOf", "([BI)[B"⟩, ⟨RX7, "mark", "(IZ)Z"⟩, ⟨RX1, "canHaveMark", "(I)Z"⟩, ⟨RX1, "hasMark", "(I)Z"⟩,
  ⟨RX1, "markBit", "(I)I"⟩, ⟨RX1, "turnMark", "(I)V"⟩, ⟨RX7, "write", "()I"⟩, ⟨RX1, "faultOfGood", "()I"⟩,
  ⟨RX1, "hasWholeText", "()Z"⟩, ⟨RX1, "firstBeyondMemory", "()I"⟩, ⟨RX4, "memoryEnd", "()I"⟩, ⟨RX4, "memorySize", "()I"⟩,
  ⟨RX1, "firstMeetingPair", "()I"⟩, ⟨RX4, "meets", "(LImageFile$Segment;)Z"⟩, ⟨RX1, "firstBadMark", "()I"⟩, ⟨RX1, "instructionFits", "(I)Z"⟩,
  ⟨RX1, "instructionLength", "(I)I"⟩, ⟨RX0, "at", "(I)I"⟩, ⟨RX1, "entryHasMark", "()Z"⟩, ⟨RX1, "offsetOf", "(I)I"⟩,
  ⟨RX6, "writeOut", "(LImageFile$Image;)I"⟩, ⟨RX6, "layOut", "(LImageFile$Image;)V"⟩, ⟨RX2, "upToFour", "(I)I"⟩, ⟨RX2, "noteLength", "(LImageFile$Image;)I"⟩,
  ⟨RX1, "markByteCount", "()I"⟩, ⟨RX6, "addHeader", "(LImageFile$Image;)V"⟩, ⟨RX0, "addByte", "(I)V"⟩, ⟨RX0, "addNumber", "(II)V"⟩,
  ⟨RX0, "addU2", "(I)V"⟩, ⟨RX0, "addU4", "(I)V"⟩, ⟨RX1, "flags", "()I"⟩, ⟨RX1, "countShortMarks", "()I"⟩,
  ⟨RX0, "addZerosTo", "(I)V"⟩, ⟨RX6, "addTable", "(LImageFile$Image;)V"⟩, ⟨RX6, "addRowStart", "(III)V"⟩, ⟨RX6, "addRowEnd", "(IIII)V"⟩,
  ⟨RX6, "addSegments", "(LImageFile$Image;)V"⟩, ⟨RX0, "addPart", "(LImageFile$Bytes;II)V"⟩, ⟨RX6, "addNote", "(LImageFile$Image;)V"⟩, ⟨RX1, "sum", "()I"⟩,
  ⟨RX5, "withNumber", "(II)I"⟩, ⟨RX5, "withByte", "(II)I"⟩, ⟨RX5, "withBytes", "(ILImageFile$Bytes;)I"⟩, ⟨RX1, "markByte", "(I)I"⟩,
  ⟨RX7, "size", "()I"⟩, ⟨RX7, "byteAt", "(I)I"⟩, ⟨RX7, "feed", "(IJ)Z"⟩, ⟨RX7, "cut", "(I)Z"⟩,
  ⟨RX7, "spoil", "(II)I"⟩, ⟨RX0, "change", "(II)V"⟩, ⟨RX7, "read", "()I"⟩, ⟨RX3, "examine", "()I"⟩,
  ⟨RX3, "headFault", "()I"⟩, ⟨RX3, "faultAt", "(II)I"⟩, ⟨RX3, "faultOfHeadByte", "(I)I"⟩, ⟨RX0, "u2", "(I)I"⟩,
  ⟨RX3, "numbersFault", "()I"⟩, ⟨RX3, "firstWrongNumber", "()I"⟩, ⟨RX0, "u4", "(I)J"⟩, ⟨RX3, "tableFault", "()I"⟩,
  ⟨RX3, "rowFault", "(I)I"⟩, ⟨RX3, "noteRowFault", "(I)I"⟩, ⟨RX3, "isPage", "(J)Z"⟩, ⟨RX3, "segmentRowFault", "(I)I"⟩,
  ⟨RX3, "segmentWith", "(J)I"⟩, ⟨RX3, "sharesBytes", "(I)Z"⟩, ⟨RX3, "meet", "(JJJJ)Z"⟩, ⟨RX3, "takeNote", "(I)V"⟩,
  ⟨RX3, "takeSegment", "(I)V"⟩, ⟨RX3, "memoryFault", "()I"⟩, ⟨RX3, "noteFault", "()I"⟩, ⟨RX3, "firstWrongInNote", "()I"⟩,
  ⟨RX3, "restFault", "()I"⟩, ⟨RX3, "marksFault", "()I"⟩, ⟨RX1, "setMarkByte", "(II)V"⟩, ⟨RX1, "becomeLike", "(LImageFile$Image;)V"⟩,
  ⟨RX4, "becomeLike", "(LImageFile$Segment;)V"⟩, ⟨RX0, "becomeLike", "(LImageFile$Bytes;)V"⟩, ⟨RX7, "place", "()I"⟩, ⟨RX7, "keep", "()V"⟩,
  ⟨RX7, "about", "(II)I"⟩, ⟨RX4, "numberAbout", "(I)I"⟩, ⟨RX7, "told", "(I)I"⟩, ⟨RX1, "countMarks", "()I"⟩,
  ⟨RX7, "byteIn", "(I)I"⟩, ⟨RX1, "memoryByte", "(I)I"⟩, ⟨RX1, "segmentAround", "(I)LImageFile$Segment;"⟩, ⟨RX4, "isAround", "(I)Z"⟩,
  ⟨RX4, "memoryByte", "(I)I"⟩, ⟨RX7, "wordIn", "(I)I"⟩, ⟨RX7, "rights", "(I)I"⟩, ⟨RX7, "marked", "(I)I"⟩,
  ⟨RX7, "markBelow", "(I)I"⟩, ⟨RX1, "lastMarkUpTo", "(I)I"⟩, ⟨RX8, "<init>", "()V"⟩, ⟨RX8, "clear", "()V"⟩,
  ⟨RX8, "entry", "(I)V"⟩, ⟨RX8, "page", "(I)Z"⟩, ⟨RX8, "segment", "(III)Z"⟩, ⟨RX8, "isSegment", "(I)Z"⟩,
  ⟨RX8, "drop", "(I)Z"⟩, ⟨RX8, "put", "(IIJ)Z"⟩, ⟨RX8, "byteOf", "(JI)I"⟩, ⟨RX8, "mark", "(IZ)Z"⟩,
  ⟨RX8, "write", "()I"⟩, ⟨RX8, "bad", "(I)I"⟩, ⟨RX8, "endOf", "(I)I"⟩, ⟨RX8, "meets", "(II)Z"⟩,
  ⟨RX8, "wrongMark", "(I)I"⟩, ⟨RX8, "isRight", "(II)Z"⟩, ⟨RX8, "sizeOfMark", "(II)I"⟩, ⟨RX8, "isShort", "(I)Z"⟩,
  ⟨RX8, "isMarkAt", "(II)Z"⟩, ⟨RX8, "upTo4", "(I)I"⟩, ⟨RX8, "markBytes", "(I)I"⟩, ⟨RX8, "write4", "(II)V"⟩,
  ⟨RX8, "write2", "(II)V"⟩, ⟨RX8, "shortsIn", "(I)I"⟩, ⟨RX8, "rightsOf", "(I)I"⟩, ⟨RX8, "writeRow", "(IIIIIIII)V"⟩,
  ⟨RX8, "sumOf", "(I)I"⟩, ⟨RX8, "addNumber", "(I)V"⟩, ⟨RX8, "addByte", "(I)V"⟩, ⟨RX8, "markByte", "(II)I"⟩,
  ⟨RX8, "size", "()I"⟩, ⟨RX8, "byteAt", "(I)I"⟩, ⟨RX8, "feed", "(IJ)Z"⟩, ⟨RX8, "cut", "(I)Z"⟩,
  ⟨RX8, "spoil", "(II)I"⟩, ⟨RX8, "read", "()I"⟩, ⟨RX8, "headFault", "()I"⟩, ⟨RX8, "fault", "(II)I"⟩,
  ⟨RX8, "read2", "(I)I"⟩, ⟨RX8, "read4", "(I)J"⟩, ⟨RX8, "rowFault", "(I)I"⟩, ⟨RX8, "number", "(II)J"⟩,
  ⟨RX8, "spot", "(II)I"⟩, ⟨RX8, "isPower", "(J)Z"⟩, ⟨RX8, "sortOf", "(I)I"⟩, ⟨RX8, "imageFault", "()I"⟩,
  ⟨RX8, "endIn", "(I)J"⟩, ⟨RX8, "meetFault", "(II)I"⟩, ⟨RX8, "meetsIn", "(II)Z"⟩, ⟨RX8, "noteFault", "(III)I"⟩,
  ⟨RX8, "nameByte", "(I)I"⟩, ⟨RX8, "markFaults", "()I"⟩, ⟨RX8, "isMarkIn", "(I)Z"⟩, ⟨RX8, "isShortIn", "(I)Z"⟩,
  ⟨RX8, "lastFaults", "()I"⟩, ⟨RX8, "sumIn", "()I"⟩, ⟨RX8, "place", "()I"⟩, ⟨RX8, "keep", "()V"⟩,
  ⟨RX8, "about", "(II)I"⟩, ⟨RX8, "told", "(I)I"⟩, ⟨RX8, "marksIn", "(I)I"⟩, ⟨RX8, "byteIn", "(I)I"⟩,
  ⟨RX8, "segmentAt", "(I)I"⟩, ⟨RX8, "wordIn", "(I)I"⟩, ⟨RX8, "rights", "(I)I"⟩, ⟨RX8, "marked", "(I)I"⟩,
  ⟨RX8, "markBelow", "(I)I"⟩, ⟨RL, "law", "([I)Z"⟩]
def px_cdL : List ByteArray := [
  prog_1_method_1_code, prog_3_method_1_code, prog_6_method_1_code, prog_2_method_1_code, prog_8_method_1_code, prog_5_method_1_code, prog_1_method_2_code, prog_3_method_2_code,
  prog_6_method_3_code, prog_2_method_6_code, prog_14_method_109_code, prog_1_method_3_code, prog_1_method_4_code, prog_1_method_5_code, prog_3_method_4_code, prog_6_method_2_code,
  prog_1_method_6_code, prog_1_method_7_code, prog_2_method_7_code, prog_2_method_15_code, prog_14_method_121_code, prog_1_method_8_code, prog_3_method_7_code, prog_3_method_8_code,
  prog_3_method_10_code, prog_3_method_9_code, prog_1_method_9_code, prog_3_method_20_code, prog_3_method_21_code, prog_3_method_22_code, prog_6_method_6_code, prog_6_method_5_code,
  prog_3_method_23_code, prog_6_method_8_code, prog_3_method_24_code, prog_3_method_25_code, prog_3_method_14_code, prog_2_method_2_code, prog_3_method_26_code, prog_3_method_18_code,
  prog_8_method_2_code, prog_8_method_3_code, prog_4_method_2_code, prog_4_method_3_code, prog_3_method_11_code, prog_8_method_4_code, prog_2_method_8_code, prog_2_method_11_code,
  prog_2_method_9_code, prog_2_method_10_code, prog_3_method_17_code, prog_3_method_16_code, prog_2_method_12_code, prog_8_method_5_code, prog_8_method_6_code, prog_8_method_7_code,
  prog_8_method_8_code, prog_2_method_13_code, prog_8_method_9_code, prog_3_method_27_code, prog_7_method_3_code, prog_7_method_2_code, prog_7_method_4_code, prog_3_method_12_code,
  prog_1_method_10_code, prog_1_method_11_code, prog_1_method_12_code, prog_1_method_13_code, prog_1_method_14_code, prog_2_method_5_code, prog_1_method_15_code, prog_5_method_2_code,
  prog_5_method_4_code, prog_5_method_3_code, prog_5_method_5_code, prog_2_method_3_code, prog_5_method_6_code, prog_5_method_7_code, prog_2_method_4_code, prog_5_method_8_code,
  prog_5_method_9_code, prog_5_method_11_code, prog_5_method_12_code, prog_5_method_10_code, prog_5_method_13_code, prog_5_method_14_code, prog_5_method_15_code, prog_5_method_16_code,
  prog_5_method_17_code, prog_5_method_18_code, prog_5_method_19_code, prog_5_method_20_code, prog_5_method_21_code, prog_5_method_22_code, prog_3_method_13_code, prog_3_method_3_code,
  prog_6_method_4_code, prog_2_method_14_code, prog_1_method_16_code, prog_1_method_17_code, prog_1_method_18_code, prog_6_method_10_code, prog_1_method_19_code, prog_3_method_15_code,
  prog_1_method_20_code, prog_3_method_6_code, prog_3_method_5_code, prog_6_method_7_code, prog_6_method_9_code, prog_1_method_21_code, prog_1_method_22_code, prog_1_method_23_code,
  prog_1_method_24_code, prog_3_method_19_code, prog_10_method_1_code, prog_10_method_6_code, prog_10_method_7_code, prog_10_method_8_code, prog_10_method_10_code, prog_10_method_9_code,
  prog_10_method_11_code, prog_10_method_12_code, prog_10_method_5_code, prog_10_method_13_code, prog_10_method_33_code, prog_10_method_20_code, prog_10_method_14_code, prog_10_method_15_code,
  prog_10_method_18_code, prog_10_method_17_code, prog_10_method_16_code, prog_10_method_4_code, prog_10_method_19_code, prog_10_method_30_code, prog_10_method_23_code, prog_10_method_29_code,
  prog_10_method_28_code, prog_10_method_22_code, prog_10_method_32_code, prog_10_method_31_code, prog_10_method_27_code, prog_10_method_26_code, prog_10_method_25_code, prog_10_method_24_code,
  prog_10_method_34_code, prog_10_method_35_code, prog_10_method_36_code, prog_10_method_37_code, prog_10_method_38_code, prog_10_method_58_code, prog_10_method_42_code, prog_10_method_41_code,
  prog_10_method_39_code, prog_10_method_40_code, prog_10_method_46_code, prog_10_method_44_code, prog_10_method_43_code, prog_10_method_3_code, prog_10_method_45_code, prog_10_method_50_code,
  prog_10_method_47_code, prog_10_method_49_code, prog_10_method_48_code, prog_10_method_52_code, prog_10_method_51_code, prog_10_method_55_code, prog_10_method_53_code, prog_10_method_54_code,
  prog_10_method_57_code, prog_10_method_56_code, prog_10_method_59_code, prog_10_method_60_code, prog_10_method_61_code, prog_10_method_62_code, prog_10_method_21_code, prog_10_method_64_code,
  prog_10_method_63_code, prog_10_method_65_code, prog_10_method_66_code, prog_10_method_67_code, prog_10_method_68_code, code]
def px_mLL : List Nat := [
  1, 2, 2, 2, 2, 2, 1, 5, 1, 2, 4, 2, 2, 5, 2, 3, 3, 6, 5, 3, 3, 3, 1, 2, 1, 2, 2, 1, 1, 2,
  1, 1, 2, 2, 2, 4, 2, 2, 1, 2, 3, 6, 1, 1, 1, 6, 2, 4, 2, 2, 1, 3, 3, 4, 4, 5, 4, 4, 8, 6,
  4, 3, 4, 2, 1, 2, 4, 2, 4, 3, 2, 2, 2, 3, 1, 2, 4, 2, 2, 3, 9, 2, 2, 11, 3, 11, 8, 2, 5, 4,
  2, 2, 5, 3, 3, 3, 2, 2, 1, 1, 4, 2, 2, 3, 2, 3, 6, 2, 3, 5, 3, 3, 2, 4, 1, 2, 2, 2, 4, 1,
  2, 6, 3, 3, 8, 4, 2, 3, 3, 5, 3, 1, 4, 1, 2, 3, 3, 4, 1, 9, 4, 3, 4, 5, 1, 2, 5, 2, 4, 5,
  4, 3, 2, 2, 19, 3, 3, 5, 4, 3, 2, 4, 3, 8, 1, 5, 2, 2, 4, 4, 1, 3, 3, 2, 4, 3, 3, 5, 3, 2,
  4, 4]
def px_rtL : List (Option FieldType) := [
  none, none, none, none, none, none, none, none,
  none, some FieldType.boolean, none, none, some FieldType.boolean, some FieldType.boolean, some (FieldType.object "ImageFile$Segment"), none,
  some FieldType.boolean, some FieldType.boolean, some FieldType.boolean, some FieldType.boolean, some (FieldType.array FieldType.byte), some FieldType.boolean, some FieldType.boolean, some FieldType.boolean,
  some FieldType.int, none, some FieldType.int, some FieldType.int, some FieldType.boolean, some FieldType.int, some FieldType.int, some FieldType.int,
  some FieldType.int, some FieldType.boolean, some FieldType.int, some FieldType.boolean, some FieldType.int, some FieldType.int, some FieldType.boolean, some FieldType.int,
  some FieldType.int, none, some FieldType.int, some FieldType.int, some FieldType.int, none, none, none,
  none, none, some FieldType.int, some FieldType.int, none, none, none, none,
  none, none, none, some FieldType.int, some FieldType.int, some FieldType.int, some FieldType.int, some FieldType.int,
  some FieldType.int, some FieldType.int, some FieldType.boolean, some FieldType.boolean, some FieldType.int, none, some FieldType.int, some FieldType.int,
  some FieldType.int, some FieldType.int, some FieldType.int, some FieldType.int, some FieldType.int, some FieldType.int, some FieldType.long, some FieldType.int,
  some FieldType.int, some FieldType.int, some FieldType.boolean, some FieldType.int, some FieldType.int, some FieldType.boolean, some FieldType.boolean, none,
  none, some FieldType.int, some FieldType.int, some FieldType.int, some FieldType.int, some FieldType.int, none, none,
  none, none, some FieldType.int, none, some FieldType.int, some FieldType.int, some FieldType.int, some FieldType.int,
  some FieldType.int, some FieldType.int, some (FieldType.object "ImageFile$Segment"), some FieldType.boolean, some FieldType.int, some FieldType.int, some FieldType.int, some FieldType.int,
  some FieldType.int, some FieldType.int, none, none, none, some FieldType.boolean, some FieldType.boolean, some FieldType.boolean,
  some FieldType.boolean, some FieldType.boolean, some FieldType.int, some FieldType.boolean, some FieldType.int, some FieldType.int, some FieldType.int, some FieldType.boolean,
  some FieldType.int, some FieldType.boolean, some FieldType.int, some FieldType.boolean, some FieldType.boolean, some FieldType.int, some FieldType.int, none,
  none, some FieldType.int, some FieldType.int, none, some FieldType.int, none, none, some FieldType.int,
  some FieldType.int, some FieldType.int, some FieldType.boolean, some FieldType.boolean, some FieldType.int, some FieldType.int, some FieldType.int, some FieldType.int,
  some FieldType.int, some FieldType.long, some FieldType.int, some FieldType.long, some FieldType.int, some FieldType.boolean, some FieldType.int, some FieldType.int,
  some FieldType.long, some FieldType.int, some FieldType.boolean, some FieldType.int, some FieldType.int, some FieldType.int, some FieldType.boolean, some FieldType.boolean,
  some FieldType.int, some FieldType.int, some FieldType.int, none, some FieldType.int, some FieldType.int, some FieldType.int, some FieldType.int,
  some FieldType.int, some FieldType.int, some FieldType.int, some FieldType.int, some FieldType.int, some FieldType.boolean]
def px_cwL : List Nat := [
  79, 87, 96, 102, 182, 202, 255, 259, 263, 267, 270, 274, 278, 282, 286, 292, 296, 301, 305, 309, 318, 333, 336, 340, 344, 348, 352, 356, 360, 364,
  368, 372, 377, 385, 392, 397, 401, 405, 409, 413, 417, 421, 424, 427, 431, 437, 443, 447, 451, 455, 459, 463, 467, 471, 475, 480, 484, 488, 493, 500,
  503, 506, 511, 517, 523, 527, 532, 536, 541, 545, 549, 553, 558, 562, 567, 571, 576, 580, 584, 591, 595, 600, 603, 608, 611, 619, 622, 632, 636, 643,
  652, 656, 663, 668, 672, 680, 684, 688, 694, 698, 702, 706, 710, 715, 720, 724, 728, 732, 736, 741, 745, 750, 756, 760, 766, 821, 825, 829, 833, 836,
  842, 846, 849, 854, 858, 862, 866, 870, 874, 878, 882, 885, 889, 892, 896, 901, 905, 910, 913, 917, 922, 926, 930, 935, 939, 943, 947, 951, 955, 959,
  963, 967, 971, 975, 983, 987, 991, 994, 1000, 1008, 1012, 1016, 1020, 1024, 1027, 1031, 1035, 1039, 1043, 1047, 1051, 1055, 1059, 1063, 1067, 1071, 1075, 1079, 1084, 1088,
  1092, 0]
def px_onL : List Nat := [
  7, 1, 4, 0, 6, 3, 7, 1, 4, 0, 9, 7, 7, 7, 1, 4, 7, 7, 0, 0, 9, 7, 1, 1, 1, 1, 7, 1, 1, 1,
  4, 4, 1, 4, 1, 1, 1, 0, 1, 1, 6, 6, 2, 2, 1, 6, 0, 0, 0, 0, 1, 1, 0, 6, 6, 6, 6, 0, 6, 1,
  5, 5, 5, 1, 7, 7, 7, 7, 7, 0, 7, 3, 3, 3, 3, 0, 3, 3, 0, 3, 3, 3, 3, 3, 3, 3, 3, 3, 3, 3,
  3, 3, 3, 3, 1, 1, 4, 0, 7, 7, 7, 4, 7, 1, 7, 1, 1, 4, 4, 7, 7, 7, 7, 1, 8, 8, 8, 8, 8, 8,
  8, 8, 8, 8, 8, 8, 8, 8, 8, 8, 8, 8, 8, 8, 8, 8, 8, 8, 8, 8, 8, 8, 8, 8, 8, 8, 8, 8, 8, 8,
  8, 8, 8, 8, 8, 8, 8, 8, 8, 8, 8, 8, 8, 8, 8, 8, 8, 8, 8, 8, 8, 8, 8, 8, 8, 8, 8, 8, 8, 8,
  8, 10]
def px_dpL : List Nat := [
  5, 3, 2, 1, 1, 4, 3, 2, 1, 0, 0, 0, 0, 1, 0, 0, 2, 4, 3, 2, 1, 2, 0, 1, 0, 1, 8, 4, 0, 2,
  1, 0, 3, 2, 3, 2, 1, 0, 2, 0, 7, 1, 0, 1, 0, 5, 4, 3, 4, 4, 3, 2, 3, 6, 5, 5, 4, 3, 5, 2,
  1, 0, 1, 0, 0, 1, 4, 1, 1, 0, 8, 7, 2, 0, 0, 1, 3, 2, 1, 6, 5, 2, 0, 2, 0, 2, 1, 2, 4, 4,
  3, 2, 1, 4, 0, 6, 5, 4, 0, 7, 1, 0, 3, 2, 5, 4, 3, 2, 1, 5, 4, 2, 3, 2, 1, 0, 0, 0, 1, 0,
  1, 1, 0, 0, 5, 4, 0, 1, 3, 2, 1, 0, 0, 0, 0, 1, 0, 2, 0, 2, 2, 1, 0, 0, 0, 0, 1, 0, 0, 7,
  2, 0, 0, 1, 4, 2, 0, 0, 3, 6, 3, 5, 4, 2, 0, 4, 3, 3, 4, 3, 0, 0, 1, 3, 0, 2, 1, 3, 2, 2,
  0, 9]
def px_lcL : List Nat := [
  104, 62, 41, 20, 20, 83, 65, 41, 21, 0, 0, 0, 0, 22, 0, 0, 41, 94, 70, 48, 26, 41, 0, 20, 0, 20, 183, 86, 0, 40,
  20, 0, 61, 40, 65, 42, 21, 0, 41, 0, 161, 20, 0, 20, 0, 114, 93, 70, 93, 93, 64, 42, 70, 138, 114, 114, 93, 70, 114, 45,
  22, 0, 22, 0, 0, 21, 94, 21, 22, 0, 188, 167, 42, 0, 0, 21, 63, 42, 21, 145, 117, 42, 0, 42, 0, 50, 23, 42, 93, 82,
  63, 42, 22, 86, 0, 135, 114, 93, 0, 157, 21, 0, 70, 41, 108, 86, 61, 40, 21, 108, 86, 42, 64, 41, 20, 0, 0, 0, 20, 0,
  20, 22, 0, 0, 111, 88, 0, 21, 66, 42, 20, 0, 0, 0, 0, 22, 0, 42, 0, 44, 45, 23, 0, 0, 0, 0, 22, 0, 0, 152,
  42, 0, 0, 21, 87, 42, 0, 0, 64, 130, 64, 107, 85, 42, 0, 85, 64, 64, 87, 64, 0, 0, 20, 68, 0, 43, 21, 65, 43, 42,
  0, 209]
def px_nrL : List Bool := [
  true, true, true, true, true, true, true, true, true, true, true, true, true, true, true, true, true, false, false, false,
  true, true, true, true, true, true, false, true, true, true, true, true, true, true, true, true, true, true, true, true,
  false, true, true, true, true, false, false, false, false, false, true, true, false, false, false, false, false, false, false, true,
  true, true, true, true, true, true, false, true, true, true, false, false, true, true, true, true, true, true, true, false,
  false, true, true, true, true, true, true, true, false, true, true, true, true, true, true, false, false, false, true, false,
  true, true, true, true, true, true, true, true, true, true, true, true, true, true, true, true, true, true, true, true,
  true, true, true, true, true, true, true, true, true, true, true, true, true, true, true, true, true, true, true, true,
  true, true, true, true, true, true, true, true, true, true, true, true, true, true, true, true, true, true, true, true,
  true, true, true, true, true, true, true, true, true, true, true, true, true, true, true, true, true, true, true, true,
  true, false]
def px_npL : List Nat := [
  0, 0, 1, 1, 1, 1, 0, 0, 0, 1, 2, 1, 1, 3, 1, 2, 1, 3, 2, 1, 2, 2, 1, 1, 1, 1, 0, 0, 0, 0,
  0, 0, 0, 1, 0, 1, 1, 1, 0, 1, 1, 1, 1, 1, 0, 1, 1, 2, 1, 1, 0, 0, 1, 1, 3, 4, 1, 3, 1, 0,
  2, 2, 2, 1, 0, 1, 2, 1, 2, 2, 0, 0, 0, 2, 1, 1, 0, 0, 1, 0, 1, 1, 1, 1, 1, 1, 4, 1, 1, 0,
  0, 0, 0, 0, 2, 1, 1, 1, 0, 0, 2, 1, 1, 0, 1, 1, 1, 1, 1, 1, 1, 1, 1, 1, 0, 0, 1, 1, 3, 1,
  1, 3, 2, 2, 0, 1, 1, 2, 1, 2, 2, 1, 2, 1, 1, 2, 2, 1, 1, 8, 1, 1, 1, 2, 0, 1, 2, 1, 2, 0,
  0, 2, 1, 1, 1, 2, 2, 1, 1, 0, 1, 2, 2, 3, 1, 0, 1, 1, 0, 0, 0, 0, 2, 1, 1, 1, 1, 1, 1, 1,
  1, 1]
def px_kwL : List (Nat × Nat × Nat × Nat) := [
  (2, 78, 0, 63), (2, 86, 0, 64), (2, 95, 0, 65), (2, 101, 0, 66), (2, 181, 0, 67), (2, 201, 0, 68), (1, 253, 254, 63), (1, 257, 258, 64),
  (1, 261, 262, 65), (1, 265, 266, 66), (0, 269, 0, 70), (1, 272, 273, 63), (1, 276, 277, 63), (1, 280, 281, 63), (1, 284, 285, 64), (1, 290, 291, 65),
  (1, 294, 295, 63), (1, 299, 300, 63), (1, 303, 304, 66), (1, 308, 0, 66), (0, 317, 0, 70), (1, 331, 332, 63), (0, 335, 0, 64), (1, 338, 339, 64),
  (0, 343, 0, 64), (1, 346, 347, 64), (1, 350, 351, 63), (1, 354, 355, 64), (1, 358, 359, 64), (1, 362, 363, 64), (1, 366, 367, 65), (1, 370, 371, 65),
  (1, 375, 376, 64), (1, 383, 384, 65), (1, 390, 391, 64), (1, 396, 1, 64), (1, 399, 400, 64), (1, 403, 404, 66), (1, 407, 408, 64), (1, 411, 412, 64),
  (1, 415, 416, 67), (1, 420, 2, 67), (0, 423, 0, 73), (0, 426, 0, 73), (1, 429, 430, 64), (1, 436, 3, 67), (1, 441, 442, 66), (1, 446, 4, 66),
  (1, 449, 450, 66), (1, 453, 454, 66), (1, 457, 458, 64), (1, 461, 462, 64), (1, 465, 466, 66), (1, 470, 5, 67), (1, 474, 6, 67), (1, 479, 7, 67),
  (1, 483, 8, 67), (1, 486, 487, 66), (1, 492, 9, 67), (1, 498, 499, 64), (0, 502, 0, 74), (0, 505, 0, 74), (0, 510, 0, 74), (1, 515, 516, 64),
  (1, 521, 522, 63), (1, 525, 526, 63), (1, 530, 531, 63), (1, 534, 535, 63), (1, 539, 540, 63), (1, 543, 544, 66), (1, 547, 548, 63), (1, 551, 552, 68),
  (1, 557, 10, 68), (1, 561, 11, 68), (0, 566, 0, 68), (1, 569, 570, 66), (1, 575, 12, 68), (1, 579, 13, 68), (1, 582, 583, 66), (1, 590, 14, 68),
  (1, 594, 15, 68), (1, 599, 16, 68), (0, 602, 0, 68), (1, 607, 17, 68), (0, 610, 0, 68), (1, 618, 18, 68), (0, 621, 0, 68), (1, 631, 19, 68),
  (1, 635, 20, 68), (1, 642, 21, 68), (1, 651, 22, 68), (1, 655, 23, 68), (1, 662, 24, 68), (1, 667, 25, 68), (1, 670, 671, 64), (1, 678, 679, 64),
  (1, 682, 683, 65), (1, 686, 687, 66), (1, 692, 693, 63), (1, 696, 697, 63), (1, 700, 701, 63), (1, 704, 705, 65), (1, 708, 709, 63), (1, 713, 714, 64),
  (1, 718, 719, 63), (1, 722, 723, 64), (1, 726, 727, 64), (1, 730, 731, 65), (1, 734, 735, 65), (1, 739, 740, 63), (1, 743, 744, 63), (1, 748, 749, 63),
  (1, 754, 755, 63), (1, 758, 759, 64), (2, 765, 0, 69), (1, 819, 820, 69), (1, 823, 824, 69), (1, 827, 828, 69), (1, 831, 832, 69), (0, 835, 0, 69),
  (1, 840, 841, 69), (1, 844, 845, 69), (0, 848, 0, 69), (1, 852, 853, 69), (1, 856, 857, 69), (1, 861, 26, 69), (1, 865, 27, 69), (1, 869, 28, 69),
  (1, 873, 29, 69), (1, 877, 30, 69), (1, 881, 31, 69), (0, 884, 0, 69), (1, 888, 32, 69), (0, 891, 0, 69), (1, 895, 33, 69), (1, 900, 34, 69),
  (1, 904, 35, 69), (1, 909, 36, 69), (0, 912, 0, 69), (1, 916, 37, 69), (1, 921, 38, 69), (1, 925, 39, 69), (1, 929, 40, 69), (1, 934, 41, 69),
  (1, 937, 938, 69), (1, 941, 942, 69), (1, 945, 946, 69), (1, 949, 950, 69), (1, 953, 954, 69), (1, 957, 958, 69), (1, 962, 42, 69), (1, 966, 43, 69),
  (1, 970, 44, 69), (1, 974, 45, 69), (1, 982, 46, 69), (1, 986, 47, 69), (1, 990, 48, 69), (0, 993, 0, 69), (1, 999, 49, 69), (1, 1007, 50, 69),
  (1, 1011, 51, 69), (1, 1015, 52, 69), (1, 1019, 53, 69), (1, 1023, 54, 69), (0, 1026, 0, 69), (1, 1030, 55, 69), (1, 1034, 56, 69), (1, 1038, 57, 69),
  (1, 1042, 58, 69), (1, 1046, 59, 69), (1, 1049, 1050, 69), (1, 1053, 1054, 69), (1, 1057, 1058, 69), (1, 1061, 1062, 69), (1, 1066, 60, 69), (1, 1069, 1070, 69),
  (1, 1074, 61, 69), (1, 1077, 1078, 69), (1, 1082, 1083, 69), (1, 1086, 1087, 69), (1, 1090, 1091, 69), (9, 0, 0, 0)]
def px_yn (y : Nat) : MethodName := px_ynL.getD y ⟨"", "", ""⟩
def px_cd (y : Nat) : ByteArray := px_cdL.getD y ⟨#[]⟩
def px_mL (y : Nat) : Nat := px_mLL.getD y 0
def px_rt (y : Nat) : Option FieldType := px_rtL.getD y none
def px_cw (y : Nat) : Nat := px_cwL.getD y 0
def px_on (y : Nat) : Nat := px_onL.getD y 0
def px_dp (y : Nat) : Nat := px_dpL.getD y 0
def px_lc (y : Nat) : Nat := px_lcL.getD y 0
def px_nr (y : Nat) : Bool := px_nrL.getD y false
def px_np (y : Nat) : Nat := px_npL.getD y 0
def px_kw (y : Nat) : Nat × Nat × Nat × Nat := px_kwL.getD y (9, 0, 0, 0)
def px_nM : Nat := 181
def px_zs : List (String × String × String × Nat) := [("ImageFile", "RIGHTS", "[I", 0), ("ImageFile", "PAIR_LOWER", "[I", 64), ("ImageFile", "PAIR_UPPER", "[I", 128), ("ImageFile", "HEAD", "[I", 192), ("ImageFile", "NOTE_NAME", "[I", 256), ("ImageFile$Sum", "FOUR_BITS", "[I", 320)]
def px_kS : Nat := 384
def px_S : Nat := 448
def px_tB : Nat := 0
def px_tI : Nat := 1
def px_tZ : Nat := 2
def px_tG : Nat := 3
def px_tS : Nat := 4
def px_tys (aT : Nat → ClassId) : List (ClassId × FieldType) := [(aT 0, .byte), (aT 1, .int), (aT 2, .boolean), (aT 3, .object "ImageFile$Segment")]
def px_fdL : List ((Nat × Nat) × (Nat × Nat × Nat × Nat)) := [
  ((0, 9), (0, 0, 0, 104)), ((0, 15), (0, 1, 0, 105)), ((0, 19), (0, 2, 0, 106)), ((1, 11), (1, 0, 0, 151)), ((1, 24), (1, 1, 0, 153)), ((1, 28), (1, 2, 0, 156)),
  ((1, 32), (1, 4, 0, 161)), ((1, 45), (1, 3, 0, 157)), ((1, 76), (3, 1, 1, 128)), ((1, 80), (0, 2, 1, 112)), ((1, 98), (3, 2, 1, 134)), ((1, 102), (3, 3, 1, 137)),
  ((1, 152), (3, 4, 1, 139)), ((3, 9), (2, 0, 0, 206)), ((3, 18), (2, 1, 0, 207)), ((3, 22), (2, 2, 0, 209)), ((3, 26), (2, 5, 0, 212)), ((3, 30), (2, 8, 0, 215)),
  ((3, 55), (0, 2, 1, 108)), ((3, 84), (2, 4, 0, 211)), ((3, 87), (2, 3, 0, 210)), ((3, 90), (1, 3, 1, 160)), ((3, 131), (3, 2, 1, 133)), ((3, 141), (3, 0, 1, 123)),
  ((3, 161), (2, 6, 0, 213)), ((3, 164), (2, 7, 0, 214)), ((3, 171), (3, 1, 1, 129)), ((3, 178), (1, 4, 1, 164)), ((3, 215), (1, 1, 1, 155)), ((4, 9), (3, 0, 0, 121)),
  ((4, 20), (3, 1, 0, 125)), ((4, 24), (3, 2, 0, 130)), ((4, 28), (3, 3, 0, 135)), ((4, 31), (3, 4, 0, 138)), ((4, 42), (0, 2, 1, 110)), ((5, 17), (0, 2, 1, 109)),
  ((6, 9), (4, 0, 0, 184)), ((6, 15), (4, 1, 0, 185)), ((6, 23), (4, 2, 0, 186)), ((6, 55), (4, 3, 0, 187)), ((6, 58), (1, 0, 1, 152)), ((6, 64), (3, 2, 1, 131)),
  ((6, 70), (3, 3, 1, 136)), ((6, 73), (1, 4, 1, 162)), ((6, 76), (3, 1, 1, 126)), ((6, 79), (0, 2, 1, 107)), ((6, 98), (1, 3, 1, 159)), ((6, 112), (3, 0, 1, 122)),
  ((6, 129), (1, 1, 1, 154)), ((7, 10), (5, 0, 0, 236)), ((7, 16), (5, 1, 0, 237)), ((7, 24), (5, 2, 0, 238)), ((7, 33), (5, 3, 0, 239)), ((7, 40), (5, 4, 0, 240)),
  ((7, 47), (1, 3, 1, 158)), ((7, 51), (1, 4, 1, 163)), ((7, 66), (3, 2, 1, 132)), ((7, 73), (3, 1, 1, 127)), ((7, 98), (0, 2, 1, 111)), ((7, 114), (2, 1, 1, 208)),
  ((7, 121), (2, 8, 1, 216)), ((7, 142), (3, 0, 1, 124)), ((8, 7), (6, 0, 0, 768)), ((8, 13), (6, 1, 0, 769)), ((8, 17), (6, 2, 0, 770)), ((8, 20), (6, 3, 0, 771)),
  ((8, 23), (6, 4, 0, 772)), ((8, 26), (6, 5, 0, 773)), ((8, 29), (6, 6, 0, 774)), ((8, 32), (6, 7, 0, 775)), ((8, 35), (6, 8, 0, 776)), ((8, 38), (6, 10, 0, 778)),
  ((8, 42), (6, 13, 0, 781)), ((8, 45), (6, 14, 0, 782)), ((8, 88), (6, 15, 0, 783)), ((8, 118), (6, 9, 0, 777)), ((8, 153), (6, 12, 0, 780)), ((8, 158), (6, 11, 0, 779))]
def px_sgL : List ((Nat × Nat) × (Nat × Nat × Nat)) := [
  ((1, 17), (0, 1, 92)), ((1, 134), (64, 1, 378)), ((1, 137), (128, 1, 380)), ((3, 64), (192, 1, 563)), ((3, 145), (0, 1, 612)), ((3, 193), (64, 1, 647)),
  ((3, 196), (128, 1, 648)), ((3, 212), (256, 1, 658)), ((5, 7), (320, 0, 507)), ((6, 86), (192, 1, 438)), ((6, 126), (256, 1, 495))]
def px_mtL : List ((Nat × Nat) × (Nat × Nat)) := [
  ((0, 3), (901, 103)), ((0, 22), (37, 572)), ((0, 28), (19, 306)), ((0, 32), (47, 444)), ((0, 36), (900, 489)), ((0, 42), (57, 689)), ((0, 46), (902, 310)), ((0, 52), (903, 313)),
  ((0, 55), (20, 316)), ((1, 3), (901, 88)), ((1, 21), (2, 94)), ((1, 36), (8, 260)), ((1, 39), (10, 268)), ((1, 48), (96, 681)), ((1, 52), (900, 690)), ((1, 58), (107, 729)),
  ((1, 62), (106, 725)), ((1, 66), (108, 733)), ((1, 70), (22, 341)), ((1, 73), (24, 342)), ((1, 85), (37, 402)), ((1, 88), (23, 393)), ((1, 91), (36, 398)), ((1, 94), (51, 460)),
  ((1, 105), (39, 410)), ((1, 108), (903, 761)), ((1, 114), (28, 357)), ((1, 118), (29, 361)), ((1, 121), (32, 374)), ((1, 124), (34, 389)), ((1, 127), (38, 406)), ((1, 130), (30, 365)),
  ((1, 140), (33, 382)), ((1, 144), (35, 394)), ((1, 149), (60, 501)), ((1, 155), (62, 509)), ((1, 159), (44, 513)), ((1, 162), (63, 514)), ((1, 165), (61, 518)), ((2, 9), (44, 428)),
  ((2, 15), (42, 432)), ((3, 3), (901, 203)), ((3, 17), (1, 205)), ((3, 33), (7, 554)), ((3, 36), (72, 555)), ((3, 40), (76, 573)), ((3, 43), (79, 588)), ((3, 46), (89, 640)),
  ((3, 49), (90, 649)), ((3, 52), (93, 665)), ((3, 60), (73, 559)), ((3, 67), (37, 564)), ((3, 71), (74, 565)), ((3, 74), (75, 568)), ((3, 77), (77, 577)), ((3, 80), (78, 581)),
  ((3, 97), (80, 592)), ((3, 102), (81, 597)), ((3, 105), (83, 605)), ((3, 108), (85, 616)), ((3, 112), (87, 629)), ((3, 116), (88, 633)), ((3, 119), (82, 601)), ((3, 123), (84, 609)),
  ((3, 127), (14, 613)), ((3, 148), (86, 620)), ((3, 152), (904, 623)), ((3, 158), (905, 626)), ((3, 167), (15, 637)), ((3, 174), (57, 638)), ((3, 181), (902, 639)), ((3, 183), (28, 644)),
  ((3, 187), (29, 645)), ((3, 190), (32, 646)), ((3, 199), (91, 653)), ((3, 202), (43, 659)), ((3, 207), (92, 660)), ((3, 219), (44, 664)), ((3, 222), (94, 669)), ((3, 225), (34, 673)),
  ((3, 228), (38, 674)), ((3, 231), (59, 675)), ((3, 234), (50, 676)), ((4, 3), (901, 97)), ((4, 17), (3, 100)), ((4, 34), (9, 264)), ((4, 38), (97, 685)), ((4, 45), (31, 369)),
  ((4, 49), (30, 387)), ((4, 52), (902, 386)), ((4, 58), (903, 388)), ((4, 61), (37, 737)), ((5, 13), (61, 504)), ((5, 23), (37, 512)), ((6, 3), (901, 183)), ((6, 19), (41, 418)),
  ((6, 27), (43, 425)), ((6, 33), (9, 433)), ((6, 39), (45, 434)), ((6, 42), (53, 468)), ((6, 45), (56, 481)), ((6, 48), (52, 464)), ((6, 52), (58, 490)), ((6, 82), (42, 422)),
  ((6, 89), (46, 440)), ((6, 92), (48, 448)), ((6, 95), (49, 452)), ((6, 101), (50, 456)), ((6, 105), (54, 472)), ((6, 109), (31, 476)), ((6, 115), (55, 477)), ((6, 119), (57, 485)),
  ((6, 123), (44, 494)), ((6, 133), (59, 497)), ((6, 136), (63, 519)), ((7, 1), (901, 80)), ((7, 9), (1, 85)), ((7, 21), (3, 177)), ((7, 30), (4, 180)), ((7, 39), (5, 200)),
  ((7, 44), (7, 256)), ((7, 54), (14, 283)), ((7, 60), (15, 289)), ((7, 70), (8, 297)), ((7, 76), (18, 302)), ((7, 80), (22, 334)), ((7, 84), (23, 337)), ((7, 87), (25, 345)),
  ((7, 90), (27, 353)), ((7, 94), (40, 414)), ((7, 101), (37, 528)), ((7, 105), (9, 537)), ((7, 108), (69, 542)), ((7, 111), (71, 550)), ((7, 117), (95, 677)), ((7, 124), (101, 703)),
  ((7, 127), (59, 711)), ((7, 130), (103, 712)), ((7, 133), (51, 716)), ((7, 136), (105, 721)), ((7, 139), (106, 746)), ((7, 145), (39, 751)), ((7, 148), (36, 752)), ((7, 151), (113, 757)),
  ((8, 1), (901, 767)), ((8, 54), (119, 834)), ((8, 60), (122, 847)), ((8, 64), (126, 863)), ((8, 68), (131, 883)), ((8, 71), (130, 879)), ((8, 75), (129, 875)), ((8, 79), (127, 867)),
  ((8, 82), (128, 871)), ((8, 85), (132, 886)), ((8, 92), (142, 927)), ((8, 96), (141, 923)), ((8, 99), (134, 893)), ((8, 102), (143, 932)), ((8, 105), (136, 902)), ((8, 109), (135, 898)),
  ((8, 112), (125, 859)), ((8, 115), (133, 890)), ((8, 123), (137, 907)), ((8, 126), (138, 911)), ((8, 129), (139, 914)), ((8, 134), (140, 919)), ((8, 137), (152, 968)), ((8, 142), (151, 964)),
  ((8, 145), (153, 972)), ((8, 161), (156, 988)), ((8, 164), (155, 984)), ((8, 172), (157, 992)), ((8, 176), (158, 997)), ((8, 183), (160, 1009)), ((8, 186), (162, 1017)), ((8, 189), (161, 1013)),
  ((8, 192), (163, 1021)), ((8, 196), (164, 1025)), ((8, 199), (166, 1032)), ((8, 202), (167, 1036)), ((8, 205), (169, 1044)), ((8, 209), (150, 960)), ((8, 212), (154, 980)), ((8, 215), (159, 1005)),
  ((8, 218), (165, 1028)), ((8, 221), (168, 1040)), ((8, 224), (174, 1064)), ((8, 227), (176, 1072)), ((8, 230), (175, 1080)), ((9, 150), (900, 327)), ((9, 304), (903, 326)), ((10, 9), (0, 77)),
  ((10, 12), (114, 764)), ((10, 13), (6, 252)), ((10, 16), (115, 818)), ((10, 17), (11, 271)), ((10, 21), (116, 822)), ((10, 22), (12, 275)), ((10, 26), (117, 826)), ((10, 27), (13, 279)),
  ((10, 31), (118, 830)), ((10, 32), (16, 293)), ((10, 35), (120, 839)), ((10, 38), (17, 298)), ((10, 42), (121, 843)), ((10, 43), (21, 330)), ((10, 47), (123, 851)), ((10, 48), (26, 349)),
  ((10, 52), (124, 855)), ((10, 53), (64, 520)), ((10, 56), (144, 936)), ((10, 57), (65, 524)), ((10, 61), (145, 940)), ((10, 62), (66, 529)), ((10, 66), (146, 944)), ((10, 67), (67, 533)),
  ((10, 70), (147, 948)), ((10, 71), (68, 538)), ((10, 75), (148, 952)), ((10, 76), (70, 546)), ((10, 79), (149, 956)), ((10, 80), (98, 691)), ((10, 83), (170, 1048)), ((10, 84), (99, 695)),
  ((10, 87), (171, 1052)), ((10, 88), (100, 699)), ((10, 91), (172, 1056)), ((10, 92), (102, 707)), ((10, 95), (173, 1060)), ((10, 96), (104, 717)), ((10, 99), (175, 1068)), ((10, 100), (109, 738)),
  ((10, 103), (177, 1076)), ((10, 104), (110, 742)), ((10, 107), (178, 1081)), ((10, 108), (111, 747)), ((10, 111), (179, 1085)), ((10, 112), (112, 753)), ((10, 115), (180, 1089))]
def px_nwL : List ((Nat × Nat) × (Nat × Nat × Nat × Nat)) := [
  ((10, 7), (5, 75, 76, 63)), ((7, 7), (1, 83, 84, 64)), ((1, 9), (3, 89, 91, 65)), ((4, 15), (0, 98, 99, 66)), ((7, 19), (0, 176, 99, 66)), ((7, 28), (4, 178, 179, 67)),
  ((7, 37), (2, 198, 199, 68)), ((3, 15), (1, 204, 84, 64)), ((10, 10), (6, 762, 763, 69))]
def px_anL : List ((Nat × Nat) × Nat) := [
  ((1, 9), 89)]
def px_ldL : List ((Nat × Nat) × (Int32 × Nat)) := [
  ((7, 58), ((131072 : Int32), 287)), ((7, 59), ((32768 : Int32), 288)), ((1, 133), ((131072 : Int32), 373)), ((3, 144), ((32768 : Int32), 615)), ((8, 58), ((131072 : Int32), 837)), ((8, 59), ((32768 : Int32), 838)),
  ((8, 121), ((1179403647 : Int32), 897)), ((8, 122), ((65793 : Int32), 906)), ((8, 133), ((1802658125 : Int32), 918)), ((8, 91), ((-306674912 : Int32), 931))]
def px_l2L : List ((Nat × Nat) × (Int64 × Nat)) := [
  ((0, 26), ((-1 : Int64), 585)), ((3, 93), ((52 : Int64), 586)), ((3, 95), ((3 : Int64), 587)), ((3, 100), ((4 : Int64), 596)), ((3, 139), ((4096 : Int64), 604)), ((3, 137), ((131072 : Int64), 614)),
  ((3, 210), ((6 : Int64), 657)), ((8, 52), ((255 : Int64), 850)), ((8, 140), ((65536 : Int64), 976)), ((8, 149), ((4 : Int64), 977)), ((8, 151), ((52 : Int64), 978)), ((8, 156), ((32 : Int64), 979)),
  ((8, 48), ((4096 : Int64), 995)), ((8, 50), ((2 : Int64), 996)), ((8, 168), ((5 : Int64), 1001)), ((8, 170), ((6 : Int64), 1002)), ((8, 179), ((131072 : Int64), 1003)), ((8, 181), ((32768 : Int64), 1004)),
  ((10, 36), ((4294967295 : Int64), 1093))]
def px_fd (o i : Nat) : Option (Nat × Nat × Nat × Nat) := px_fdL.lookup (o, i)
def px_sg (o i : Nat) : Option (Nat × Nat × Nat) := px_sgL.lookup (o, i)
def px_mt (o i : Nat) : Option (Nat × Nat) := px_mtL.lookup (o, i)
def px_nwc (o i : Nat) : Option (Nat × Nat × Nat × Nat) := px_nwL.lookup (o, i)
def px_anc (o i : Nat) : Option Nat := px_anL.lookup (o, i)
def px_ldc (o i : Nat) : Option (Int32 × Nat) := px_ldL.lookup (o, i)
def px_l2c (o i : Nat) : Option (Int64 × Nat) := px_l2L.lookup (o, i)
def px_isN : Cond → Bool
  | .fieldLinkNest .. => true
  | _ => false
def px_tb : List Cond := lw_tbl.filter goodWord
def px_nw : List Cond := lw_tbl.filter px_isN
theorem px_mem {i : Nat} {w : Cond} (h : lw_tbl[i]? = some w) (hg : goodWord w = true) : w ∈ px_tb := List.mem_filter.mpr ⟨List.mem_of_getElem? h, hg⟩
theorem px_memN {i : Nat} {w : Cond} (h : lw_tbl[i]? = some w) (hg : px_isN w = true) : w ∈ px_nw := List.mem_filter.mpr ⟨List.mem_of_getElem? h, hg⟩
def px_hw (i : Nat) (w : Cond) : Bool := decide (lw_tbl[i]? = some w) && goodWord w
def px_hN (i : Nat) (w : Cond) : Bool := decide (lw_tbl[i]? = some w) && px_isN w
theorem px_hw_mem {i : Nat} {w : Cond} (h : px_hw i w = true) : w ∈ px_tb := by
  simp only [px_hw, Bool.and_eq_true, decide_eq_true_eq] at h
  exact px_mem h.1 h.2
theorem px_hN_mem {i : Nat} {w : Cond} (h : px_hN i w = true) : w ∈ px_nw := by
  simp only [px_hN, Bool.and_eq_true, decide_eq_true_eq] at h
  exact px_memN h.1 h.2
theorem px_zs_lt : ∀ z ∈ px_zs, z.2.2.2 < px_S := by decide +kernel
theorem px_zs_m : ∀ z ∈ px_zs, z.2.2.2 % 64 = 0 := by decide +kernel
/-- what the tables say of a method -/
def px_okM (y : Nat) : Bool :=
  Jvm.plainName (px_yn y).cls && decide ((px_yn y).cls = px_cn (px_on y)) &&
  decide ((px_yn y).cls ≠ "java/lang/invoke/MethodHandle") && decide ((px_yn y).cls ≠ "java/lang/invoke/VarHandle") &&
  decide ((parseMethodDescriptor (px_yn y).desc).map (fun d => d.parameters.length) = some (px_np y)) &&
  (match px_kw y with
   | (0, a, _, c) => px_hw a (.static (px_yn y)) && px_hw c (.initialized (px_yn y).cls)
   | (1, a, b, c) => px_hw a (.instanceMethod (px_yn y)) && px_hw b (.selects (px_yn y).cls (px_yn y) (px_yn y)) && px_hw c (.initialized (px_yn y).cls)
   | (2, a, _, c) => px_hw a (.instanceMethod (px_yn y)) && px_hw c (.initialized (px_yn y).cls) && decide ((px_yn y).name = "<init>")
   | _ => false)
def px_okL (e : (Nat × Nat) × (Nat × Nat)) : Bool :=
  if e.2.1 < px_nM then px_hw e.2.2 (.methodLink (px_cn e.1.1) e.1.2 (px_yn e.2.1))
  else if e.2.1 = 900 then px_hw e.2.2 (.methodLink (px_cn e.1.1) e.1.2 arraycopyName)
  else if e.2.1 = 901 then px_hw e.2.2 (.methodLink (px_cn e.1.1) e.1.2 Lib.objectInit)
  else if e.2.1 = 902 then px_hw e.2.2 (.methodLink (px_cn e.1.1) e.1.2 Lib.Math.max.name)
  else if e.2.1 = 903 then px_hw e.2.2 (.methodLink (px_cn e.1.1) e.1.2 Lib.Math.min.name)
  else if e.2.1 = 904 then px_hw e.2.2 (.methodLink (px_cn e.1.1) e.1.2 Lib.MathLoose.max_long.x)
  else if e.2.1 = 905 then px_hw e.2.2 (.methodLink (px_cn e.1.1) e.1.2 Lib.MathLoose.min_long.x) else false
def px_okF (e : (Nat × Nat) × (Nat × Nat × Nat × Nat)) : Bool := match px_cl[e.2.1]? with
  | some (C, T, N) => decide (e.2.2.1 < N) && decide ((T e.2.2.1).1 = C) && (match e.2.2.2.1 with
    | 0 => px_hw e.2.2.2.2 (.fieldLink (px_cn e.1.1) e.1.2 C (T e.2.2.1).2.1 (T e.2.2.1).2.2.1)
    | _ => px_hN e.2.2.2.2 (.fieldLinkNest (px_cn e.1.1) e.1.2 C (T e.2.2.1).2.1 (T e.2.2.1).2.2.1 "ImageFile"))
  | none => false
def px_okS (e : (Nat × Nat) × (Nat × Nat × Nat)) : Bool := px_zs.any fun z => decide (z.2.2.2 = e.2.1) && (match e.2.2.1 with
    | 0 => px_hw e.2.2.2 (.fieldLink (px_cn e.1.1) e.1.2 z.1 z.2.1 z.2.2.1)
    | _ => px_hN e.2.2.2 (.fieldLinkNest (px_cn e.1.1) e.1.2 z.1 z.2.1 z.2.2.1 "ImageFile"))
def px_okNw (e : (Nat × Nat) × (Nat × Nat × Nat × Nat)) : Bool := match px_cl[e.2.1]? with
  | some (C, _, N) => px_hw e.2.2.1 (.classLink (px_cn e.1.1) e.1.2 C) && px_hw e.2.2.2.1 (.instantiable C N) && px_hw e.2.2.2.2 (.initialized C)
  | none => false
def px_okAn (e : (Nat × Nat) × Nat) : Bool := px_hw e.2 (.classLink (px_cn e.1.1) e.1.2 "ImageFile$Segment")
def px_okLd (e : (Nat × Nat) × (Int32 × Nat)) : Bool := px_hw e.2.2 (.constant (px_cn e.1.1) e.1.2 e.2.1)
def px_okL2 (e : (Nat × Nat) × (Int64 × Nat)) : Bool := px_hw e.2.2 (.constantLong (px_cn e.1.1) e.1.2 e.2.1)
set_option maxRecDepth 100000 in
theorem px_all_M : (List.range px_nM).all px_okM = true := by decide +kernel
theorem px_okM_of {y : Nat} (h : y < px_nM) : px_okM y = true := List.all_eq_true.mp px_all_M y (List.mem_range.mpr h)
set_option maxRecDepth 100000 in
theorem px_all_L : px_mtL.all px_okL = true := by decide +kernel
set_option maxRecDepth 100000 in
theorem px_all_F : px_fdL.all px_okF = true := by decide +kernel
set_option maxRecDepth 100000 in
theorem px_all_S : px_sgL.all px_okS = true := by decide +kernel
set_option maxRecDepth 100000 in
theorem px_all_Nw : px_nwL.all px_okNw = true := by decide +kernel
set_option maxRecDepth 100000 in
theorem px_all_An : px_anL.all px_okAn = true := by decide +kernel
set_option maxRecDepth 100000 in
theorem px_all_Ld : px_ldL.all px_okLd = true := by decide +kernel
set_option maxRecDepth 100000 in
theorem px_all_L2 : px_l2L.all px_okL2 = true := by decide +kernel
theorem px_lkp {α : Type} : ∀ {l : List ((Nat × Nat) × α)} {k : Nat × Nat} {v : α}, l.lookup k = some v → (k, v) ∈ l
  | [], _, _, h => by cases h
  | (a, b) :: l, k, v, h => by
    rw [List.lookup_cons] at h
    by_cases e : (k == a) = true
    · rw [e] at h
      have : k = a := by simpa using e
      subst this
      cases h
      exact List.mem_cons_self
    · rw [Bool.not_eq_true] at e
      rw [e] at h
      exact List.mem_cons_of_mem _ (px_lkp h)

set_option maxRecDepth 100000 in
theorem px_u0 : ((u_ws RX0 TX0 3).zip [113, 115, 117]).all (fun e => px_hw e.2 e.1) = true := by decide +kernel
theorem px_in0 : ∀ w ∈ u_ws RX0 TX0 3, w ∈ px_tb := by
  intro w hw
  obtain ⟨i, hi⟩ := List.getElem?_of_mem hw
  have hl := (List.getElem?_eq_some_iff.mp hi).1
  have hl2 : i < 3 := by simpa [u_ws] using hl
  have hz : (w, ([113, 115, 117] : List Nat).getD i 0) ∈ (u_ws RX0 TX0 3).zip [113, 115, 117] := by
    refine List.mem_of_getElem? (i := i) ?_
    rw [List.getElem?_zip_eq_some]
    refine ⟨hi, ?_⟩
    rw [List.getElem?_eq_getElem (by simpa using hl2)]
    simp [List.getD_eq_getElem?_getD, List.getElem?_eq_getElem (show i < ([113, 115, 117] : List Nat).length by simpa using hl2)]
  exact px_hw_mem (List.all_eq_true.mp px_u0 _ hz)
set_option maxRecDepth 100000 in
theorem px_u1 : ((u_ws RX1 TX1 5).zip [165, 167, 169, 171, 173]).all (fun e => px_hw e.2 e.1) = true := by decide +kernel
theorem px_in1 : ∀ w ∈ u_ws RX1 TX1 5, w ∈ px_tb := by
  intro w hw
  obtain ⟨i, hi⟩ := List.getElem?_of_mem hw
  have hl := (List.getElem?_eq_some_iff.mp hi).1
  have hl2 : i < 5 := by simpa [u_ws] using hl
  have hz : (w, ([165, 167, 169, 171, 173] : List Nat).getD i 0) ∈ (u_ws RX1 TX1 5).zip [165, 167, 169, 171, 173] := by
    refine List.mem_of_getElem? (i := i) ?_
    rw [List.getElem?_zip_eq_some]
    refine ⟨hi, ?_⟩
    rw [List.getElem?_eq_getElem (by simpa using hl2)]
    simp [List.getD_eq_getElem?_getD, List.getElem?_eq_getElem (show i < ([165, 167, 169, 171, 173] : List Nat).length by simpa using hl2)]
  exact px_hw_mem (List.all_eq_true.mp px_u1 _ hz)
set_option maxRecDepth 100000 in
theorem px_u2 : ((u_ws RX3 TX3 9).zip [217, 219, 221, 223, 225, 227, 229, 231, 233]).all (fun e => px_hw e.2 e.1) = true := by decide +kernel
theorem px_in2 : ∀ w ∈ u_ws RX3 TX3 9, w ∈ px_tb := by
  intro w hw
  obtain ⟨i, hi⟩ := List.getElem?_of_mem hw
  have hl := (List.getElem?_eq_some_iff.mp hi).1
  have hl2 : i < 9 := by simpa [u_ws] using hl
  have hz : (w, ([217, 219, 221, 223, 225, 227, 229, 231, 233] : List Nat).getD i 0) ∈ (u_ws RX3 TX3 9).zip [217, 219, 221, 223, 225, 227, 229, 231, 233] := by
    refine List.mem_of_getElem? (i := i) ?_
    rw [List.getElem?_zip_eq_some]
    refine ⟨hi, ?_⟩
    rw [List.getElem?_eq_getElem (by simpa using hl2)]
    simp [List.getD_eq_getElem?_getD, List.getElem?_eq_getElem (show i < ([217, 219, 221, 223, 225, 227, 229, 231, 233] : List Nat).length by simpa using hl2)]
  exact px_hw_mem (List.all_eq_true.mp px_u2 _ hz)
set_option maxRecDepth 100000 in
theorem px_u3 : ((u_ws RX4 TX4 5).zip [140, 142, 144, 146, 148]).all (fun e => px_hw e.2 e.1) = true := by decide +kernel
theorem px_in3 : ∀ w ∈ u_ws RX4 TX4 5, w ∈ px_tb := by
  intro w hw
  obtain ⟨i, hi⟩ := List.getElem?_of_mem hw
  have hl := (List.getElem?_eq_some_iff.mp hi).1
  have hl2 : i < 5 := by simpa [u_ws] using hl
  have hz : (w, ([140, 142, 144, 146, 148] : List Nat).getD i 0) ∈ (u_ws RX4 TX4 5).zip [140, 142, 144, 146, 148] := by
    refine List.mem_of_getElem? (i := i) ?_
    rw [List.getElem?_zip_eq_some]
    refine ⟨hi, ?_⟩
    rw [List.getElem?_eq_getElem (by simpa using hl2)]
    simp [List.getD_eq_getElem?_getD, List.getElem?_eq_getElem (show i < ([140, 142, 144, 146, 148] : List Nat).length by simpa using hl2)]
  exact px_hw_mem (List.all_eq_true.mp px_u3 _ hz)
set_option maxRecDepth 100000 in
theorem px_u4 : ((u_ws RX6 TX6 4).zip [188, 190, 192, 194]).all (fun e => px_hw e.2 e.1) = true := by decide +kernel
theorem px_in4 : ∀ w ∈ u_ws RX6 TX6 4, w ∈ px_tb := by
  intro w hw
  obtain ⟨i, hi⟩ := List.getElem?_of_mem hw
  have hl := (List.getElem?_eq_some_iff.mp hi).1
  have hl2 : i < 4 := by simpa [u_ws] using hl
  have hz : (w, ([188, 190, 192, 194] : List Nat).getD i 0) ∈ (u_ws RX6 TX6 4).zip [188, 190, 192, 194] := by
    refine List.mem_of_getElem? (i := i) ?_
    rw [List.getElem?_zip_eq_some]
    refine ⟨hi, ?_⟩
    rw [List.getElem?_eq_getElem (by simpa using hl2)]
    simp [List.getD_eq_getElem?_getD, List.getElem?_eq_getElem (show i < ([188, 190, 192, 194] : List Nat).length by simpa using hl2)]
  exact px_hw_mem (List.all_eq_true.mp px_u4 _ hz)
set_option maxRecDepth 100000 in
theorem px_u5 : ((u_ws RX7 TX7 5).zip [241, 243, 245, 247, 249]).all (fun e => px_hw e.2 e.1) = true := by decide +kernel
theorem px_in5 : ∀ w ∈ u_ws RX7 TX7 5, w ∈ px_tb := by
  intro w hw
  obtain ⟨i, hi⟩ := List.getElem?_of_mem hw
  have hl := (List.getElem?_eq_some_iff.mp hi).1
  have hl2 : i < 5 := by simpa [u_ws] using hl
  have hz : (w, ([241, 243, 245, 247, 249] : List Nat).getD i 0) ∈ (u_ws RX7 TX7 5).zip [241, 243, 245, 247, 249] := by
    refine List.mem_of_getElem? (i := i) ?_
    rw [List.getElem?_zip_eq_some]
    refine ⟨hi, ?_⟩
    rw [List.getElem?_eq_getElem (by simpa using hl2)]
    simp [List.getD_eq_getElem?_getD, List.getElem?_eq_getElem (show i < ([241, 243, 245, 247, 249] : List Nat).length by simpa using hl2)]
  exact px_hw_mem (List.all_eq_true.mp px_u5 _ hz)
set_option maxRecDepth 100000 in
theorem px_u6 : ((u_ws RX8 TX8 16).zip [784, 786, 788, 790, 792, 794, 796, 798, 800, 802, 804, 806, 808, 810, 812, 814]).all (fun e => px_hw e.2 e.1) = true := by decide +kernel
theorem px_in6 : ∀ w ∈ u_ws RX8 TX8 16, w ∈ px_tb := by
  intro w hw
  obtain ⟨i, hi⟩ := List.getElem?_of_mem hw
  have hl := (List.getElem?_eq_some_iff.mp hi).1
  have hl2 : i < 16 := by simpa [u_ws] using hl
  have hz : (w, ([784, 786, 788, 790, 792, 794, 796, 798, 800, 802, 804, 806, 808, 810, 812, 814] : List Nat).getD i 0) ∈ (u_ws RX8 TX8 16).zip [784, 786, 788, 790, 792, 794, 796, 798, 800, 802, 804, 806, 808, 810, 812, 814] := by
    refine List.mem_of_getElem? (i := i) ?_
    rw [List.getElem?_zip_eq_some]
    refine ⟨hi, ?_⟩
    rw [List.getElem?_eq_getElem (by simpa using hl2)]
    simp [List.getD_eq_getElem?_getD, List.getElem?_eq_getElem (show i < ([784, 786, 788, 790, 792, 794, 796, 798, 800, 802, 804, 806, 808, 810, 812, 814] : List Nat).length by simpa using hl2)]
  exact px_hw_mem (List.all_eq_true.mp px_u6 _ hz)
theorem px_ac_byte : Cond.arrayClass .byte ∈ px_tb := px_mem (i := 120) (by decide +kernel) rfl
theorem px_ac_int : Cond.arrayClass .int ∈ px_tb := px_mem (i := 197) (by decide +kernel) rfl
theorem px_ac_boolean : Cond.arrayClass .boolean ∈ px_tb := px_mem (i := 817) (by decide +kernel) rfl
theorem px_aoP : Cond.arrayOver (.object "ImageFile$Segment") ∈ lw_tbl := List.mem_of_getElem? (i := 90) (by decide +kernel)
theorem px_acN : Cond.native arraycopyName ∈ px_tb := px_mem (i := 329) (by decide +kernel) rfl
theorem px_acS : Cond.static arraycopyName ∈ px_tb := px_mem (i := 328) (by decide +kernel) rfl
theorem px_acI : Cond.initialized "java/lang/System" ∈ px_tb := px_mem (i := 72) (by decide +kernel) rfl
theorem px_oiI : Cond.instanceMethod Lib.objectInit ∈ px_tb := px_mem (i := 81) (by decide +kernel) rfl
theorem px_oiC : Cond.code Lib.objectInit ⟨#[0xb1]⟩ 1 none ∈ px_tb := px_mem (i := 82) (by decide +kernel) rfl
theorem px_maI : Cond.initialized "java/lang/Math" ∈ px_tb := px_mem (i := 71) (by decide +kernel) rfl
theorem px_ma902S : Cond.static Lib.Math.max.name ∈ px_tb := px_mem (i := 311) (by decide +kernel) rfl
theorem px_ma902C : Cond.code Lib.Math.max.name Lib.Math.max.code 2 (some .int) ∈ px_tb := px_mem (i := 312) (by decide +kernel) rfl
theorem px_ma903S : Cond.static Lib.Math.min.name ∈ px_tb := px_mem (i := 314) (by decide +kernel) rfl
theorem px_ma903C : Cond.code Lib.Math.min.name Lib.Math.min.code 2 (some .int) ∈ px_tb := px_mem (i := 315) (by decide +kernel) rfl
theorem px_ma904S : Cond.static Lib.MathLoose.max_long.x ∈ px_tb := px_mem (i := 624) (by decide +kernel) rfl
theorem px_ma904C : Cond.code Lib.MathLoose.max_long.x Lib.MathLoose.max_long.code 4 (some .long) ∈ px_tb := px_mem (i := 625) (by decide +kernel) rfl
theorem px_ma905S : Cond.static Lib.MathLoose.min_long.x ∈ px_tb := px_mem (i := 627) (by decide +kernel) rfl
theorem px_ma905C : Cond.code Lib.MathLoose.min_long.x Lib.MathLoose.min_long.code 4 (some .long) ∈ px_tb := px_mem (i := 628) (by decide +kernel) rfl
set_option maxRecDepth 100000 in
theorem px_cw0 : lw_tbl[79]? = some (.code (px_yn 0) (px_cd 0) (px_mL 0) (px_rt 0)) := by rfl
set_option maxRecDepth 100000 in
theorem px_cw1 : lw_tbl[87]? = some (.code (px_yn 1) (px_cd 1) (px_mL 1) (px_rt 1)) := by rfl
set_option maxRecDepth 100000 in
theorem px_cw2 : lw_tbl[96]? = some (.code (px_yn 2) (px_cd 2) (px_mL 2) (px_rt 2)) := by rfl
set_option maxRecDepth 100000 in
theorem px_cw3 : lw_tbl[102]? = some (.code (px_yn 3) (px_cd 3) (px_mL 3) (px_rt 3)) := by rfl
set_option maxRecDepth 100000 in
theorem px_cw4 : lw_tbl[182]? = some (.code (px_yn 4) (px_cd 4) (px_mL 4) (px_rt 4)) := by rfl
set_option maxRecDepth 100000 in
theorem px_cw5 : lw_tbl[202]? = some (.code (px_yn 5) (px_cd 5) (px_mL 5) (px_rt 5)) := by rfl
set_option maxRecDepth 100000 in
theorem px_cw6 : lw_tbl[255]? = some (.code (px_yn 6) (px_cd 6) (px_mL 6) (px_rt 6)) := by rfl
set_option maxRecDepth 100000 in
theorem px_cw7 : lw_tbl[259]? = some (.code (px_yn 7) (px_cd 7) (px_mL 7) (px_rt 7)) := by rfl
set_option maxRecDepth 100000 in
theorem px_cw8 : lw_tbl[263]? = some (.code (px_yn 8) (px_cd 8) (px_mL 8) (px_rt 8)) := by rfl
set_option maxRecDepth 100000 in
theorem px_cw9 : lw_tbl[267]? = some (.code (px_yn 9) (px_cd 9) (px_mL 9) (px_rt 9)) := by rfl
set_option maxRecDepth 100000 in
theorem px_cw10 : lw_tbl[270]? = some (.code (px_yn 10) (px_cd 10) (px_mL 10) (px_rt 10)) := by rfl
set_option maxRecDepth 100000 in
theorem px_cw11 : lw_tbl[274]? = some (.code (px_yn 11) (px_cd 11) (px_mL 11) (px_rt 11)) := by rfl
set_option maxRecDepth 100000 in
theorem px_cw12 : lw_tbl[278]? = some (.code (px_yn 12) (px_cd 12) (px_mL 12) (px_rt 12)) := by rfl
set_option maxRecDepth 100000 in
theorem px_cw13 : lw_tbl[282]? = some (.code (px_yn 13) (px_cd 13) (px_mL 13) (px_rt 13)) := by rfl
set_option maxRecDepth 100000 in
theorem px_cw14 : lw_tbl[286]? = some (.code (px_yn 14) (px_cd 14) (px_mL 14) (px_rt 14)) := by rfl
set_option maxRecDepth 100000 in
theorem px_cw15 : lw_tbl[292]? = some (.code (px_yn 15) (px_cd 15) (px_mL 15) (px_rt 15)) := by rfl
set_option maxRecDepth 100000 in
theorem px_cw16 : lw_tbl[296]? = some (.code (px_yn 16) (px_cd 16) (px_mL 16) (px_rt 16)) := by rfl
set_option maxRecDepth 100000 in
theorem px_cw17 : lw_tbl[301]? = some (.code (px_yn 17) (px_cd 17) (px_mL 17) (px_rt 17)) := by rfl
set_option maxRecDepth 100000 in
theorem px_cw18 : lw_tbl[305]? = some (.code (px_yn 18) (px_cd 18) (px_mL 18) (px_rt 18)) := by rfl
set_option maxRecDepth 100000 in
theorem px_cw19 : lw_tbl[309]? = some (.code (px_yn 19) (px_cd 19) (px_mL 19) (px_rt 19)) := by rfl
set_option maxRecDepth 100000 in
theorem px_cw20 : lw_tbl[318]? = some (.code (px_yn 20) (px_cd 20) (px_mL 20) (px_rt 20)) := by rfl
set_option maxRecDepth 100000 in
theorem px_cw21 : lw_tbl[333]? = some (.code (px_yn 21) (px_cd 21) (px_mL 21) (px_rt 21)) := by rfl
set_option maxRecDepth 100000 in
theorem px_cw22 : lw_tbl[336]? = some (.code (px_yn 22) (px_cd 22) (px_mL 22) (px_rt 22)) := by rfl
set_option maxRecDepth 100000 in
theorem px_cw23 : lw_tbl[340]? = some (.code (px_yn 23) (px_cd 23) (px_mL 23) (px_rt 23)) := by rfl
set_option maxRecDepth 100000 in
theorem px_cw24 : lw_tbl[344]? = some (.code (px_yn 24) (px_cd 24) (px_mL 24) (px_rt 24)) := by rfl
set_option maxRecDepth 100000 in
theorem px_cw25 : lw_tbl[348]? = some (.code (px_yn 25) (px_cd 25) (px_mL 25) (px_rt 25)) := by rfl
set_option maxRecDepth 100000 in
theorem px_cw26 : lw_tbl[352]? = some (.code (px_yn 26) (px_cd 26) (px_mL 26) (px_rt 26)) := by rfl
set_option maxRecDepth 100000 in
theorem px_cw27 : lw_tbl[356]? = some (.code (px_yn 27) (px_cd 27) (px_mL 27) (px_rt 27)) := by rfl
set_option maxRecDepth 100000 in
theorem px_cw28 : lw_tbl[360]? = some (.code (px_yn 28) (px_cd 28) (px_mL 28) (px_rt 28)) := by rfl
set_option maxRecDepth 100000 in
theorem px_cw29 : lw_tbl[364]? = some (.code (px_yn 29) (px_cd 29) (px_mL 29) (px_rt 29)) := by rfl
set_option maxRecDepth 100000 in
theorem px_cw30 : lw_tbl[368]? = some (.code (px_yn 30) (px_cd 30) (px_mL 30) (px_rt 30)) := by rfl
set_option maxRecDepth 100000 in
theorem px_cw31 : lw_tbl[372]? = some (.code (px_yn 31) (px_cd 31) (px_mL 31) (px_rt 31)) := by rfl
set_option maxRecDepth 100000 in
theorem px_cw32 : lw_tbl[377]? = some (.code (px_yn 32) (px_cd 32) (px_mL 32) (px_rt 32)) := by rfl
set_option maxRecDepth 100000 in
theorem px_cw33 : lw_tbl[385]? = some (.code (px_yn 33) (px_cd 33) (px_mL 33) (px_rt 33)) := by rfl
set_option maxRecDepth 100000 in
theorem px_cw34 : lw_tbl[392]? = some (.code (px_yn 34) (px_cd 34) (px_mL 34) (px_rt 34)) := by rfl
set_option maxRecDepth 100000 in
theorem px_cw35 : lw_tbl[397]? = some (.code (px_yn 35) (px_cd 35) (px_mL 35) (px_rt 35)) := by rfl
set_option maxRecDepth 100000 in
theorem px_cw36 : lw_tbl[401]? = some (.code (px_yn 36) (px_cd 36) (px_mL 36) (px_rt 36)) := by rfl
set_option maxRecDepth 100000 in
theorem px_cw37 : lw_tbl[405]? = some (.code (px_yn 37) (px_cd 37) (px_mL 37) (px_rt 37)) := by rfl
set_option maxRecDepth 100000 in
theorem px_cw38 : lw_tbl[409]? = some (.code (px_yn 38) (px_cd 38) (px_mL 38) (px_rt 38)) := by rfl
set_option maxRecDepth 100000 in
theorem px_cw39 : lw_tbl[413]? = some (.code (px_yn 39) (px_cd 39) (px_mL 39) (px_rt 39)) := by rfl
set_option maxRecDepth 100000 in
theorem px_cw40 : lw_tbl[417]? = some (.code (px_yn 40) (px_cd 40) (px_mL 40) (px_rt 40)) := by rfl
set_option maxRecDepth 100000 in
theorem px_cw41 : lw_tbl[421]? = some (.code (px_yn 41) (px_cd 41) (px_mL 41) (px_rt 41)) := by rfl
set_option maxRecDepth 100000 in
theorem px_cw42 : lw_tbl[424]? = some (.code (px_yn 42) (px_cd 42) (px_mL 42) (px_rt 42)) := by rfl
set_option maxRecDepth 100000 in
theorem px_cw43 : lw_tbl[427]? = some (.code (px_yn 43) (px_cd 43) (px_mL 43) (px_rt 43)) := by rfl
set_option maxRecDepth 100000 in
theorem px_cw44 : lw_tbl[431]? = some (.code (px_yn 44) (px_cd 44) (px_mL 44) (px_rt 44)) := by rfl
set_option maxRecDepth 100000 in
theorem px_cw45 : lw_tbl[437]? = some (.code (px_yn 45) (px_cd 45) (px_mL 45) (px_rt 45)) := by rfl
set_option maxRecDepth 100000 in
theorem px_cw46 : lw_tbl[443]? = some (.code (px_yn 46) (px_cd 46) (px_mL 46) (px_rt 46)) := by rfl
set_option maxRecDepth 100000 in
theorem px_cw47 : lw_tbl[447]? = some (.code (px_yn 47) (px_cd 47) (px_mL 47) (px_rt 47)) := by rfl
set_option maxRecDepth 100000 in
theorem px_cw48 : lw_tbl[451]? = some (.code (px_yn 48) (px_cd 48) (px_mL 48) (px_rt 48)) := by rfl
set_option maxRecDepth 100000 in
theorem px_cw49 : lw_tbl[455]? = some (.code (px_yn 49) (px_cd 49) (px_mL 49) (px_rt 49)) := by rfl
set_option maxRecDepth 100000 in
theorem px_cw50 : lw_tbl[459]? = some (.code (px_yn 50) (px_cd 50) (px_mL 50) (px_rt 50)) := by rfl
set_option maxRecDepth 100000 in
theorem px_cw51 : lw_tbl[463]? = some (.code (px_yn 51) (px_cd 51) (px_mL 51) (px_rt 51)) := by rfl
set_option maxRecDepth 100000 in
theorem px_cw52 : lw_tbl[467]? = some (.code (px_yn 52) (px_cd 52) (px_mL 52) (px_rt 52)) := by rfl
set_option maxRecDepth 100000 in
theorem px_cw53 : lw_tbl[471]? = some (.code (px_yn 53) (px_cd 53) (px_mL 53) (px_rt 53)) := by rfl
set_option maxRecDepth 100000 in
theorem px_cw54 : lw_tbl[475]? = some (.code (px_yn 54) (px_cd 54) (px_mL 54) (px_rt 54)) := by rfl
set_option maxRecDepth 100000 in
theorem px_cw55 : lw_tbl[480]? = some (.code (px_yn 55) (px_cd 55) (px_mL 55) (px_rt 55)) := by rfl
set_option maxRecDepth 100000 in
theorem px_cw56 : lw_tbl[484]? = some (.code (px_yn 56) (px_cd 56) (px_mL 56) (px_rt 56)) := by rfl
set_option maxRecDepth 100000 in
theorem px_cw57 : lw_tbl[488]? = some (.code (px_yn 57) (px_cd 57) (px_mL 57) (px_rt 57)) := by rfl
set_option maxRecDepth 100000 in
theorem px_cw58 : lw_tbl[493]? = some (.code (px_yn 58) (px_cd 58) (px_mL 58) (px_rt 58)) := by rfl
set_option maxRecDepth 100000 in
theorem px_cw59 : lw_tbl[500]? = some (.code (px_yn 59) (px_cd 59) (px_mL 59) (px_rt 59)) := by rfl
set_option maxRecDepth 100000 in
theorem px_cw60 : lw_tbl[503]? = some (.code (px_yn 60) (px_cd 60) (px_mL 60) (px_rt 60)) := by rfl
set_option maxRecDepth 100000 in
theorem px_cw61 : lw_tbl[506]? = some (.code (px_yn 61) (px_cd 61) (px_mL 61) (px_rt 61)) := by rfl
set_option maxRecDepth 100000 in
theorem px_cw62 : lw_tbl[511]? = some (.code (px_yn 62) (px_cd 62) (px_mL 62) (px_rt 62)) := by rfl
set_option maxRecDepth 100000 in
theorem px_cw63 : lw_tbl[517]? = some (.code (px_yn 63) (px_cd 63) (px_mL 63) (px_rt 63)) := by rfl
set_option maxRecDepth 100000 in
theorem px_cw64 : lw_tbl[523]? = some (.code (px_yn 64) (px_cd 64) (px_mL 64) (px_rt 64)) := by rfl
set_option maxRecDepth 100000 in
theorem px_cw65 : lw_tbl[527]? = some (.code (px_yn 65) (px_cd 65) (px_mL 65) (px_rt 65)) := by rfl
set_option maxRecDepth 100000 in
theorem px_cw66 : lw_tbl[532]? = some (.code (px_yn 66) (px_cd 66) (px_mL 66) (px_rt 66)) := by rfl
set_option maxRecDepth 100000 in
theorem px_cw67 : lw_tbl[536]? = some (.code (px_yn 67) (px_cd 67) (px_mL 67) (px_rt 67)) := by rfl
set_option maxRecDepth 100000 in
theorem px_cw68 : lw_tbl[541]? = some (.code (px_yn 68) (px_cd 68) (px_mL 68) (px_rt 68)) := by rfl
set_option maxRecDepth 100000 in
theorem px_cw69 : lw_tbl[545]? = some (.code (px_yn 69) (px_cd 69) (px_mL 69) (px_rt 69)) := by rfl
set_option maxRecDepth 100000 in
theorem px_cw70 : lw_tbl[549]? = some (.code (px_yn 70) (px_cd 70) (px_mL 70) (px_rt 70)) := by rfl
set_option maxRecDepth 100000 in
theorem px_cw71 : lw_tbl[553]? = some (.code (px_yn 71) (px_cd 71) (px_mL 71) (px_rt 71)) := by rfl
set_option maxRecDepth 100000 in
theorem px_cw72 : lw_tbl[558]? = some (.code (px_yn 72) (px_cd 72) (px_mL 72) (px_rt 72)) := by rfl
set_option maxRecDepth 100000 in
theorem px_cw73 : lw_tbl[562]? = some (.code (px_yn 73) (px_cd 73) (px_mL 73) (px_rt 73)) := by rfl
set_option maxRecDepth 100000 in
theorem px_cw74 : lw_tbl[567]? = some (.code (px_yn 74) (px_cd 74) (px_mL 74) (px_rt 74)) := by rfl
set_option maxRecDepth 100000 in
theorem px_cw75 : lw_tbl[571]? = some (.code (px_yn 75) (px_cd 75) (px_mL 75) (px_rt 75)) := by rfl
set_option maxRecDepth 100000 in
theorem px_cw76 : lw_tbl[576]? = some (.code (px_yn 76) (px_cd 76) (px_mL 76) (px_rt 76)) := by rfl
set_option maxRecDepth 100000 in
theorem px_cw77 : lw_tbl[580]? = some (.code (px_yn 77) (px_cd 77) (px_mL 77) (px_rt 77)) := by rfl
set_option maxRecDepth 100000 in
theorem px_cw78 : lw_tbl[584]? = some (.code (px_yn 78) (px_cd 78) (px_mL 78) (px_rt 78)) := by rfl
set_option maxRecDepth 100000 in
theorem px_cw79 : lw_tbl[591]? = some (.code (px_yn 79) (px_cd 79) (px_mL 79) (px_rt 79)) := by rfl
set_option maxRecDepth 100000 in
theorem px_cw80 : lw_tbl[595]? = some (.code (px_yn 80) (px_cd 80) (px_mL 80) (px_rt 80)) := by rfl
set_option maxRecDepth 100000 in
theorem px_cw81 : lw_tbl[600]? = some (.code (px_yn 81) (px_cd 81) (px_mL 81) (px_rt 81)) := by rfl
set_option maxRecDepth 100000 in
theorem px_cw82 : lw_tbl[603]? = some (.code (px_yn 82) (px_cd 82) (px_mL 82) (px_rt 82)) := by rfl
set_option maxRecDepth 100000 in
theorem px_cw83 : lw_tbl[608]? = some (.code (px_yn 83) (px_cd 83) (px_mL 83) (px_rt 83)) := by rfl
set_option maxRecDepth 100000 in
theorem px_cw84 : lw_tbl[611]? = some (.code (px_yn 84) (px_cd 84) (px_mL 84) (px_rt 84)) := by rfl
set_option maxRecDepth 100000 in
theorem px_cw85 : lw_tbl[619]? = some (.code (px_yn 85) (px_cd 85) (px_mL 85) (px_rt 85)) := by rfl
set_option maxRecDepth 100000 in
theorem px_cw86 : lw_tbl[622]? = some (.code (px_yn 86) (px_cd 86) (px_mL 86) (px_rt 86)) := by rfl
set_option maxRecDepth 100000 in
theorem px_cw87 : lw_tbl[632]? = some (.code (px_yn 87) (px_cd 87) (px_mL 87) (px_rt 87)) := by rfl
set_option maxRecDepth 100000 in
theorem px_cw88 : lw_tbl[636]? = some (.code (px_yn 88) (px_cd 88) (px_mL 88) (px_rt 88)) := by rfl
set_option maxRecDepth 100000 in
theorem px_cw89 : lw_tbl[643]? = some (.code (px_yn 89) (px_cd 89) (px_mL 89) (px_rt 89)) := by rfl
set_option maxRecDepth 100000 in
theorem px_cw90 : lw_tbl[652]? = some (.code (px_yn 90) (px_cd 90) (px_mL 90) (px_rt 90)) := by rfl
set_option maxRecDepth 100000 in
theorem px_cw91 : lw_tbl[656]? = some (.code (px_yn 91) (px_cd 91) (px_mL 91) (px_rt 91)) := by rfl
set_option maxRecDepth 100000 in
theorem px_cw92 : lw_tbl[663]? = some (.code (px_yn 92) (px_cd 92) (px_mL 92) (px_rt 92)) := by rfl
set_option maxRecDepth 100000 in
theorem px_cw93 : lw_tbl[668]? = some (.code (px_yn 93) (px_cd 93) (px_mL 93) (px_rt 93)) := by rfl
set_option maxRecDepth 100000 in
theorem px_cw94 : lw_tbl[672]? = some (.code (px_yn 94) (px_cd 94) (px_mL 94) (px_rt 94)) := by rfl
set_option maxRecDepth 100000 in
theorem px_cw95 : lw_tbl[680]? = some (.code (px_yn 95) (px_cd 95) (px_mL 95) (px_rt 95)) := by rfl
set_option maxRecDepth 100000 in
theorem px_cw96 : lw_tbl[684]? = some (.code (px_yn 96) (px_cd 96) (px_mL 96) (px_rt 96)) := by rfl
set_option maxRecDepth 100000 in
theorem px_cw97 : lw_tbl[688]? = some (.code (px_yn 97) (px_cd 97) (px_mL 97) (px_rt 97)) := by rfl
set_option maxRecDepth 100000 in
theorem px_cw98 : lw_tbl[694]? = some (.code (px_yn 98) (px_cd 98) (px_mL 98) (px_rt 98)) := by rfl
set_option maxRecDepth 100000 in
theorem px_cw99 : lw_tbl[698]? = some (.code (px_yn 99) (px_cd 99) (px_mL 99) (px_rt 99)) := by rfl
set_option maxRecDepth 100000 in
theorem px_cw100 : lw_tbl[702]? = some (.code (px_yn 100) (px_cd 100) (px_mL 100) (px_rt 100)) := by rfl
set_option maxRecDepth 100000 in
theorem px_cw101 : lw_tbl[706]? = some (.code (px_yn 101) (px_cd 101) (px_mL 101) (px_rt 101)) := by rfl
set_option maxRecDepth 100000 in
theorem px_cw102 : lw_tbl[710]? = some (.code (px_yn 102) (px_cd 102) (px_mL 102) (px_rt 102)) := by rfl
set_option maxRecDepth 100000 in
theorem px_cw103 : lw_tbl[715]? = some (.code (px_yn 103) (px_cd 103) (px_mL 103) (px_rt 103)) := by rfl
set_option maxRecDepth 100000 in
theorem px_cw104 : lw_tbl[720]? = some (.code (px_yn 104) (px_cd 104) (px_mL 104) (px_rt 104)) := by rfl
set_option maxRecDepth 100000 in
theorem px_cw105 : lw_tbl[724]? = some (.code (px_yn 105) (px_cd 105) (px_mL 105) (px_rt 105)) := by rfl
set_option maxRecDepth 100000 in
theorem px_cw106 : lw_tbl[728]? = some (.code (px_yn 106) (px_cd 106) (px_mL 106) (px_rt 106)) := by rfl
set_option maxRecDepth 100000 in
theorem px_cw107 : lw_tbl[732]? = some (.code (px_yn 107) (px_cd 107) (px_mL 107) (px_rt 107)) := by rfl
set_option maxRecDepth 100000 in
theorem px_cw108 : lw_tbl[736]? = some (.code (px_yn 108) (px_cd 108) (px_mL 108) (px_rt 108)) := by rfl
set_option maxRecDepth 100000 in
theorem px_cw109 : lw_tbl[741]? = some (.code (px_yn 109) (px_cd 109) (px_mL 109) (px_rt 109)) := by rfl
set_option maxRecDepth 100000 in
theorem px_cw110 : lw_tbl[745]? = some (.code (px_yn 110) (px_cd 110) (px_mL 110) (px_rt 110)) := by rfl
set_option maxRecDepth 100000 in
theorem px_cw111 : lw_tbl[750]? = some (.code (px_yn 111) (px_cd 111) (px_mL 111) (px_rt 111)) := by rfl
set_option maxRecDepth 100000 in
theorem px_cw112 : lw_tbl[756]? = some (.code (px_yn 112) (px_cd 112) (px_mL 112) (px_rt 112)) := by rfl
set_option maxRecDepth 100000 in
theorem px_cw113 : lw_tbl[760]? = some (.code (px_yn 113) (px_cd 113) (px_mL 113) (px_rt 113)) := by rfl
set_option maxRecDepth 100000 in
theorem px_cw114 : lw_tbl[766]? = some (.code (px_yn 114) (px_cd 114) (px_mL 114) (px_rt 114)) := by rfl
set_option maxRecDepth 100000 in
theorem px_cw115 : lw_tbl[821]? = some (.code (px_yn 115) (px_cd 115) (px_mL 115) (px_rt 115)) := by rfl
set_option maxRecDepth 100000 in
theorem px_cw116 : lw_tbl[825]? = some (.code (px_yn 116) (px_cd 116) (px_mL 116) (px_rt 116)) := by rfl
set_option maxRecDepth 100000 in
theorem px_cw117 : lw_tbl[829]? = some (.code (px_yn 117) (px_cd 117) (px_mL 117) (px_rt 117)) := by rfl
set_option maxRecDepth 100000 in
theorem px_cw118 : lw_tbl[833]? = some (.code (px_yn 118) (px_cd 118) (px_mL 118) (px_rt 118)) := by rfl
set_option maxRecDepth 100000 in
theorem px_cw119 : lw_tbl[836]? = some (.code (px_yn 119) (px_cd 119) (px_mL 119) (px_rt 119)) := by rfl
set_option maxRecDepth 100000 in
theorem px_cw120 : lw_tbl[842]? = some (.code (px_yn 120) (px_cd 120) (px_mL 120) (px_rt 120)) := by rfl
set_option maxRecDepth 100000 in
theorem px_cw121 : lw_tbl[846]? = some (.code (px_yn 121) (px_cd 121) (px_mL 121) (px_rt 121)) := by rfl
set_option maxRecDepth 100000 in
theorem px_cw122 : lw_tbl[849]? = some (.code (px_yn 122) (px_cd 122) (px_mL 122) (px_rt 122)) := by rfl
set_option maxRecDepth 100000 in
theorem px_cw123 : lw_tbl[854]? = some (.code (px_yn 123) (px_cd 123) (px_mL 123) (px_rt 123)) := by rfl
set_option maxRecDepth 100000 in
theorem px_cw124 : lw_tbl[858]? = some (.code (px_yn 124) (px_cd 124) (px_mL 124) (px_rt 124)) := by rfl
set_option maxRecDepth 100000 in
theorem px_cw125 : lw_tbl[862]? = some (.code (px_yn 125) (px_cd 125) (px_mL 125) (px_rt 125)) := by rfl
set_option maxRecDepth 100000 in
theorem px_cw126 : lw_tbl[866]? = some (.code (px_yn 126) (px_cd 126) (px_mL 126) (px_rt 126)) := by rfl
set_option maxRecDepth 100000 in
theorem px_cw127 : lw_tbl[870]? = some (.code (px_yn 127) (px_cd 127) (px_mL 127) (px_rt 127)) := by rfl
set_option maxRecDepth 100000 in
theorem px_cw128 : lw_tbl[874]? = some (.code (px_yn 128) (px_cd 128) (px_mL 128) (px_rt 128)) := by rfl
set_option maxRecDepth 100000 in
theorem px_cw129 : lw_tbl[878]? = some (.code (px_yn 129) (px_cd 129) (px_mL 129) (px_rt 129)) := by rfl
set_option maxRecDepth 100000 in
theorem px_cw130 : lw_tbl[882]? = some (.code (px_yn 130) (px_cd 130) (px_mL 130) (px_rt 130)) := by rfl
set_option maxRecDepth 100000 in
theorem px_cw131 : lw_tbl[885]? = some (.code (px_yn 131) (px_cd 131) (px_mL 131) (px_rt 131)) := by rfl
set_option maxRecDepth 100000 in
theorem px_cw132 : lw_tbl[889]? = some (.code (px_yn 132) (px_cd 132) (px_mL 132) (px_rt 132)) := by rfl
set_option maxRecDepth 100000 in
theorem px_cw133 : lw_tbl[892]? = some (.code (px_yn 133) (px_cd 133) (px_mL 133) (px_rt 133)) := by rfl
set_option maxRecDepth 100000 in
theorem px_cw134 : lw_tbl[896]? = some (.code (px_yn 134) (px_cd 134) (px_mL 134) (px_rt 134)) := by rfl
set_option maxRecDepth 100000 in
theorem px_cw135 : lw_tbl[901]? = some (.code (px_yn 135) (px_cd 135) (px_mL 135) (px_rt 135)) := by rfl
set_option maxRecDepth 100000 in
theorem px_cw136 : lw_tbl[905]? = some (.code (px_yn 136) (px_cd 136) (px_mL 136) (px_rt 136)) := by rfl
set_option maxRecDepth 100000 in
theorem px_cw137 : lw_tbl[910]? = some (.code (px_yn 137) (px_cd 137) (px_mL 137) (px_rt 137)) := by rfl
set_option maxRecDepth 100000 in
theorem px_cw138 : lw_tbl[913]? = some (.code (px_yn 138) (px_cd 138) (px_mL 138) (px_rt 138)) := by rfl
set_option maxRecDepth 100000 in
theorem px_cw139 : lw_tbl[917]? = some (.code (px_yn 139) (px_cd 139) (px_mL 139) (px_rt 139)) := by rfl
set_option maxRecDepth 100000 in
theorem px_cw140 : lw_tbl[922]? = some (.code (px_yn 140) (px_cd 140) (px_mL 140) (px_rt 140)) := by rfl
set_option maxRecDepth 100000 in
theorem px_cw141 : lw_tbl[926]? = some (.code (px_yn 141) (px_cd 141) (px_mL 141) (px_rt 141)) := by rfl
set_option maxRecDepth 100000 in
theorem px_cw142 : lw_tbl[930]? = some (.code (px_yn 142) (px_cd 142) (px_mL 142) (px_rt 142)) := by rfl
set_option maxRecDepth 100000 in
theorem px_cw143 : lw_tbl[935]? = some (.code (px_yn 143) (px_cd 143) (px_mL 143) (px_rt 143)) := by rfl
set_option maxRecDepth 100000 in
theorem px_cw144 : lw_tbl[939]? = some (.code (px_yn 144) (px_cd 144) (px_mL 144) (px_rt 144)) := by rfl
set_option maxRecDepth 100000 in
theorem px_cw145 : lw_tbl[943]? = some (.code (px_yn 145) (px_cd 145) (px_mL 145) (px_rt 145)) := by rfl
set_option maxRecDepth 100000 in
theorem px_cw146 : lw_tbl[947]? = some (.code (px_yn 146) (px_cd 146) (px_mL 146) (px_rt 146)) := by rfl
set_option maxRecDepth 100000 in
theorem px_cw147 : lw_tbl[951]? = some (.code (px_yn 147) (px_cd 147) (px_mL 147) (px_rt 147)) := by rfl
set_option maxRecDepth 100000 in
theorem px_cw148 : lw_tbl[955]? = some (.code (px_yn 148) (px_cd 148) (px_mL 148) (px_rt 148)) := by rfl
set_option maxRecDepth 100000 in
theorem px_cw149 : lw_tbl[959]? = some (.code (px_yn 149) (px_cd 149) (px_mL 149) (px_rt 149)) := by rfl
set_option maxRecDepth 100000 in
theorem px_cw150 : lw_tbl[963]? = some (.code (px_yn 150) (px_cd 150) (px_mL 150) (px_rt 150)) := by rfl
set_option maxRecDepth 100000 in
theorem px_cw151 : lw_tbl[967]? = some (.code (px_yn 151) (px_cd 151) (px_mL 151) (px_rt 151)) := by rfl
set_option maxRecDepth 100000 in
theorem px_cw152 : lw_tbl[971]? = some (.code (px_yn 152) (px_cd 152) (px_mL 152) (px_rt 152)) := by rfl
set_option maxRecDepth 100000 in
theorem px_cw153 : lw_tbl[975]? = some (.code (px_yn 153) (px_cd 153) (px_mL 153) (px_rt 153)) := by rfl
set_option maxRecDepth 100000 in
theorem px_cw154 : lw_tbl[983]? = some (.code (px_yn 154) (px_cd 154) (px_mL 154) (px_rt 154)) := by rfl
set_option maxRecDepth 100000 in
theorem px_cw155 : lw_tbl[987]? = some (.code (px_yn 155) (px_cd 155) (px_mL 155) (px_rt 155)) := by rfl
set_option maxRecDepth 100000 in
theorem px_cw156 : lw_tbl[991]? = some (.code (px_yn 156) (px_cd 156) (px_mL 156) (px_rt 156)) := by rfl
set_option maxRecDepth 100000 in
theorem px_cw157 : lw_tbl[994]? = some (.code (px_yn 157) (px_cd 157) (px_mL 157) (px_rt 157)) := by rfl
set_option maxRecDepth 100000 in
theorem px_cw158 : lw_tbl[1000]? = some (.code (px_yn 158) (px_cd 158) (px_mL 158) (px_rt 158)) := by rfl
set_option maxRecDepth 100000 in
theorem px_cw159 : lw_tbl[1008]? = some (.code (px_yn 159) (px_cd 159) (px_mL 159) (px_rt 159)) := by rfl
set_option maxRecDepth 100000 in
theorem px_cw160 : lw_tbl[1012]? = some (.code (px_yn 160) (px_cd 160) (px_mL 160) (px_rt 160)) := by rfl
set_option maxRecDepth 100000 in
theorem px_cw161 : lw_tbl[1016]? = some (.code (px_yn 161) (px_cd 161) (px_mL 161) (px_rt 161)) := by rfl
set_option maxRecDepth 100000 in
theorem px_cw162 : lw_tbl[1020]? = some (.code (px_yn 162) (px_cd 162) (px_mL 162) (px_rt 162)) := by rfl
set_option maxRecDepth 100000 in
theorem px_cw163 : lw_tbl[1024]? = some (.code (px_yn 163) (px_cd 163) (px_mL 163) (px_rt 163)) := by rfl
set_option maxRecDepth 100000 in
theorem px_cw164 : lw_tbl[1027]? = some (.code (px_yn 164) (px_cd 164) (px_mL 164) (px_rt 164)) := by rfl
set_option maxRecDepth 100000 in
theorem px_cw165 : lw_tbl[1031]? = some (.code (px_yn 165) (px_cd 165) (px_mL 165) (px_rt 165)) := by rfl
set_option maxRecDepth 100000 in
theorem px_cw166 : lw_tbl[1035]? = some (.code (px_yn 166) (px_cd 166) (px_mL 166) (px_rt 166)) := by rfl
set_option maxRecDepth 100000 in
theorem px_cw167 : lw_tbl[1039]? = some (.code (px_yn 167) (px_cd 167) (px_mL 167) (px_rt 167)) := by rfl
set_option maxRecDepth 100000 in
theorem px_cw168 : lw_tbl[1043]? = some (.code (px_yn 168) (px_cd 168) (px_mL 168) (px_rt 168)) := by rfl
set_option maxRecDepth 100000 in
theorem px_cw169 : lw_tbl[1047]? = some (.code (px_yn 169) (px_cd 169) (px_mL 169) (px_rt 169)) := by rfl
set_option maxRecDepth 100000 in
theorem px_cw170 : lw_tbl[1051]? = some (.code (px_yn 170) (px_cd 170) (px_mL 170) (px_rt 170)) := by rfl
set_option maxRecDepth 100000 in
theorem px_cw171 : lw_tbl[1055]? = some (.code (px_yn 171) (px_cd 171) (px_mL 171) (px_rt 171)) := by rfl
set_option maxRecDepth 100000 in
theorem px_cw172 : lw_tbl[1059]? = some (.code (px_yn 172) (px_cd 172) (px_mL 172) (px_rt 172)) := by rfl
set_option maxRecDepth 100000 in
theorem px_cw173 : lw_tbl[1063]? = some (.code (px_yn 173) (px_cd 173) (px_mL 173) (px_rt 173)) := by rfl
set_option maxRecDepth 100000 in
theorem px_cw174 : lw_tbl[1067]? = some (.code (px_yn 174) (px_cd 174) (px_mL 174) (px_rt 174)) := by rfl
set_option maxRecDepth 100000 in
theorem px_cw175 : lw_tbl[1071]? = some (.code (px_yn 175) (px_cd 175) (px_mL 175) (px_rt 175)) := by rfl
set_option maxRecDepth 100000 in
theorem px_cw176 : lw_tbl[1075]? = some (.code (px_yn 176) (px_cd 176) (px_mL 176) (px_rt 176)) := by rfl
set_option maxRecDepth 100000 in
theorem px_cw177 : lw_tbl[1079]? = some (.code (px_yn 177) (px_cd 177) (px_mL 177) (px_rt 177)) := by rfl
set_option maxRecDepth 100000 in
theorem px_cw178 : lw_tbl[1084]? = some (.code (px_yn 178) (px_cd 178) (px_mL 178) (px_rt 178)) := by rfl
set_option maxRecDepth 100000 in
theorem px_cw179 : lw_tbl[1088]? = some (.code (px_yn 179) (px_cd 179) (px_mL 179) (px_rt 179)) := by rfl
set_option maxRecDepth 100000 in
theorem px_cw180 : lw_tbl[1092]? = some (.code (px_yn 180) (px_cd 180) (px_mL 180) (px_rt 180)) := by rfl
theorem px_code_in : ∀ y, y < px_nM → Cond.code (px_yn y) (px_cd y) (px_mL y) (px_rt y) ∈ px_tb := by
  intro y hy
  have hy : y < 181 := hy
  match y, hy with
  | 0, _ => exact px_mem px_cw0 rfl
  | 1, _ => exact px_mem px_cw1 rfl
  | 2, _ => exact px_mem px_cw2 rfl
  | 3, _ => exact px_mem px_cw3 rfl
  | 4, _ => exact px_mem px_cw4 rfl
  | 5, _ => exact px_mem px_cw5 rfl
  | 6, _ => exact px_mem px_cw6 rfl
  | 7, _ => exact px_mem px_cw7 rfl
  | 8, _ => exact px_mem px_cw8 rfl
  | 9, _ => exact px_mem px_cw9 rfl
  | 10, _ => exact px_mem px_cw10 rfl
  | 11, _ => exact px_mem px_cw11 rfl
  | 12, _ => exact px_mem px_cw12 rfl
  | 13, _ => exact px_mem px_cw13 rfl
  | 14, _ => exact px_mem px_cw14 rfl
  | 15, _ => exact px_mem px_cw15 rfl
  | 16, _ => exact px_mem px_cw16 rfl
  | 17, _ => exact px_mem px_cw17 rfl
  | 18, _ => exact px_mem px_cw18 rfl
  | 19, _ => exact px_mem px_cw19 rfl
  | 20, _ => exact px_mem px_cw20 rfl
  | 21, _ => exact px_mem px_cw21 rfl
  | 22, _ => exact px_mem px_cw22 rfl
  | 23, _ => exact px_mem px_cw23 rfl
  | 24, _ => exact px_mem px_cw24 rfl
  | 25, _ => exact px_mem px_cw25 rfl
  | 26, _ => exact px_mem px_cw26 rfl
  | 27, _ => exact px_mem px_cw27 rfl
  | 28, _ => exact px_mem px_cw28 rfl
  | 29, _ => exact px_mem px_cw29 rfl
  | 30, _ => exact px_mem px_cw30 rfl
  | 31, _ => exact px_mem px_cw31 rfl
  | 32, _ => exact px_mem px_cw32 rfl
  | 33, _ => exact px_mem px_cw33 rfl
  | 34, _ => exact px_mem px_cw34 rfl
  | 35, _ => exact px_mem px_cw35 rfl
  | 36, _ => exact px_mem px_cw36 rfl
  | 37, _ => exact px_mem px_cw37 rfl
  | 38, _ => exact px_mem px_cw38 rfl
  | 39, _ => exact px_mem px_cw39 rfl
  | 40, _ => exact px_mem px_cw40 rfl
  | 41, _ => exact px_mem px_cw41 rfl
  | 42, _ => exact px_mem px_cw42 rfl
  | 43, _ => exact px_mem px_cw43 rfl
  | 44, _ => exact px_mem px_cw44 rfl
  | 45, _ => exact px_mem px_cw45 rfl
  | 46, _ => exact px_mem px_cw46 rfl
  | 47, _ => exact px_mem px_cw47 rfl
  | 48, _ => exact px_mem px_cw48 rfl
  | 49, _ => exact px_mem px_cw49 rfl
  | 50, _ => exact px_mem px_cw50 rfl
  | 51, _ => exact px_mem px_cw51 rfl
  | 52, _ => exact px_mem px_cw52 rfl
  | 53, _ => exact px_mem px_cw53 rfl
  | 54, _ => exact px_mem px_cw54 rfl
  | 55, _ => exact px_mem px_cw55 rfl
  | 56, _ => exact px_mem px_cw56 rfl
  | 57, _ => exact px_mem px_cw57 rfl
  | 58, _ => exact px_mem px_cw58 rfl
  | 59, _ => exact px_mem px_cw59 rfl
  | 60, _ => exact px_mem px_cw60 rfl
  | 61, _ => exact px_mem px_cw61 rfl
  | 62, _ => exact px_mem px_cw62 rfl
  | 63, _ => exact px_mem px_cw63 rfl
  | 64, _ => exact px_mem px_cw64 rfl
  | 65, _ => exact px_mem px_cw65 rfl
  | 66, _ => exact px_mem px_cw66 rfl
  | 67, _ => exact px_mem px_cw67 rfl
  | 68, _ => exact px_mem px_cw68 rfl
  | 69, _ => exact px_mem px_cw69 rfl
  | 70, _ => exact px_mem px_cw70 rfl
  | 71, _ => exact px_mem px_cw71 rfl
  | 72, _ => exact px_mem px_cw72 rfl
  | 73, _ => exact px_mem px_cw73 rfl
  | 74, _ => exact px_mem px_cw74 rfl
  | 75, _ => exact px_mem px_cw75 rfl
  | 76, _ => exact px_mem px_cw76 rfl
  | 77, _ => exact px_mem px_cw77 rfl
  | 78, _ => exact px_mem px_cw78 rfl
  | 79, _ => exact px_mem px_cw79 rfl
  | 80, _ => exact px_mem px_cw80 rfl
  | 81, _ => exact px_mem px_cw81 rfl
  | 82, _ => exact px_mem px_cw82 rfl
  | 83, _ => exact px_mem px_cw83 rfl
  | 84, _ => exact px_mem px_cw84 rfl
  | 85, _ => exact px_mem px_cw85 rfl
  | 86, _ => exact px_mem px_cw86 rfl
  | 87, _ => exact px_mem px_cw87 rfl
  | 88, _ => exact px_mem px_cw88 rfl
  | 89, _ => exact px_mem px_cw89 rfl
  | 90, _ => exact px_mem px_cw90 rfl
  | 91, _ => exact px_mem px_cw91 rfl
  | 92, _ => exact px_mem px_cw92 rfl
  | 93, _ => exact px_mem px_cw93 rfl
  | 94, _ => exact px_mem px_cw94 rfl
  | 95, _ => exact px_mem px_cw95 rfl
  | 96, _ => exact px_mem px_cw96 rfl
  | 97, _ => exact px_mem px_cw97 rfl
  | 98, _ => exact px_mem px_cw98 rfl
  | 99, _ => exact px_mem px_cw99 rfl
  | 100, _ => exact px_mem px_cw100 rfl
  | 101, _ => exact px_mem px_cw101 rfl
  | 102, _ => exact px_mem px_cw102 rfl
  | 103, _ => exact px_mem px_cw103 rfl
  | 104, _ => exact px_mem px_cw104 rfl
  | 105, _ => exact px_mem px_cw105 rfl
  | 106, _ => exact px_mem px_cw106 rfl
  | 107, _ => exact px_mem px_cw107 rfl
  | 108, _ => exact px_mem px_cw108 rfl
  | 109, _ => exact px_mem px_cw109 rfl
  | 110, _ => exact px_mem px_cw110 rfl
  | 111, _ => exact px_mem px_cw111 rfl
  | 112, _ => exact px_mem px_cw112 rfl
  | 113, _ => exact px_mem px_cw113 rfl
  | 114, _ => exact px_mem px_cw114 rfl
  | 115, _ => exact px_mem px_cw115 rfl
  | 116, _ => exact px_mem px_cw116 rfl
  | 117, _ => exact px_mem px_cw117 rfl
  | 118, _ => exact px_mem px_cw118 rfl
  | 119, _ => exact px_mem px_cw119 rfl
  | 120, _ => exact px_mem px_cw120 rfl
  | 121, _ => exact px_mem px_cw121 rfl
  | 122, _ => exact px_mem px_cw122 rfl
  | 123, _ => exact px_mem px_cw123 rfl
  | 124, _ => exact px_mem px_cw124 rfl
  | 125, _ => exact px_mem px_cw125 rfl
  | 126, _ => exact px_mem px_cw126 rfl
  | 127, _ => exact px_mem px_cw127 rfl
  | 128, _ => exact px_mem px_cw128 rfl
  | 129, _ => exact px_mem px_cw129 rfl
  | 130, _ => exact px_mem px_cw130 rfl
  | 131, _ => exact px_mem px_cw131 rfl
  | 132, _ => exact px_mem px_cw132 rfl
  | 133, _ => exact px_mem px_cw133 rfl
  | 134, _ => exact px_mem px_cw134 rfl
  | 135, _ => exact px_mem px_cw135 rfl
  | 136, _ => exact px_mem px_cw136 rfl
  | 137, _ => exact px_mem px_cw137 rfl
  | 138, _ => exact px_mem px_cw138 rfl
  | 139, _ => exact px_mem px_cw139 rfl
  | 140, _ => exact px_mem px_cw140 rfl
  | 141, _ => exact px_mem px_cw141 rfl
  | 142, _ => exact px_mem px_cw142 rfl
  | 143, _ => exact px_mem px_cw143 rfl
  | 144, _ => exact px_mem px_cw144 rfl
  | 145, _ => exact px_mem px_cw145 rfl
  | 146, _ => exact px_mem px_cw146 rfl
  | 147, _ => exact px_mem px_cw147 rfl
  | 148, _ => exact px_mem px_cw148 rfl
  | 149, _ => exact px_mem px_cw149 rfl
  | 150, _ => exact px_mem px_cw150 rfl
  | 151, _ => exact px_mem px_cw151 rfl
  | 152, _ => exact px_mem px_cw152 rfl
  | 153, _ => exact px_mem px_cw153 rfl
  | 154, _ => exact px_mem px_cw154 rfl
  | 155, _ => exact px_mem px_cw155 rfl
  | 156, _ => exact px_mem px_cw156 rfl
  | 157, _ => exact px_mem px_cw157 rfl
  | 158, _ => exact px_mem px_cw158 rfl
  | 159, _ => exact px_mem px_cw159 rfl
  | 160, _ => exact px_mem px_cw160 rfl
  | 161, _ => exact px_mem px_cw161 rfl
  | 162, _ => exact px_mem px_cw162 rfl
  | 163, _ => exact px_mem px_cw163 rfl
  | 164, _ => exact px_mem px_cw164 rfl
  | 165, _ => exact px_mem px_cw165 rfl
  | 166, _ => exact px_mem px_cw166 rfl
  | 167, _ => exact px_mem px_cw167 rfl
  | 168, _ => exact px_mem px_cw168 rfl
  | 169, _ => exact px_mem px_cw169 rfl
  | 170, _ => exact px_mem px_cw170 rfl
  | 171, _ => exact px_mem px_cw171 rfl
  | 172, _ => exact px_mem px_cw172 rfl
  | 173, _ => exact px_mem px_cw173 rfl
  | 174, _ => exact px_mem px_cw174 rfl
  | 175, _ => exact px_mem px_cw175 rfl
  | 176, _ => exact px_mem px_cw176 rfl
  | 177, _ => exact px_mem px_cw177 rfl
  | 178, _ => exact px_mem px_cw178 rfl
  | 179, _ => exact px_mem px_cw179 rfl
  | 180, _ => exact px_mem px_cw180 rfl
  | n + 181, h => exact absurd h (by omega)
