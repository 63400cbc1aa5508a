/-! ===== names and tables of the claim, written by wip/gen/gentab.py ===== -/
def zRs : List String := ["SagaDesk$Journal", "SagaDesk$Program", "SagaDesk$Purse", "SagaDesk$Reader", "SagaDesk$Row", "SagaDesk$Saga", "SagaDesk$World", "SagaDesk", "SagaDeskModel", "SagaDeskLaw", "java/lang/Integer", "java/lang/Math", "java/util/Arrays", "java/lang/System", "java/lang/String", "java/lang/Object"]
def zRn (o : Nat) : String := zRs.getD o ""
def zT0 : u_T := fun k => match k with
  | 0 => ("SagaDesk$Journal", "events", "[I", true)
  | 1 => ("SagaDesk$Journal", "owners", "[I", true)
  | 2 => ("SagaDesk$Journal", "things", "[I", true)
  | _ => ("SagaDesk$Journal", "size", "I", false)
def zY0 : Nat → FieldType := fun k => match k with
  | 0 => (.array .int)
  | 1 => (.array .int)
  | 2 => (.array .int)
  | _ => .int
def zT1 : u_T := fun k => match k with
  | 0 => ("SagaDesk$Program", "kinds", "[I", true)
  | 1 => ("SagaDesk$Program", "firsts", "[I", true)
  | 2 => ("SagaDesk$Program", "seconds", "[I", true)
  | 3 => ("SagaDesk$Program", "numbers", "[I", true)
  | 4 => ("SagaDesk$Program", "aheads", "[I", true)
  | 5 => ("SagaDesk$Program", "chains", "[I", true)
  | 6 => ("SagaDesk$Program", "size", "I", false)
  | _ => ("SagaDesk$Program", "pivot", "I", false)
def zY1 : Nat → FieldType := fun k => match k with
  | 0 => (.array .int)
  | 1 => (.array .int)
  | 2 => (.array .int)
  | 3 => (.array .int)
  | 4 => (.array .int)
  | 5 => (.array .int)
  | 6 => .int
  | _ => .int
def zT2 : u_T := fun k => match k with
  | 0 => ("SagaDesk$Purse", "balances", "[I", true)
  | 1 => ("SagaDesk$Purse", "held", "I", false)
  | _ => ("SagaDesk$Purse", "marks", "I", false)
def zY2 : Nat → FieldType := fun k => match k with
  | 0 => (.array .int)
  | 1 => .int
  | _ => .int
def zT3 : u_T := fun k => match k with
  | 0 => ("SagaDesk$Reader", "bytes", "[I", true)
  | 1 => ("SagaDesk$Reader", "size", "I", false)
  | 2 => ("SagaDesk$Reader", "place", "I", false)
  | 3 => ("SagaDesk$Reader", "token", "I", false)
  | 4 => ("SagaDesk$Reader", "start", "I", false)
  | 5 => ("SagaDesk$Reader", "fault", "I", false)
  | _ => ("SagaDesk$Reader", "program", "LSagaDesk$Program;", false)
def zY3 : Nat → FieldType := fun k => match k with
  | 0 => (.array .int)
  | 1 => .int
  | 2 => .int
  | 3 => .int
  | 4 => .int
  | 5 => .int
  | _ => (.object "SagaDesk$Program")
def zT4 : u_T := fun k => match k with
  | 0 => ("SagaDesk$Row", "sort", "I", false)
  | 1 => ("SagaDesk$Row", "size", "I", false)
  | _ => ("SagaDesk$Row", "items", "[I", true)
def zY4 : Nat → FieldType := fun k => match k with
  | 0 => .int
  | 1 => .int
  | _ => (.array .int)
def zT5 : u_T := fun k => match k with
  | 0 => ("SagaDesk$Saga", "state", "I", false)
  | 1 => ("SagaDesk$Saga", "text", "I", false)
  | 2 => ("SagaDesk$Saga", "program", "LSagaDesk$Program;", false)
  | 3 => ("SagaDesk$Saga", "done", "I", false)
  | 4 => ("SagaDesk$Saga", "undone", "I", false)
  | 5 => ("SagaDesk$Saga", "parked", "I", false)
  | 6 => ("SagaDesk$Saga", "order", "[I", true)
  | 7 => ("SagaDesk$Saga", "depth", "I", false)
  | 8 => ("SagaDesk$Saga", "numbers", "[I", true)
  | 9 => ("SagaDesk$Saga", "doneNumbers", "[I", true)
  | 10 => ("SagaDesk$Saga", "tryPlans", "[I", true)
  | 11 => ("SagaDesk$Saga", "undoPlans", "[I", true)
  | 12 => ("SagaDesk$Saga", "failures", "[I", true)
  | _ => ("SagaDesk$Saga", "reasons", "[I", true)
def zY5 : Nat → FieldType := fun k => match k with
  | 0 => .int
  | 1 => .int
  | 2 => (.object "SagaDesk$Program")
  | 3 => .int
  | 4 => .int
  | 5 => .int
  | 6 => (.array .int)
  | 7 => .int
  | 8 => (.array .int)
  | 9 => (.array .int)
  | 10 => (.array .int)
  | 11 => (.array .int)
  | 12 => (.array .int)
  | _ => (.array .int)
def zT6 : u_T := fun k => match k with
  | 0 => ("SagaDesk$World", "texts", "[LSagaDesk$Program;", true)
  | 1 => ("SagaDesk$World", "journal", "LSagaDesk$Journal;", true)
  | 2 => ("SagaDesk$World", "purse", "LSagaDesk$Purse;", true)
  | _ => ("SagaDesk$World", "sagas", "[LSagaDesk$Saga;", true)
def zY6 : Nat → FieldType := fun k => match k with
  | 0 => (.array (.object "SagaDesk$Program"))
  | 1 => (.object "SagaDesk$Journal")
  | 2 => (.object "SagaDesk$Purse")
  | _ => (.array (.object "SagaDesk$Saga"))
def zT7 : u_T := fun k => match k with
  | 0 => ("SagaDesk", "reader", "LSagaDesk$Reader;", true)
  | 1 => ("SagaDesk", "texts", "[LSagaDesk$Program;", true)
  | 2 => ("SagaDesk", "textCount", "I", false)
  | 3 => ("SagaDesk", "journal", "LSagaDesk$Journal;", true)
  | 4 => ("SagaDesk", "real", "LSagaDesk$World;", true)
  | 5 => ("SagaDesk", "thought", "LSagaDesk$World;", true)
  | 6 => ("SagaDesk", "rows", "[LSagaDesk$Row;", true)
  | _ => ("SagaDesk", "ways", "[J", true)
def zY7 : Nat → FieldType := fun k => match k with
  | 0 => (.object "SagaDesk$Reader")
  | 1 => (.array (.object "SagaDesk$Program"))
  | 2 => .int
  | 3 => (.object "SagaDesk$Journal")
  | 4 => (.object "SagaDesk$World")
  | 5 => (.object "SagaDesk$World")
  | 6 => (.array (.object "SagaDesk$Row"))
  | _ => (.array .long)
def zT8 : u_T := fun k => match k with
  | 0 => ("SagaDeskModel", "texts", "I", false)
  | 1 => ("SagaDeskModel", "stepMany", "[I", true)
  | 2 => ("SagaDeskModel", "pivots", "[I", true)
  | 3 => ("SagaDeskModel", "kinds", "[[I", true)
  | 4 => ("SagaDeskModel", "firsts", "[[I", true)
  | 5 => ("SagaDeskModel", "seconds", "[[I", true)
  | 6 => ("SagaDeskModel", "numbers", "[[I", true)
  | 7 => ("SagaDeskModel", "aheads", "[[I", true)
  | 8 => ("SagaDeskModel", "balances", "[I", true)
  | 9 => ("SagaDeskModel", "held", "I", false)
  | 10 => ("SagaDeskModel", "marked", "I", false)
  | 11 => ("SagaDeskModel", "states", "[I", true)
  | 12 => ("SagaDeskModel", "textOf", "[I", true)
  | 13 => ("SagaDeskModel", "stands", "[[I", true)
  | 14 => ("SagaDeskModel", "when", "[[I", true)
  | 15 => ("SagaDeskModel", "by", "[[I", true)
  | 16 => ("SagaDeskModel", "fails", "[[I", true)
  | 17 => ("SagaDeskModel", "whys", "[[I", true)
  | 18 => ("SagaDeskModel", "plans", "[[I", true)
  | 19 => ("SagaDeskModel", "undoPlans", "[[I", true)
  | 20 => ("SagaDeskModel", "clock", "I", false)
  | 21 => ("SagaDeskModel", "otherSaga", "I", false)
  | 22 => ("SagaDeskModel", "otherStep", "I", false)
  | 23 => ("SagaDeskModel", "otherNumber", "I", false)
  | 24 => ("SagaDeskModel", "lines", "I", false)
  | 25 => ("SagaDeskModel", "isThought", "Z", false)
  | 26 => ("SagaDeskModel", "acts", "[I", true)
  | 27 => ("SagaDeskModel", "whose", "[I", true)
  | 28 => ("SagaDeskModel", "which", "[I", true)
  | 29 => ("SagaDeskModel", "tape", "[I", true)
  | 30 => ("SagaDeskModel", "taped", "I", false)
  | 31 => ("SagaDeskModel", "at", "I", false)
  | 32 => ("SagaDeskModel", "begin", "I", false)
  | 33 => ("SagaDeskModel", "token", "I", false)
  | 34 => ("SagaDeskModel", "value", "I", false)
  | 35 => ("SagaDeskModel", "opened", "I", false)
  | 36 => ("SagaDeskModel", "newPivot", "I", false)
  | 37 => ("SagaDeskModel", "newSteps", "I", false)
  | 38 => ("SagaDeskModel", "isWrong", "Z", false)
  | 39 => ("SagaDeskModel", "ways", "[J", true)
  | 40 => ("SagaDeskModel", "asideBalances", "[[I", true)
  | 41 => ("SagaDeskModel", "asideNumbers", "[[I", true)
  | 42 => ("SagaDeskModel", "asideStates", "[[I", true)
  | 43 => ("SagaDeskModel", "asideTexts", "[[I", true)
  | 44 => ("SagaDeskModel", "asideSteps", "[[[I", true)
  | 45 => ("SagaDeskModel", "sorts", "[I", true)
  | 46 => ("SagaDeskModel", "lengths", "[I", true)
  | 47 => ("SagaDeskModel", "items", "[[I", true)
  | _ => ("SagaDeskModel", "passed", "[I", true)
def zY8 : Nat → FieldType := fun k => match k with
  | 0 => .int
  | 1 => (.array .int)
  | 2 => (.array .int)
  | 3 => (.array (.array .int))
  | 4 => (.array (.array .int))
  | 5 => (.array (.array .int))
  | 6 => (.array (.array .int))
  | 7 => (.array (.array .int))
  | 8 => (.array .int)
  | 9 => .int
  | 10 => .int
  | 11 => (.array .int)
  | 12 => (.array .int)
  | 13 => (.array (.array .int))
  | 14 => (.array (.array .int))
  | 15 => (.array (.array .int))
  | 16 => (.array (.array .int))
  | 17 => (.array (.array .int))
  | 18 => (.array (.array .int))
  | 19 => (.array (.array .int))
  | 20 => .int
  | 21 => .int
  | 22 => .int
  | 23 => .int
  | 24 => .int
  | 25 => .boolean
  | 26 => (.array .int)
  | 27 => (.array .int)
  | 28 => (.array .int)
  | 29 => (.array .int)
  | 30 => .int
  | 31 => .int
  | 32 => .int
  | 33 => .int
  | 34 => .int
  | 35 => .int
  | 36 => .int
  | 37 => .int
  | 38 => .boolean
  | 39 => (.array .long)
  | 40 => (.array (.array .int))
  | 41 => (.array (.array .int))
  | 42 => (.array (.array .int))
  | 43 => (.array (.array .int))
  | 44 => (.array (.array (.array .int)))
  | 45 => (.array .int)
  | 46 => (.array .int)
  | 47 => (.array (.array .int))
  | _ => (.array .int)
def zCl : List vw_C := [("SagaDesk$Journal", zT0, 4), ("SagaDesk$Program", zT1, 8), ("SagaDesk$Purse", zT2, 3), ("SagaDesk$Reader", zT3, 7), ("SagaDesk$Row", zT4, 3), ("SagaDesk$Saga", zT5, 14), ("SagaDesk$World", zT6, 4), ("SagaDesk", zT7, 8), ("SagaDeskModel", zT8, 49)]
/-- the kinds of the fields: 0 int, 1 reference, 2 boolean -/
def zFk : List (List Nat) := [[1, 1, 1, 0], [1, 1, 1, 1, 1, 1, 0, 0], [1, 0, 0], [1, 0, 0, 0, 0, 0, 1], [0, 0, 1], [0, 0, 1, 0, 0, 0, 1, 0, 1, 1, 1, 1, 1, 1], [1, 1, 1, 1], [1, 1, 0, 1, 1, 1, 1, 1], [0, 1, 1, 1, 1, 1, 1, 1, 1, 0, 0, 1, 1, 1, 1, 1, 1, 1, 1, 1, 0, 0, 0, 0, 0, 2, 1, 1, 1, 1, 0, 0, 0, 0, 0, 0, 0, 0, 2, 1, 1, 1, 1, 1, 1, 1, 1, 1, 1]]
theorem zn_0 : ∀ a, a < 4 → ∀ b, b < 4 → a ≠ b → (zT0 a).2.1 ≠ (zT0 b).2.1 := by decide +kernel
theorem zy_0 : ∀ k, k < 4 → parseFieldDescriptor (zT0 k).2.2.1 = some (zY0 k) := by decide +kernel
theorem zn_1 : ∀ a, a < 8 → ∀ b, b < 8 → a ≠ b → (zT1 a).2.1 ≠ (zT1 b).2.1 := by decide +kernel
theorem zy_1 : ∀ k, k < 8 → parseFieldDescriptor (zT1 k).2.2.1 = some (zY1 k) := by decide +kernel
theorem zn_2 : ∀ a, a < 3 → ∀ b, b < 3 → a ≠ b → (zT2 a).2.1 ≠ (zT2 b).2.1 := by decide +kernel
theorem zy_2 : ∀ k, k < 3 → parseFieldDescriptor (zT2 k).2.2.1 = some (zY2 k) := by decide +kernel
theorem zn_3 : ∀ a, a < 7 → ∀ b, b < 7 → a ≠ b → (zT3 a).2.1 ≠ (zT3 b).2.1 := by decide +kernel
theorem zy_3 : ∀ k, k < 7 → parseFieldDescriptor (zT3 k).2.2.1 = some (zY3 k) := by decide +kernel
theorem zn_4 : ∀ a, a < 3 → ∀ b, b < 3 → a ≠ b → (zT4 a).2.1 ≠ (zT4 b).2.1 := by decide +kernel
theorem zy_4 : ∀ k, k < 3 → parseFieldDescriptor (zT4 k).2.2.1 = some (zY4 k) := by decide +kernel
theorem zn_5 : ∀ a, a < 14 → ∀ b, b < 14 → a ≠ b → (zT5 a).2.1 ≠ (zT5 b).2.1 := by decide +kernel
theorem zy_5 : ∀ k, k < 14 → parseFieldDescriptor (zT5 k).2.2.1 = some (zY5 k) := by decide +kernel
theorem zn_6 : ∀ a, a < 4 → ∀ b, b < 4 → a ≠ b → (zT6 a).2.1 ≠ (zT6 b).2.1 := by decide +kernel
theorem zy_6 : ∀ k, k < 4 → parseFieldDescriptor (zT6 k).2.2.1 = some (zY6 k) := by decide +kernel
theorem zn_7 : ∀ a, a < 8 → ∀ b, b < 8 → a ≠ b → (zT7 a).2.1 ≠ (zT7 b).2.1 := by decide +kernel
theorem zy_7 : ∀ k, k < 8 → parseFieldDescriptor (zT7 k).2.2.1 = some (zY7 k) := by decide +kernel
theorem zn_8 : ∀ a, a < 49 → ∀ b, b < 49 → a ≠ b → (zT8 a).2.1 ≠ (zT8 b).2.1 := by decide +kernel
theorem zy_8 : ∀ k, k < 49 → parseFieldDescriptor (zT8 k).2.2.1 = some (zY8 k) := by decide +kernel
/-- the methods: name, code, words of locals, return type, class, how many arguments (without this), kind of the answer (0 none, 1 int, 2 boolean, 3 long, 4 reference), place of its word -/
abbrev zMT : Type := MethodName × ByteArray × Nat × Option FieldType × Nat × Nat × Nat × Nat
def zMs0 : List zMT := [
  (⟨"SagaDesk", "<init>", "()V"⟩, prog_1_method_1_code, 2, (Option.none : Option Jvm.ClassFile.FieldType), 7, 0, 0, 103),
  (⟨"SagaDesk$Reader", "<init>", "()V"⟩, prog_5_method_1_code, 1, (Option.none : Option Jvm.ClassFile.FieldType), 3, 0, 0, 111),
  (⟨"SagaDesk$Program", "<init>", "()V"⟩, prog_3_method_1_code, 1, (Option.none : Option Jvm.ClassFile.FieldType), 1, 0, 0, 142),
  (⟨"SagaDesk$Journal", "<init>", "(I)V"⟩, prog_2_method_1_code, 3, (Option.none : Option Jvm.ClassFile.FieldType), 0, 1, 0, 189),
  (⟨"SagaDesk$World", "<init>", "([LSagaDesk$Program;LSagaDesk$Journal;)V"⟩, prog_8_method_1_code, 4, (Option.none : Option Jvm.ClassFile.FieldType), 6, 2, 0, 219),
  (⟨"SagaDesk$Purse", "<init>", "()V"⟩, prog_4_method_1_code, 1, (Option.none : Option Jvm.ClassFile.FieldType), 2, 0, 0, 225),
  (⟨"java/util/Arrays", "fill", "([II)V"⟩, prog_17_method_103_code, 4, (Option.none : Option Jvm.ClassFile.FieldType), 12, 2, 0, 229),
  (⟨"SagaDesk$Saga", "<init>", "()V"⟩, prog_7_method_1_code, 1, (Option.none : Option Jvm.ClassFile.FieldType), 5, 0, 0, 251),
  (⟨"SagaDesk$Row", "<init>", "()V"⟩, prog_6_method_1_code, 1, (Option.none : Option Jvm.ClassFile.FieldType), 4, 0, 0, 332),
  (⟨"SagaDesk", "feed", "(IIIIII)I"⟩, prog_1_method_2_code, 8, (Option.some FieldType.int), 7, 6, 1, 376),
  (⟨"SagaDesk", "isIn", "(III)Z"⟩, prog_1_method_27_code, 3, (Option.some FieldType.boolean), 7, 3, 2, 379),
  (⟨"SagaDesk", "isByte", "(I)Z"⟩, prog_1_method_28_code, 1, (Option.some FieldType.boolean), 7, 1, 2, 382),
  (⟨"SagaDesk$Reader", "append", "(I)V"⟩, prog_5_method_2_code, 2, (Option.none : Option Jvm.ClassFile.FieldType), 3, 1, 0, 386),
  (⟨"SagaDesk", "text", "()I"⟩, prog_1_method_3_code, 2, (Option.some FieldType.int), 7, 0, 1, 390),
  (⟨"SagaDesk$Reader", "readInto", "(LSagaDesk$Program;)I"⟩, prog_5_method_3_code, 2, (Option.some FieldType.int), 3, 1, 1, 394),
  (⟨"SagaDesk$Program", "clear", "()V"⟩, prog_3_method_2_code, 1, (Option.none : Option Jvm.ClassFile.FieldType), 1, 0, 0, 398),
  (⟨"SagaDesk$Reader", "advance", "()V"⟩, prog_5_method_4_code, 2, (Option.none : Option Jvm.ClassFile.FieldType), 3, 0, 0, 402),
  (⟨"SagaDesk$Reader", "skipRun", "(II)V"⟩, prog_5_method_5_code, 3, (Option.none : Option Jvm.ClassFile.FieldType), 3, 2, 0, 407),
  (⟨"SagaDesk$Reader", "readLine", "(II)I"⟩, prog_5_method_8_code, 5, (Option.some FieldType.int), 3, 2, 1, 411),
  (⟨"SagaDesk$Reader", "readPart", "(II)I"⟩, prog_5_method_9_code, 3, (Option.some FieldType.int), 3, 2, 1, 415),
  (⟨"SagaDesk$Reader", "readStep", "(I)I"⟩, prog_5_method_11_code, 6, (Option.some FieldType.int), 3, 1, 1, 419),
  (⟨"SagaDesk$Reader", "kindOfWord", "()I"⟩, prog_5_method_14_code, 2, (Option.some FieldType.int), 3, 0, 1, 423),
  (⟨"SagaDesk$Reader", "wordOf", "(I)Ljava/lang/String;"⟩, prog_5_method_16_code, 1, (Option.some (FieldType.object "java/lang/String")), 3, 1, 4, 426),
  (⟨"SagaDesk$Reader", "isWord", "(Ljava/lang/String;)Z"⟩, prog_5_method_15_code, 3, (Option.some FieldType.boolean), 3, 1, 2, 436)]
def zMs1 : List zMT := [
  (⟨"SagaDesk$Reader", "refuse", "()V"⟩, prog_5_method_6_code, 1, (Option.none : Option Jvm.ClassFile.FieldType), 3, 0, 0, 488),
  (⟨"SagaDesk$Reader", "readAccount", "()I"⟩, prog_5_method_12_code, 2, (Option.some FieldType.int), 3, 0, 1, 494),
  (⟨"SagaDesk", "isAccount", "(I)Z"⟩, prog_1_method_29_code, 1, (Option.some FieldType.boolean), 7, 1, 2, 497),
  (⟨"SagaDesk", "hasNumber", "(I)Z"⟩, prog_1_method_36_code, 1, (Option.some FieldType.boolean), 7, 1, 2, 500),
  (⟨"SagaDesk$Reader", "readNumber", "()I"⟩, prog_5_method_13_code, 3, (Option.some FieldType.int), 3, 0, 1, 504),
  (⟨"SagaDesk$Program", "append", "(IIIII)I"⟩, prog_3_method_5_code, 6, (Option.some FieldType.int), 1, 5, 1, 508),
  (⟨"SagaDesk$Reader", "readBranches", "(II)I"⟩, prog_5_method_10_code, 4, (Option.some FieldType.int), 3, 2, 1, 512),
  (⟨"SagaDesk$Reader", "expect", "(I)V"⟩, prog_5_method_7_code, 2, (Option.none : Option Jvm.ClassFile.FieldType), 3, 1, 0, 516),
  (⟨"SagaDesk", "shape", "(II)I"⟩, prog_1_method_4_code, 4, (Option.some FieldType.int), 7, 2, 1, 521),
  (⟨"SagaDesk", "isText", "(I)Z"⟩, prog_1_method_32_code, 2, (Option.some FieldType.boolean), 7, 1, 2, 525),
  (⟨"SagaDesk$Program", "longestChain", "()I"⟩, prog_3_method_9_code, 4, (Option.some FieldType.int), 1, 0, 1, 529),
  (⟨"SagaDesk", "isBit", "(II)Z"⟩, prog_1_method_37_code, 2, (Option.some FieldType.boolean), 7, 2, 2, 532),
  (⟨"SagaDesk$Program", "widest", "()I"⟩, prog_3_method_10_code, 1, (Option.some FieldType.int), 1, 0, 1, 537),
  (⟨"SagaDesk$Program", "all", "()I"⟩, prog_3_method_4_code, 1, (Option.some FieldType.int), 1, 0, 1, 541),
  (⟨"SagaDesk$Program", "widestFrom", "(LSagaDesk$Program;II)I"⟩, prog_3_method_11_code, 4, (Option.some FieldType.int), 1, 3, 1, 544),
  (⟨"SagaDesk$Program", "beside", "(I)I"⟩, prog_3_method_8_code, 4, (Option.some FieldType.int), 1, 1, 1, 548),
  (⟨"SagaDesk$Program", "countClashes", "()I"⟩, prog_3_method_13_code, 5, (Option.some FieldType.int), 1, 0, 1, 552),
  (⟨"SagaDesk$Program", "accountsOf", "(I)I"⟩, prog_3_method_12_code, 4, (Option.some FieldType.int), 1, 1, 1, 556),
  (⟨"SagaDesk$Purse", "become", "(LSagaDesk$Purse;)V"⟩, prog_4_method_3_code, 2, (Option.none : Option Jvm.ClassFile.FieldType), 2, 1, 0, 561),
  (⟨"SagaDesk", "countRisky", "(LSagaDesk$Program;LSagaDesk$Purse;II)I"⟩, prog_1_method_40_code, 7, (Option.some FieldType.int), 7, 4, 1, 567),
  (⟨"SagaDesk$Program", "next", "(I)I"⟩, prog_3_method_7_code, 4, (Option.some FieldType.int), 1, 1, 1, 571),
  (⟨"SagaDesk$Purse", "blocksOne", "(LSagaDesk$Program;I)Z"⟩, prog_4_method_6_code, 4, (Option.some FieldType.boolean), 2, 2, 2, 575),
  (⟨"SagaDesk$Purse", "obstacle", "(LSagaDesk$Program;III)I"⟩, prog_4_method_4_code, 7, (Option.some FieldType.int), 2, 4, 1, 580),
  (⟨"SagaDesk$Program", "has", "(I)Z"⟩, prog_3_method_3_code, 2, (Option.some FieldType.boolean), 1, 1, 2, 584)]
def zMs2 : List zMT := [
  (⟨"SagaDesk$Purse", "toFirst", "(II)I"⟩, prog_4_method_7_code, 2, (Option.some FieldType.int), 2, 2, 1, 587),
  (⟨"SagaDesk$Purse", "beyond", "(II)I"⟩, prog_4_method_9_code, 4, (Option.some FieldType.int), 2, 2, 1, 591),
  (⟨"SagaDesk$Purse", "toSecond", "(II)I"⟩, prog_4_method_8_code, 2, (Option.some FieldType.int), 2, 2, 1, 594),
  (⟨"SagaDesk$Purse", "change", "(LSagaDesk$Program;III)V"⟩, prog_4_method_5_code, 6, (Option.none : Option Jvm.ClassFile.FieldType), 2, 4, 0, 599),
  (⟨"SagaDesk$Purse", "put", "(II)V"⟩, prog_4_method_10_code, 3, (Option.none : Option Jvm.ClassFile.FieldType), 2, 2, 0, 603),
  (⟨"SagaDesk$Purse", "exchange", "(II)V"⟩, prog_4_method_11_code, 4, (Option.none : Option Jvm.ClassFile.FieldType), 2, 2, 0, 607),
  (⟨"SagaDesk", "orders", "(I)J"⟩, prog_1_method_5_code, 2, (Option.some FieldType.long), 7, 1, 3, 611),
  (⟨"SagaDesk$Program", "countOrders", "([J)J"⟩, prog_3_method_14_code, 6, (Option.some FieldType.long), 1, 1, 3, 615),
  (⟨"SagaDesk", "step", "(III)I"⟩, prog_1_method_6_code, 5, (Option.some FieldType.int), 7, 3, 1, 621),
  (⟨"SagaDesk", "taken", "(III)I"⟩, prog_1_method_7_code, 5, (Option.some FieldType.int), 7, 3, 1, 627),
  (⟨"SagaDesk", "isUnder", "(II)Z"⟩, prog_1_method_35_code, 4, (Option.some FieldType.boolean), 7, 2, 2, 630),
  (⟨"SagaDesk", "begin", "(II)I"⟩, prog_1_method_8_code, 4, (Option.some FieldType.int), 7, 2, 1, 636),
  (⟨"SagaDesk", "isSaga", "(I)Z"⟩, prog_1_method_30_code, 1, (Option.some FieldType.boolean), 7, 1, 2, 639),
  (⟨"SagaDesk$Saga", "isActive", "()Z"⟩, prog_7_method_9_code, 1, (Option.some FieldType.boolean), 5, 0, 2, 643),
  (⟨"SagaDesk$Saga", "start", "(LSagaDesk$Program;I)V"⟩, prog_7_method_4_code, 3, (Option.none : Option Jvm.ClassFile.FieldType), 5, 2, 0, 647),
  (⟨"SagaDesk$Saga", "clear", "()V"⟩, prog_7_method_2_code, 1, (Option.none : Option Jvm.ClassFile.FieldType), 5, 0, 0, 651),
  (⟨"SagaDesk$Saga", "dropPlans", "()V"⟩, prog_7_method_3_code, 1, (Option.none : Option Jvm.ClassFile.FieldType), 5, 0, 0, 656),
  (⟨"SagaDesk$Journal", "note", "(III)V"⟩, prog_2_method_2_code, 4, (Option.none : Option Jvm.ClassFile.FieldType), 0, 3, 0, 661),
  (⟨"SagaDesk", "plan", "(IIII)I"⟩, prog_1_method_9_code, 8, (Option.some FieldType.int), 7, 4, 1, 665),
  (⟨"SagaDesk$Saga", "mayName", "(I)Z"⟩, prog_7_method_8_code, 2, (Option.some FieldType.boolean), 5, 1, 2, 669),
  (⟨"SagaDesk", "tick", "()I"⟩, prog_1_method_10_code, 2, (Option.some FieldType.int), 7, 0, 1, 675),
  (⟨"SagaDesk$World", "goOn", "()V"⟩, prog_8_method_6_code, 3, (Option.none : Option Jvm.ClassFile.FieldType), 6, 0, 0, 679),
  (⟨"SagaDesk$World", "goForward", "(ILSagaDesk$Saga;)V"⟩, prog_8_method_7_code, 5, (Option.none : Option Jvm.ClassFile.FieldType), 6, 2, 0, 683),
  (⟨"SagaDesk$Saga", "front", "()I"⟩, prog_7_method_13_code, 1, (Option.some FieldType.int), 5, 0, 1, 687)]
def zMs3 : List zMT := [
  (⟨"SagaDesk$World", "tryStep", "(ILSagaDesk$Saga;I)V"⟩, prog_8_method_8_code, 6, (Option.none : Option Jvm.ClassFile.FieldType), 6, 3, 0, 693),
  (⟨"SagaDesk$Saga", "numberFor", "(II)I"⟩, prog_7_method_15_code, 3, (Option.some FieldType.int), 5, 2, 1, 697),
  (⟨"SagaDesk$World", "spend", "([II)I"⟩, prog_8_method_12_code, 2, (Option.some FieldType.int), 6, 2, 1, 700),
  (⟨"SagaDesk$Saga", "becomeDone", "(I)V"⟩, prog_7_method_16_code, 2, (Option.none : Option Jvm.ClassFile.FieldType), 5, 1, 0, 706),
  (⟨"SagaDesk$Saga", "fail", "(II)V"⟩, prog_7_method_20_code, 3, (Option.none : Option Jvm.ClassFile.FieldType), 5, 2, 0, 711),
  (⟨"SagaDesk$Program", "isPassed", "(I)Z"⟩, prog_3_method_6_code, 2, (Option.some FieldType.boolean), 1, 1, 2, 715),
  (⟨"SagaDesk$Saga", "hasFailedOut", "(I)Z"⟩, prog_7_method_21_code, 2, (Option.some FieldType.boolean), 5, 1, 2, 719),
  (⟨"SagaDesk$World", "end", "(ILSagaDesk$Saga;I)V"⟩, prog_8_method_11_code, 4, (Option.none : Option Jvm.ClassFile.FieldType), 6, 3, 0, 723),
  (⟨"SagaDesk$Saga", "isAllDone", "()Z"⟩, prog_7_method_11_code, 1, (Option.some FieldType.boolean), 5, 0, 2, 727),
  (⟨"SagaDesk$World", "goBack", "(ILSagaDesk$Saga;)V"⟩, prog_8_method_9_code, 4, (Option.none : Option Jvm.ClassFile.FieldType), 6, 2, 0, 732),
  (⟨"SagaDesk$Saga", "lastDone", "()I"⟩, prog_7_method_14_code, 1, (Option.some FieldType.int), 5, 0, 1, 736),
  (⟨"SagaDesk$World", "undoStep", "(ILSagaDesk$Saga;I)V"⟩, prog_8_method_10_code, 6, (Option.none : Option Jvm.ClassFile.FieldType), 6, 3, 0, 740),
  (⟨"SagaDesk$Saga", "becomeUndone", "(I)V"⟩, prog_7_method_17_code, 2, (Option.none : Option Jvm.ClassFile.FieldType), 5, 1, 0, 744),
  (⟨"SagaDesk$Saga", "leaveDone", "(I)V"⟩, prog_7_method_19_code, 2, (Option.none : Option Jvm.ClassFile.FieldType), 5, 1, 0, 748),
  (⟨"SagaDesk$Saga", "becomeParked", "(II)V"⟩, prog_7_method_18_code, 3, (Option.none : Option Jvm.ClassFile.FieldType), 5, 2, 0, 752),
  (⟨"SagaDesk", "told", "(II)I"⟩, prog_1_method_11_code, 4, (Option.some FieldType.int), 7, 2, 1, 756),
  (⟨"SagaDesk$Saga", "hasPassed", "()Z"⟩, prog_7_method_12_code, 1, (Option.some FieldType.boolean), 5, 0, 2, 761),
  (⟨"SagaDesk", "why", "(II)I"⟩, prog_1_method_12_code, 4, (Option.some FieldType.int), 7, 2, 1, 766),
  (⟨"SagaDesk", "set", "(II)I"⟩, prog_1_method_13_code, 4, (Option.some FieldType.int), 7, 2, 1, 770),
  (⟨"SagaDesk", "line", "(II)I"⟩, prog_1_method_14_code, 3, (Option.some FieldType.int), 7, 2, 1, 775),
  (⟨"SagaDesk", "replay", "(II)I"⟩, prog_1_method_15_code, 3, (Option.some FieldType.int), 7, 2, 1, 779),
  (⟨"SagaDesk", "isView", "(I)Z"⟩, prog_1_method_33_code, 1, (Option.some FieldType.boolean), 7, 1, 2, 782),
  (⟨"SagaDesk$World", "rebuild", "(LSagaDesk$Journal;I)V"⟩, prog_8_method_13_code, 4, (Option.none : Option Jvm.ClassFile.FieldType), 6, 2, 0, 786),
  (⟨"SagaDesk$Purse", "clear", "()V"⟩, prog_4_method_2_code, 1, (Option.none : Option Jvm.ClassFile.FieldType), 2, 0, 0, 790)]
def zMs4 : List zMT := [
  (⟨"SagaDesk$World", "happenAgain", "(III)V"⟩, prog_8_method_14_code, 4, (Option.none : Option Jvm.ClassFile.FieldType), 6, 3, 0, 795),
  (⟨"SagaDesk$World", "happenTo", "(LSagaDesk$Saga;II)V"⟩, prog_8_method_15_code, 4, (Option.none : Option Jvm.ClassFile.FieldType), 6, 3, 0, 801),
  (⟨"SagaDesk$World", "view", "(I)I"⟩, prog_8_method_5_code, 3, (Option.some FieldType.int), 6, 1, 1, 807),
  (⟨"SagaDesk", "breaks", "(I)I"⟩, prog_1_method_16_code, 3, (Option.some FieldType.int), 7, 1, 1, 812),
  (⟨"SagaDesk", "run", "(II)I"⟩, prog_1_method_17_code, 4, (Option.some FieldType.int), 7, 2, 1, 816),
  (⟨"SagaDesk$World", "become", "(LSagaDesk$World;)V"⟩, prog_8_method_2_code, 3, (Option.none : Option Jvm.ClassFile.FieldType), 6, 1, 0, 820),
  (⟨"SagaDesk$Saga", "become", "(LSagaDesk$Saga;)V"⟩, prog_7_method_5_code, 2, (Option.none : Option Jvm.ClassFile.FieldType), 5, 1, 0, 825),
  (⟨"SagaDesk", "ends", "(II)I"⟩, prog_1_method_18_code, 5, (Option.some FieldType.int), 7, 2, 1, 829),
  (⟨"SagaDesk$Saga", "isOver", "()Z"⟩, prog_7_method_10_code, 1, (Option.some FieldType.boolean), 5, 0, 2, 833),
  (⟨"java/lang/Integer", "bitCount", "(I)I"⟩, prog_11_method_49_code, 1, (Option.some FieldType.int), 10, 1, 1, 836),
  (⟨"SagaDesk", "drawn", "(II)I"⟩, prog_1_method_19_code, 3, (Option.some FieldType.int), 7, 2, 1, 843),
  (⟨"SagaDesk", "endDrawn", "(II)I"⟩, prog_1_method_41_code, 6, (Option.some FieldType.int), 7, 2, 1, 847),
  (⟨"SagaDesk$World", "dropPlans", "()V"⟩, prog_8_method_3_code, 2, (Option.none : Option Jvm.ClassFile.FieldType), 6, 0, 0, 851),
  (⟨"SagaDesk$Saga", "size", "()I"⟩, prog_7_method_6_code, 1, (Option.some FieldType.int), 5, 0, 1, 856),
  (⟨"SagaDesk", "chance", "(IIII)I"⟩, prog_1_method_20_code, 7, (Option.some FieldType.int), 7, 4, 1, 861),
  (⟨"SagaDesk", "commonDivisor", "(II)I"⟩, prog_1_method_39_code, 3, (Option.some FieldType.int), 7, 2, 1, 864),
  (⟨"SagaDesk", "tells", "(IIII)I"⟩, prog_1_method_21_code, 8, (Option.some FieldType.int), 7, 4, 1, 868),
  (⟨"SagaDesk", "isSheet", "(I)Z"⟩, prog_1_method_31_code, 1, (Option.some FieldType.boolean), 7, 1, 2, 871),
  (⟨"SagaDesk", "isQuestion", "(I)Z"⟩, prog_1_method_34_code, 1, (Option.some FieldType.boolean), 7, 1, 2, 874),
  (⟨"SagaDesk$Saga", "has", "(I)Z"⟩, prog_7_method_7_code, 2, (Option.some FieldType.boolean), 5, 1, 2, 878),
  (⟨"SagaDesk", "firstOtherwise", "(LSagaDesk$Row;I)I"⟩, prog_1_method_42_code, 4, (Option.some FieldType.int), 7, 2, 1, 882),
  (⟨"SagaDesk", "accountsTold", "(LSagaDesk$Row;)I"⟩, prog_1_method_43_code, 5, (Option.some FieldType.int), 7, 1, 1, 886),
  (⟨"SagaDesk", "numbersTold", "(LSagaDesk$Row;III)I"⟩, prog_1_method_44_code, 7, (Option.some FieldType.int), 7, 4, 1, 890),
  (⟨"SagaDesk", "lowest", "(I)I"⟩, prog_1_method_38_code, 2, (Option.some FieldType.int), 7, 1, 1, 893)]
def zMs5 : List zMT := [
  (⟨"SagaDesk", "film", "(III)I"⟩, prog_1_method_22_code, 6, (Option.some FieldType.int), 7, 3, 1, 898),
  (⟨"SagaDesk$Row", "renew", "(II)V"⟩, prog_6_method_2_code, 3, (Option.none : Option Jvm.ClassFile.FieldType), 4, 2, 0, 902),
  (⟨"SagaDesk$Row", "put", "(II)V"⟩, prog_6_method_3_code, 3, (Option.none : Option Jvm.ClassFile.FieldType), 4, 2, 0, 911),
  (⟨"SagaDesk", "count", "(I)I"⟩, prog_1_method_23_code, 2, (Option.some FieldType.int), 7, 1, 1, 916),
  (⟨"SagaDesk$World", "countActive", "()I"⟩, prog_8_method_4_code, 3, (Option.some FieldType.int), 6, 0, 1, 920),
  (⟨"SagaDesk", "sheet", "(III)I"⟩, prog_1_method_24_code, 4, (Option.some FieldType.int), 7, 3, 1, 925),
  (⟨"SagaDesk", "cell", "(III)I"⟩, prog_1_method_25_code, 5, (Option.some FieldType.int), 7, 3, 1, 929),
  (⟨"SagaDesk", "copy", "(IIIII)I"⟩, prog_1_method_26_code, 8, (Option.some FieldType.int), 7, 5, 1, 933),
  (⟨"SagaDesk$Row", "hasPart", "(II)Z"⟩, prog_6_method_4_code, 3, (Option.some FieldType.boolean), 4, 2, 2, 937),
  (⟨"SagaDeskModel", "<init>", "()V"⟩, prog_10_method_1_code, 1, (Option.none : Option Jvm.ClassFile.FieldType), 8, 0, 0, 943),
  (⟨"SagaDeskModel", "feed", "(IIIIII)I"⟩, prog_10_method_7_code, 8, (Option.some FieldType.int), 8, 6, 1, 1100),
  (⟨"SagaDeskModel", "in", "(III)Z"⟩, prog_10_method_2_code, 3, (Option.some FieldType.boolean), 8, 3, 2, 1103),
  (⟨"SagaDeskModel", "isByte", "(I)Z"⟩, prog_10_method_6_code, 1, (Option.some FieldType.boolean), 8, 1, 2, 1106),
  (⟨"SagaDeskModel", "text", "()I"⟩, prog_10_method_18_code, 3, (Option.some FieldType.int), 8, 0, 1, 1110),
  (⟨"SagaDeskModel", "next", "()V"⟩, prog_10_method_11_code, 3, (Option.none : Option Jvm.ClassFile.FieldType), 8, 0, 0, 1114),
  (⟨"SagaDeskModel", "byteAt", "(I)I"⟩, prog_10_method_8_code, 2, (Option.some FieldType.int), 8, 1, 1, 1118),
  (⟨"SagaDeskModel", "kindRead", "()I"⟩, prog_10_method_10_code, 1, (Option.some FieldType.int), 8, 0, 1, 1122),
  (⟨"SagaDeskModel", "isWord", "(Ljava/lang/String;)Z"⟩, prog_10_method_9_code, 3, (Option.some FieldType.boolean), 8, 1, 2, 1127),
  (⟨"SagaDeskModel", "line", "(I)I"⟩, prog_10_method_14_code, 3, (Option.some FieldType.int), 8, 1, 1, 1138),
  (⟨"SagaDeskModel", "part", "(II)I"⟩, prog_10_method_15_code, 3, (Option.some FieldType.int), 8, 2, 1, 1142),
  (⟨"SagaDeskModel", "isSign", "(I)Z"⟩, prog_10_method_12_code, 2, (Option.some FieldType.boolean), 8, 1, 2, 1146),
  (⟨"SagaDeskModel", "branches", "(I)I"⟩, prog_10_method_16_code, 4, (Option.some FieldType.int), 8, 1, 1, 1150),
  (⟨"SagaDeskModel", "step", "(I)I"⟩, prog_10_method_17_code, 4, (Option.some FieldType.int), 8, 1, 1, 1154),
  (⟨"SagaDeskModel", "takes", "(I)I"⟩, prog_10_method_13_code, 3, (Option.some FieldType.int), 8, 1, 1, 1158)]
def zMs6 : List zMT := [
  (⟨"SagaDeskModel", "shape", "(II)I"⟩, prog_10_method_28_code, 3, (Option.some FieldType.int), 8, 2, 1, 1162),
  (⟨"SagaDeskModel", "isText", "(I)Z"⟩, prog_10_method_5_code, 2, (Option.some FieldType.boolean), 8, 1, 2, 1166),
  (⟨"SagaDeskModel", "chain", "(I)I"⟩, prog_10_method_21_code, 6, (Option.some FieldType.int), 8, 1, 1, 1170),
  (⟨"SagaDeskModel", "isAhead", "(III)Z"⟩, prog_10_method_19_code, 4, (Option.some FieldType.boolean), 8, 3, 2, 1174),
  (⟨"SagaDeskModel", "wide", "(I)I"⟩, prog_10_method_22_code, 6, (Option.some FieldType.int), 8, 1, 1, 1179),
  (⟨"SagaDeskModel", "beside", "(II)I"⟩, prog_10_method_20_code, 5, (Option.some FieldType.int), 8, 2, 1, 1184),
  (⟨"SagaDeskModel", "clashes", "(I)I"⟩, prog_10_method_24_code, 5, (Option.some FieldType.int), 8, 1, 1, 1188),
  (⟨"SagaDeskModel", "accountsOf", "(II)I"⟩, prog_10_method_23_code, 3, (Option.some FieldType.int), 8, 2, 1, 1192),
  (⟨"SagaDeskModel", "risky", "(I)I"⟩, prog_10_method_27_code, 4, (Option.some FieldType.int), 8, 1, 1, 1196),
  (⟨"SagaDeskModel", "isClosed", "(II)Z"⟩, prog_10_method_25_code, 4, (Option.some FieldType.boolean), 8, 2, 2, 1200),
  (⟨"SagaDeskModel", "isRisky", "(II)Z"⟩, prog_10_method_26_code, 6, (Option.some FieldType.boolean), 8, 2, 2, 1204),
  (⟨"SagaDeskModel", "keep", "(I)V"⟩, prog_10_method_41_code, 4, (Option.none : Option Jvm.ClassFile.FieldType), 8, 1, 0, 1208),
  (⟨"SagaDeskModel", "rowOf", "(II)[I"⟩, prog_10_method_40_code, 3, (Option.some (FieldType.array FieldType.int)), 8, 2, 4, 1213),
  (⟨"SagaDeskModel", "doing", "(III)I"⟩, prog_10_method_38_code, 6, (Option.some FieldType.int), 8, 3, 1, 1217),
  (⟨"SagaDeskModel", "changes", "(II)I"⟩, prog_10_method_35_code, 4, (Option.some FieldType.int), 8, 2, 1, 1221),
  (⟨"SagaDeskModel", "fault", "(I)I"⟩, prog_10_method_34_code, 1, (Option.some FieldType.int), 8, 1, 1, 1224),
  (⟨"SagaDeskModel", "moves", "(III)I"⟩, prog_10_method_36_code, 5, (Option.some FieldType.int), 8, 3, 1, 1228),
  (⟨"SagaDeskModel", "swaps", "(II)I"⟩, prog_10_method_37_code, 4, (Option.some FieldType.int), 8, 2, 1, 1232),
  (⟨"SagaDeskModel", "layBack", "(I)V"⟩, prog_10_method_42_code, 4, (Option.none : Option Jvm.ClassFile.FieldType), 8, 1, 0, 1236),
  (⟨"SagaDeskModel", "orders", "(I)J"⟩, prog_10_method_29_code, 5, (Option.some FieldType.long), 8, 1, 3, 1240),
  (⟨"SagaDeskModel", "lastOf", "(III)J"⟩, prog_10_method_30_code, 5, (Option.some FieldType.long), 8, 3, 3, 1245),
  (⟨"SagaDeskModel", "step", "(III)I"⟩, prog_10_method_32_code, 4, (Option.some FieldType.int), 8, 3, 1, 1249),
  (⟨"SagaDeskModel", "isStep", "(II)Z"⟩, prog_10_method_31_code, 3, (Option.some FieldType.boolean), 8, 2, 2, 1253),
  (⟨"SagaDeskModel", "taken", "(III)I"⟩, prog_10_method_33_code, 5, (Option.some FieldType.int), 8, 3, 1, 1257)]
def zMs7 : List zMT := [
  (⟨"SagaDeskModel", "begin", "(II)I"⟩, prog_10_method_56_code, 3, (Option.some FieldType.int), 8, 2, 1, 1261),
  (⟨"SagaDeskModel", "isSaga", "(I)Z"⟩, prog_10_method_3_code, 1, (Option.some FieldType.boolean), 8, 1, 2, 1264),
  (⟨"SagaDeskModel", "begins", "(II)V"⟩, prog_10_method_45_code, 5, (Option.none : Option Jvm.ClassFile.FieldType), 8, 2, 0, 1268),
  (⟨"SagaDeskModel", "writes", "(III)V"⟩, prog_10_method_43_code, 4, (Option.none : Option Jvm.ClassFile.FieldType), 8, 3, 0, 1272),
  (⟨"SagaDeskModel", "plan", "(IIII)I"⟩, prog_10_method_58_code, 8, (Option.some FieldType.int), 8, 4, 1, 1276),
  (⟨"SagaDeskModel", "refusal", "(II)I"⟩, prog_10_method_57_code, 3, (Option.some FieldType.int), 8, 2, 1, 1280),
  (⟨"SagaDeskModel", "tick", "()I"⟩, prog_10_method_59_code, 2, (Option.some FieldType.int), 8, 0, 1, 1284),
  (⟨"SagaDeskModel", "ticks", "()V"⟩, prog_10_method_55_code, 2, (Option.none : Option Jvm.ClassFile.FieldType), 8, 0, 0, 1288),
  (⟨"SagaDeskModel", "turn", "(I)V"⟩, prog_10_method_54_code, 5, (Option.none : Option Jvm.ClassFile.FieldType), 8, 1, 0, 1292),
  (⟨"SagaDeskModel", "undoes", "(I)V"⟩, prog_10_method_53_code, 4, (Option.none : Option Jvm.ClassFile.FieldType), 8, 1, 0, 1296),
  (⟨"SagaDeskModel", "last", "(I)I"⟩, prog_10_method_49_code, 5, (Option.some FieldType.int), 8, 1, 1, 1300),
  (⟨"SagaDeskModel", "stepsThat", "(II)I"⟩, prog_10_method_46_code, 5, (Option.some FieldType.int), 8, 2, 1, 1304),
  (⟨"SagaDeskModel", "undoing", "(III)I"⟩, prog_10_method_39_code, 6, (Option.some FieldType.int), 8, 3, 1, 1308),
  (⟨"SagaDeskModel", "over", "(II)V"⟩, prog_10_method_51_code, 3, (Option.none : Option Jvm.ClassFile.FieldType), 8, 2, 0, 1312),
  (⟨"SagaDeskModel", "front", "(I)I"⟩, prog_10_method_48_code, 5, (Option.some FieldType.int), 8, 1, 1, 1316),
  (⟨"SagaDeskModel", "tries", "(II)Z"⟩, prog_10_method_52_code, 6, (Option.some FieldType.boolean), 8, 2, 2, 1320),
  (⟨"SagaDeskModel", "isDone", "(III)V"⟩, prog_10_method_50_code, 4, (Option.none : Option Jvm.ClassFile.FieldType), 8, 3, 0, 1324),
  (⟨"SagaDeskModel", "isPassed", "(I)Z"⟩, prog_10_method_47_code, 3, (Option.some FieldType.boolean), 8, 1, 2, 1328),
  (⟨"SagaDeskModel", "told", "(II)I"⟩, prog_10_method_60_code, 3, (Option.some FieldType.int), 8, 2, 1, 1332),
  (⟨"SagaDeskModel", "why", "(II)I"⟩, prog_10_method_61_code, 4, (Option.some FieldType.int), 8, 2, 1, 1336),
  (⟨"SagaDeskModel", "set", "(II)I"⟩, prog_10_method_62_code, 4, (Option.some FieldType.int), 8, 2, 1, 1340),
  (⟨"SagaDeskModel", "isAccount", "(I)Z"⟩, prog_10_method_4_code, 1, (Option.some FieldType.boolean), 8, 1, 2, 1343),
  (⟨"SagaDeskModel", "line", "(II)I"⟩, prog_10_method_63_code, 3, (Option.some FieldType.int), 8, 2, 1, 1347),
  (⟨"SagaDeskModel", "replay", "(II)I"⟩, prog_10_method_68_code, 4, (Option.some FieldType.int), 8, 2, 1, 1351)]
def zMs8 : List zMT := [
  (⟨"SagaDeskModel", "isAsked", "(I)Z"⟩, prog_10_method_66_code, 1, (Option.some FieldType.boolean), 8, 1, 2, 1354),
  (⟨"SagaDeskModel", "replays", "(I)V"⟩, prog_10_method_65_code, 3, (Option.none : Option Jvm.ClassFile.FieldType), 8, 1, 0, 1358),
  (⟨"SagaDeskModel", "again", "(III)V"⟩, prog_10_method_64_code, 5, (Option.none : Option Jvm.ClassFile.FieldType), 8, 3, 0, 1362),
  (⟨"SagaDeskModel", "answer", "(I)I"⟩, prog_10_method_67_code, 2, (Option.some FieldType.int), 8, 1, 1, 1366),
  (⟨"SagaDeskModel", "breaks", "(I)I"⟩, prog_10_method_69_code, 3, (Option.some FieldType.int), 8, 1, 1, 1370),
  (⟨"SagaDeskModel", "run", "(II)I"⟩, prog_10_method_72_code, 4, (Option.some FieldType.int), 8, 2, 1, 1374),
  (⟨"SagaDeskModel", "thinks", "()V"⟩, prog_10_method_70_code, 1, (Option.none : Option Jvm.ClassFile.FieldType), 8, 0, 0, 1378),
  (⟨"SagaDeskModel", "wakes", "()V"⟩, prog_10_method_71_code, 1, (Option.none : Option Jvm.ClassFile.FieldType), 8, 0, 0, 1382),
  (⟨"SagaDeskModel", "ends", "(II)I"⟩, prog_10_method_73_code, 5, (Option.some FieldType.int), 8, 2, 1, 1386),
  (⟨"SagaDeskModel", "drawn", "(II)I"⟩, prog_10_method_75_code, 3, (Option.some FieldType.int), 8, 2, 1, 1390),
  (⟨"SagaDeskModel", "byLot", "(II)I"⟩, prog_10_method_74_code, 5, (Option.some FieldType.int), 8, 2, 1, 1394),
  (⟨"SagaDeskModel", "clears", "(I[[I)V"⟩, prog_10_method_44_code, 4, (Option.none : Option Jvm.ClassFile.FieldType), 8, 2, 0, 1398),
  (⟨"SagaDeskModel", "chance", "(IIII)I"⟩, prog_10_method_77_code, 7, (Option.some FieldType.int), 8, 4, 1, 1403),
  (⟨"SagaDeskModel", "common", "(II)I"⟩, prog_10_method_76_code, 2, (Option.some FieldType.int), 8, 2, 1, 1406),
  (⟨"SagaDeskModel", "tells", "(IIII)I"⟩, prog_10_method_80_code, 9, (Option.some FieldType.int), 8, 4, 1, 1410),
  (⟨"SagaDeskModel", "isSheet", "(I)Z"⟩, prog_10_method_84_code, 1, (Option.some FieldType.boolean), 8, 1, 2, 1413),
  (⟨"SagaDeskModel", "otherwise", "(II)I"⟩, prog_10_method_78_code, 5, (Option.some FieldType.int), 8, 2, 1, 1417),
  (⟨"SagaDeskModel", "numbersBy", "(IIZ)I"⟩, prog_10_method_79_code, 7, (Option.some FieldType.int), 8, 3, 1, 1421),
  (⟨"SagaDeskModel", "film", "(III)I"⟩, prog_10_method_81_code, 5, (Option.some FieldType.int), 8, 3, 1, 1425),
  (⟨"SagaDeskModel", "count", "(I)I"⟩, prog_10_method_83_code, 2, (Option.some FieldType.int), 8, 1, 1, 1429),
  (⟨"SagaDeskModel", "busy", "()I"⟩, prog_10_method_82_code, 3, (Option.some FieldType.int), 8, 0, 1, 1433),
  (⟨"SagaDeskModel", "sheet", "(III)I"⟩, prog_10_method_85_code, 5, (Option.some FieldType.int), 8, 3, 1, 1437),
  (⟨"SagaDeskModel", "cell", "(III)I"⟩, prog_10_method_86_code, 4, (Option.some FieldType.int), 8, 3, 1, 1441),
  (⟨"SagaDeskModel", "copy", "(IIIII)I"⟩, prog_10_method_87_code, 6, (Option.some FieldType.int), 8, 5, 1, 1445)]
-- the code words of the methods
set_option maxRecDepth 100000 in
theorem zc_0 : lw_tbl[103]? = some (.code ⟨"SagaDesk", "<init>", "()V"⟩ prog_1_method_1_code 2 (Option.none : Option Jvm.ClassFile.FieldType)) := by rfl
set_option maxRecDepth 100000 in
theorem zc_1 : lw_tbl[111]? = some (.code ⟨"SagaDesk$Reader", "<init>", "()V"⟩ prog_5_method_1_code 1 (Option.none : Option Jvm.ClassFile.FieldType)) := by rfl
set_option maxRecDepth 100000 in
theorem zc_2 : lw_tbl[142]? = some (.code ⟨"SagaDesk$Program", "<init>", "()V"⟩ prog_3_method_1_code 1 (Option.none : Option Jvm.ClassFile.FieldType)) := by rfl
set_option maxRecDepth 100000 in
theorem zc_3 : lw_tbl[189]? = some (.code ⟨"SagaDesk$Journal", "<init>", "(I)V"⟩ prog_2_method_1_code 3 (Option.none : Option Jvm.ClassFile.FieldType)) := by rfl
set_option maxRecDepth 100000 in
theorem zc_4 : lw_tbl[219]? = some (.code ⟨"SagaDesk$World", "<init>", "([LSagaDesk$Program;LSagaDesk$Journal;)V"⟩ prog_8_method_1_code 4 (Option.none : Option Jvm.ClassFile.FieldType)) := by rfl
set_option maxRecDepth 100000 in
theorem zc_5 : lw_tbl[225]? = some (.code ⟨"SagaDesk$Purse", "<init>", "()V"⟩ prog_4_method_1_code 1 (Option.none : Option Jvm.ClassFile.FieldType)) := by rfl
set_option maxRecDepth 100000 in
theorem zc_6 : lw_tbl[229]? = some (.code ⟨"java/util/Arrays", "fill", "([II)V"⟩ prog_17_method_103_code 4 (Option.none : Option Jvm.ClassFile.FieldType)) := by rfl
set_option maxRecDepth 100000 in
theorem zc_7 : lw_tbl[251]? = some (.code ⟨"SagaDesk$Saga", "<init>", "()V"⟩ prog_7_method_1_code 1 (Option.none : Option Jvm.ClassFile.FieldType)) := by rfl
set_option maxRecDepth 100000 in
theorem zc_8 : lw_tbl[332]? = some (.code ⟨"SagaDesk$Row", "<init>", "()V"⟩ prog_6_method_1_code 1 (Option.none : Option Jvm.ClassFile.FieldType)) := by rfl
set_option maxRecDepth 100000 in
theorem zc_9 : lw_tbl[376]? = some (.code ⟨"SagaDesk", "feed", "(IIIIII)I"⟩ prog_1_method_2_code 8 (Option.some FieldType.int)) := by rfl
set_option maxRecDepth 100000 in
theorem zc_10 : lw_tbl[379]? = some (.code ⟨"SagaDesk", "isIn", "(III)Z"⟩ prog_1_method_27_code 3 (Option.some FieldType.boolean)) := by rfl
set_option maxRecDepth 100000 in
theorem zc_11 : lw_tbl[382]? = some (.code ⟨"SagaDesk", "isByte", "(I)Z"⟩ prog_1_method_28_code 1 (Option.some FieldType.boolean)) := by rfl
set_option maxRecDepth 100000 in
theorem zc_12 : lw_tbl[386]? = some (.code ⟨"SagaDesk$Reader", "append", "(I)V"⟩ prog_5_method_2_code 2 (Option.none : Option Jvm.ClassFile.FieldType)) := by rfl
set_option maxRecDepth 100000 in
theorem zc_13 : lw_tbl[390]? = some (.code ⟨"SagaDesk", "text", "()I"⟩ prog_1_method_3_code 2 (Option.some FieldType.int)) := by rfl
set_option maxRecDepth 100000 in
theorem zc_14 : lw_tbl[394]? = some (.code ⟨"SagaDesk$Reader", "readInto", "(LSagaDesk$Program;)I"⟩ prog_5_method_3_code 2 (Option.some FieldType.int)) := by rfl
set_option maxRecDepth 100000 in
theorem zc_15 : lw_tbl[398]? = some (.code ⟨"SagaDesk$Program", "clear", "()V"⟩ prog_3_method_2_code 1 (Option.none : Option Jvm.ClassFile.FieldType)) := by rfl
set_option maxRecDepth 100000 in
theorem zc_16 : lw_tbl[402]? = some (.code ⟨"SagaDesk$Reader", "advance", "()V"⟩ prog_5_method_4_code 2 (Option.none : Option Jvm.ClassFile.FieldType)) := by rfl
set_option maxRecDepth 100000 in
theorem zc_17 : lw_tbl[407]? = some (.code ⟨"SagaDesk$Reader", "skipRun", "(II)V"⟩ prog_5_method_5_code 3 (Option.none : Option Jvm.ClassFile.FieldType)) := by rfl
set_option maxRecDepth 100000 in
theorem zc_18 : lw_tbl[411]? = some (.code ⟨"SagaDesk$Reader", "readLine", "(II)I"⟩ prog_5_method_8_code 5 (Option.some FieldType.int)) := by rfl
set_option maxRecDepth 100000 in
theorem zc_19 : lw_tbl[415]? = some (.code ⟨"SagaDesk$Reader", "readPart", "(II)I"⟩ prog_5_method_9_code 3 (Option.some FieldType.int)) := by rfl
set_option maxRecDepth 100000 in
theorem zc_20 : lw_tbl[419]? = some (.code ⟨"SagaDesk$Reader", "readStep", "(I)I"⟩ prog_5_method_11_code 6 (Option.some FieldType.int)) := by rfl
set_option maxRecDepth 100000 in
theorem zc_21 : lw_tbl[423]? = some (.code ⟨"SagaDesk$Reader", "kindOfWord", "()I"⟩ prog_5_method_14_code 2 (Option.some FieldType.int)) := by rfl
set_option maxRecDepth 100000 in
theorem zc_22 : lw_tbl[426]? = some (.code ⟨"SagaDesk$Reader", "wordOf", "(I)Ljava/lang/String;"⟩ prog_5_method_16_code 1 (Option.some (FieldType.object "java/lang/String"))) := by rfl
set_option maxRecDepth 100000 in
theorem zc_23 : lw_tbl[436]? = some (.code ⟨"SagaDesk$Reader", "isWord", "(Ljava/lang/String;)Z"⟩ prog_5_method_15_code 3 (Option.some FieldType.boolean)) := by rfl
-- the code words of the methods
set_option maxRecDepth 100000 in
theorem zc_24 : lw_tbl[488]? = some (.code ⟨"SagaDesk$Reader", "refuse", "()V"⟩ prog_5_method_6_code 1 (Option.none : Option Jvm.ClassFile.FieldType)) := by rfl
set_option maxRecDepth 100000 in
theorem zc_25 : lw_tbl[494]? = some (.code ⟨"SagaDesk$Reader", "readAccount", "()I"⟩ prog_5_method_12_code 2 (Option.some FieldType.int)) := by rfl
set_option maxRecDepth 100000 in
theorem zc_26 : lw_tbl[497]? = some (.code ⟨"SagaDesk", "isAccount", "(I)Z"⟩ prog_1_method_29_code 1 (Option.some FieldType.boolean)) := by rfl
set_option maxRecDepth 100000 in
theorem zc_27 : lw_tbl[500]? = some (.code ⟨"SagaDesk", "hasNumber", "(I)Z"⟩ prog_1_method_36_code 1 (Option.some FieldType.boolean)) := by rfl
set_option maxRecDepth 100000 in
theorem zc_28 : lw_tbl[504]? = some (.code ⟨"SagaDesk$Reader", "readNumber", "()I"⟩ prog_5_method_13_code 3 (Option.some FieldType.int)) := by rfl
set_option maxRecDepth 100000 in
theorem zc_29 : lw_tbl[508]? = some (.code ⟨"SagaDesk$Program", "append", "(IIIII)I"⟩ prog_3_method_5_code 6 (Option.some FieldType.int)) := by rfl
set_option maxRecDepth 100000 in
theorem zc_30 : lw_tbl[512]? = some (.code ⟨"SagaDesk$Reader", "readBranches", "(II)I"⟩ prog_5_method_10_code 4 (Option.some FieldType.int)) := by rfl
set_option maxRecDepth 100000 in
theorem zc_31 : lw_tbl[516]? = some (.code ⟨"SagaDesk$Reader", "expect", "(I)V"⟩ prog_5_method_7_code 2 (Option.none : Option Jvm.ClassFile.FieldType)) := by rfl
set_option maxRecDepth 100000 in
theorem zc_32 : lw_tbl[521]? = some (.code ⟨"SagaDesk", "shape", "(II)I"⟩ prog_1_method_4_code 4 (Option.some FieldType.int)) := by rfl
set_option maxRecDepth 100000 in
theorem zc_33 : lw_tbl[525]? = some (.code ⟨"SagaDesk", "isText", "(I)Z"⟩ prog_1_method_32_code 2 (Option.some FieldType.boolean)) := by rfl
set_option maxRecDepth 100000 in
theorem zc_34 : lw_tbl[529]? = some (.code ⟨"SagaDesk$Program", "longestChain", "()I"⟩ prog_3_method_9_code 4 (Option.some FieldType.int)) := by rfl
set_option maxRecDepth 100000 in
theorem zc_35 : lw_tbl[532]? = some (.code ⟨"SagaDesk", "isBit", "(II)Z"⟩ prog_1_method_37_code 2 (Option.some FieldType.boolean)) := by rfl
set_option maxRecDepth 100000 in
theorem zc_36 : lw_tbl[537]? = some (.code ⟨"SagaDesk$Program", "widest", "()I"⟩ prog_3_method_10_code 1 (Option.some FieldType.int)) := by rfl
set_option maxRecDepth 100000 in
theorem zc_37 : lw_tbl[541]? = some (.code ⟨"SagaDesk$Program", "all", "()I"⟩ prog_3_method_4_code 1 (Option.some FieldType.int)) := by rfl
set_option maxRecDepth 100000 in
theorem zc_38 : lw_tbl[544]? = some (.code ⟨"SagaDesk$Program", "widestFrom", "(LSagaDesk$Program;II)I"⟩ prog_3_method_11_code 4 (Option.some FieldType.int)) := by rfl
set_option maxRecDepth 100000 in
theorem zc_39 : lw_tbl[548]? = some (.code ⟨"SagaDesk$Program", "beside", "(I)I"⟩ prog_3_method_8_code 4 (Option.some FieldType.int)) := by rfl
set_option maxRecDepth 100000 in
theorem zc_40 : lw_tbl[552]? = some (.code ⟨"SagaDesk$Program", "countClashes", "()I"⟩ prog_3_method_13_code 5 (Option.some FieldType.int)) := by rfl
set_option maxRecDepth 100000 in
theorem zc_41 : lw_tbl[556]? = some (.code ⟨"SagaDesk$Program", "accountsOf", "(I)I"⟩ prog_3_method_12_code 4 (Option.some FieldType.int)) := by rfl
set_option maxRecDepth 100000 in
theorem zc_42 : lw_tbl[561]? = some (.code ⟨"SagaDesk$Purse", "become", "(LSagaDesk$Purse;)V"⟩ prog_4_method_3_code 2 (Option.none : Option Jvm.ClassFile.FieldType)) := by rfl
set_option maxRecDepth 100000 in
theorem zc_43 : lw_tbl[567]? = some (.code ⟨"SagaDesk", "countRisky", "(LSagaDesk$Program;LSagaDesk$Purse;II)I"⟩ prog_1_method_40_code 7 (Option.some FieldType.int)) := by rfl
set_option maxRecDepth 100000 in
theorem zc_44 : lw_tbl[571]? = some (.code ⟨"SagaDesk$Program", "next", "(I)I"⟩ prog_3_method_7_code 4 (Option.some FieldType.int)) := by rfl
set_option maxRecDepth 100000 in
theorem zc_45 : lw_tbl[575]? = some (.code ⟨"SagaDesk$Purse", "blocksOne", "(LSagaDesk$Program;I)Z"⟩ prog_4_method_6_code 4 (Option.some FieldType.boolean)) := by rfl
set_option maxRecDepth 100000 in
theorem zc_46 : lw_tbl[580]? = some (.code ⟨"SagaDesk$Purse", "obstacle", "(LSagaDesk$Program;III)I"⟩ prog_4_method_4_code 7 (Option.some FieldType.int)) := by rfl
set_option maxRecDepth 100000 in
theorem zc_47 : lw_tbl[584]? = some (.code ⟨"SagaDesk$Program", "has", "(I)Z"⟩ prog_3_method_3_code 2 (Option.some FieldType.boolean)) := by rfl
-- the code words of the methods
set_option maxRecDepth 100000 in
theorem zc_48 : lw_tbl[587]? = some (.code ⟨"SagaDesk$Purse", "toFirst", "(II)I"⟩ prog_4_method_7_code 2 (Option.some FieldType.int)) := by rfl
set_option maxRecDepth 100000 in
theorem zc_49 : lw_tbl[591]? = some (.code ⟨"SagaDesk$Purse", "beyond", "(II)I"⟩ prog_4_method_9_code 4 (Option.some FieldType.int)) := by rfl
set_option maxRecDepth 100000 in
theorem zc_50 : lw_tbl[594]? = some (.code ⟨"SagaDesk$Purse", "toSecond", "(II)I"⟩ prog_4_method_8_code 2 (Option.some FieldType.int)) := by rfl
set_option maxRecDepth 100000 in
theorem zc_51 : lw_tbl[599]? = some (.code ⟨"SagaDesk$Purse", "change", "(LSagaDesk$Program;III)V"⟩ prog_4_method_5_code 6 (Option.none : Option Jvm.ClassFile.FieldType)) := by rfl
set_option maxRecDepth 100000 in
theorem zc_52 : lw_tbl[603]? = some (.code ⟨"SagaDesk$Purse", "put", "(II)V"⟩ prog_4_method_10_code 3 (Option.none : Option Jvm.ClassFile.FieldType)) := by rfl
set_option maxRecDepth 100000 in
theorem zc_53 : lw_tbl[607]? = some (.code ⟨"SagaDesk$Purse", "exchange", "(II)V"⟩ prog_4_method_11_code 4 (Option.none : Option Jvm.ClassFile.FieldType)) := by rfl
set_option maxRecDepth 100000 in
theorem zc_54 : lw_tbl[611]? = some (.code ⟨"SagaDesk", "orders", "(I)J"⟩ prog_1_method_5_code 2 (Option.some FieldType.long)) := by rfl
set_option maxRecDepth 100000 in
theorem zc_55 : lw_tbl[615]? = some (.code ⟨"SagaDesk$Program", "countOrders", "([J)J"⟩ prog_3_method_14_code 6 (Option.some FieldType.long)) := by rfl
set_option maxRecDepth 100000 in
theorem zc_56 : lw_tbl[621]? = some (.code ⟨"SagaDesk", "step", "(III)I"⟩ prog_1_method_6_code 5 (Option.some FieldType.int)) := by rfl
set_option maxRecDepth 100000 in
theorem zc_57 : lw_tbl[627]? = some (.code ⟨"SagaDesk", "taken", "(III)I"⟩ prog_1_method_7_code 5 (Option.some FieldType.int)) := by rfl
set_option maxRecDepth 100000 in
theorem zc_58 : lw_tbl[630]? = some (.code ⟨"SagaDesk", "isUnder", "(II)Z"⟩ prog_1_method_35_code 4 (Option.some FieldType.boolean)) := by rfl
set_option maxRecDepth 100000 in
theorem zc_59 : lw_tbl[636]? = some (.code ⟨"SagaDesk", "begin", "(II)I"⟩ prog_1_method_8_code 4 (Option.some FieldType.int)) := by rfl
set_option maxRecDepth 100000 in
theorem zc_60 : lw_tbl[639]? = some (.code ⟨"SagaDesk", "isSaga", "(I)Z"⟩ prog_1_method_30_code 1 (Option.some FieldType.boolean)) := by rfl
set_option maxRecDepth 100000 in
theorem zc_61 : lw_tbl[643]? = some (.code ⟨"SagaDesk$Saga", "isActive", "()Z"⟩ prog_7_method_9_code 1 (Option.some FieldType.boolean)) := by rfl
set_option maxRecDepth 100000 in
theorem zc_62 : lw_tbl[647]? = some (.code ⟨"SagaDesk$Saga", "start", "(LSagaDesk$Program;I)V"⟩ prog_7_method_4_code 3 (Option.none : Option Jvm.ClassFile.FieldType)) := by rfl
set_option maxRecDepth 100000 in
theorem zc_63 : lw_tbl[651]? = some (.code ⟨"SagaDesk$Saga", "clear", "()V"⟩ prog_7_method_2_code 1 (Option.none : Option Jvm.ClassFile.FieldType)) := by rfl
set_option maxRecDepth 100000 in
theorem zc_64 : lw_tbl[656]? = some (.code ⟨"SagaDesk$Saga", "dropPlans", "()V"⟩ prog_7_method_3_code 1 (Option.none : Option Jvm.ClassFile.FieldType)) := by rfl
set_option maxRecDepth 100000 in
theorem zc_65 : lw_tbl[661]? = some (.code ⟨"SagaDesk$Journal", "note", "(III)V"⟩ prog_2_method_2_code 4 (Option.none : Option Jvm.ClassFile.FieldType)) := by rfl
set_option maxRecDepth 100000 in
theorem zc_66 : lw_tbl[665]? = some (.code ⟨"SagaDesk", "plan", "(IIII)I"⟩ prog_1_method_9_code 8 (Option.some FieldType.int)) := by rfl
set_option maxRecDepth 100000 in
theorem zc_67 : lw_tbl[669]? = some (.code ⟨"SagaDesk$Saga", "mayName", "(I)Z"⟩ prog_7_method_8_code 2 (Option.some FieldType.boolean)) := by rfl
set_option maxRecDepth 100000 in
theorem zc_68 : lw_tbl[675]? = some (.code ⟨"SagaDesk", "tick", "()I"⟩ prog_1_method_10_code 2 (Option.some FieldType.int)) := by rfl
set_option maxRecDepth 100000 in
theorem zc_69 : lw_tbl[679]? = some (.code ⟨"SagaDesk$World", "goOn", "()V"⟩ prog_8_method_6_code 3 (Option.none : Option Jvm.ClassFile.FieldType)) := by rfl
set_option maxRecDepth 100000 in
theorem zc_70 : lw_tbl[683]? = some (.code ⟨"SagaDesk$World", "goForward", "(ILSagaDesk$Saga;)V"⟩ prog_8_method_7_code 5 (Option.none : Option Jvm.ClassFile.FieldType)) := by rfl
set_option maxRecDepth 100000 in
theorem zc_71 : lw_tbl[687]? = some (.code ⟨"SagaDesk$Saga", "front", "()I"⟩ prog_7_method_13_code 1 (Option.some FieldType.int)) := by rfl
-- the code words of the methods
set_option maxRecDepth 100000 in
theorem zc_72 : lw_tbl[693]? = some (.code ⟨"SagaDesk$World", "tryStep", "(ILSagaDesk$Saga;I)V"⟩ prog_8_method_8_code 6 (Option.none : Option Jvm.ClassFile.FieldType)) := by rfl
set_option maxRecDepth 100000 in
theorem zc_73 : lw_tbl[697]? = some (.code ⟨"SagaDesk$Saga", "numberFor", "(II)I"⟩ prog_7_method_15_code 3 (Option.some FieldType.int)) := by rfl
set_option maxRecDepth 100000 in
theorem zc_74 : lw_tbl[700]? = some (.code ⟨"SagaDesk$World", "spend", "([II)I"⟩ prog_8_method_12_code 2 (Option.some FieldType.int)) := by rfl
set_option maxRecDepth 100000 in
theorem zc_75 : lw_tbl[706]? = some (.code ⟨"SagaDesk$Saga", "becomeDone", "(I)V"⟩ prog_7_method_16_code 2 (Option.none : Option Jvm.ClassFile.FieldType)) := by rfl
set_option maxRecDepth 100000 in
theorem zc_76 : lw_tbl[711]? = some (.code ⟨"SagaDesk$Saga", "fail", "(II)V"⟩ prog_7_method_20_code 3 (Option.none : Option Jvm.ClassFile.FieldType)) := by rfl
set_option maxRecDepth 100000 in
theorem zc_77 : lw_tbl[715]? = some (.code ⟨"SagaDesk$Program", "isPassed", "(I)Z"⟩ prog_3_method_6_code 2 (Option.some FieldType.boolean)) := by rfl
set_option maxRecDepth 100000 in
theorem zc_78 : lw_tbl[719]? = some (.code ⟨"SagaDesk$Saga", "hasFailedOut", "(I)Z"⟩ prog_7_method_21_code 2 (Option.some FieldType.boolean)) := by rfl
set_option maxRecDepth 100000 in
theorem zc_79 : lw_tbl[723]? = some (.code ⟨"SagaDesk$World", "end", "(ILSagaDesk$Saga;I)V"⟩ prog_8_method_11_code 4 (Option.none : Option Jvm.ClassFile.FieldType)) := by rfl
set_option maxRecDepth 100000 in
theorem zc_80 : lw_tbl[727]? = some (.code ⟨"SagaDesk$Saga", "isAllDone", "()Z"⟩ prog_7_method_11_code 1 (Option.some FieldType.boolean)) := by rfl
set_option maxRecDepth 100000 in
theorem zc_81 : lw_tbl[732]? = some (.code ⟨"SagaDesk$World", "goBack", "(ILSagaDesk$Saga;)V"⟩ prog_8_method_9_code 4 (Option.none : Option Jvm.ClassFile.FieldType)) := by rfl
set_option maxRecDepth 100000 in
theorem zc_82 : lw_tbl[736]? = some (.code ⟨"SagaDesk$Saga", "lastDone", "()I"⟩ prog_7_method_14_code 1 (Option.some FieldType.int)) := by rfl
set_option maxRecDepth 100000 in
theorem zc_83 : lw_tbl[740]? = some (.code ⟨"SagaDesk$World", "undoStep", "(ILSagaDesk$Saga;I)V"⟩ prog_8_method_10_code 6 (Option.none : Option Jvm.ClassFile.FieldType)) := by rfl
set_option maxRecDepth 100000 in
theorem zc_84 : lw_tbl[744]? = some (.code ⟨"SagaDesk$Saga", "becomeUndone", "(I)V"⟩ prog_7_method_17_code 2 (Option.none : Option Jvm.ClassFile.FieldType)) := by rfl
set_option maxRecDepth 100000 in
theorem zc_85 : lw_tbl[748]? = some (.code ⟨"SagaDesk$Saga", "leaveDone", "(I)V"⟩ prog_7_method_19_code 2 (Option.none : Option Jvm.ClassFile.FieldType)) := by rfl
set_option maxRecDepth 100000 in
theorem zc_86 : lw_tbl[752]? = some (.code ⟨"SagaDesk$Saga", "becomeParked", "(II)V"⟩ prog_7_method_18_code 3 (Option.none : Option Jvm.ClassFile.FieldType)) := by rfl
set_option maxRecDepth 100000 in
theorem zc_87 : lw_tbl[756]? = some (.code ⟨"SagaDesk", "told", "(II)I"⟩ prog_1_method_11_code 4 (Option.some FieldType.int)) := by rfl
set_option maxRecDepth 100000 in
theorem zc_88 : lw_tbl[761]? = some (.code ⟨"SagaDesk$Saga", "hasPassed", "()Z"⟩ prog_7_method_12_code 1 (Option.some FieldType.boolean)) := by rfl
set_option maxRecDepth 100000 in
theorem zc_89 : lw_tbl[766]? = some (.code ⟨"SagaDesk", "why", "(II)I"⟩ prog_1_method_12_code 4 (Option.some FieldType.int)) := by rfl
set_option maxRecDepth 100000 in
theorem zc_90 : lw_tbl[770]? = some (.code ⟨"SagaDesk", "set", "(II)I"⟩ prog_1_method_13_code 4 (Option.some FieldType.int)) := by rfl
set_option maxRecDepth 100000 in
theorem zc_91 : lw_tbl[775]? = some (.code ⟨"SagaDesk", "line", "(II)I"⟩ prog_1_method_14_code 3 (Option.some FieldType.int)) := by rfl
set_option maxRecDepth 100000 in
theorem zc_92 : lw_tbl[779]? = some (.code ⟨"SagaDesk", "replay", "(II)I"⟩ prog_1_method_15_code 3 (Option.some FieldType.int)) := by rfl
set_option maxRecDepth 100000 in
theorem zc_93 : lw_tbl[782]? = some (.code ⟨"SagaDesk", "isView", "(I)Z"⟩ prog_1_method_33_code 1 (Option.some FieldType.boolean)) := by rfl
set_option maxRecDepth 100000 in
theorem zc_94 : lw_tbl[786]? = some (.code ⟨"SagaDesk$World", "rebuild", "(LSagaDesk$Journal;I)V"⟩ prog_8_method_13_code 4 (Option.none : Option Jvm.ClassFile.FieldType)) := by rfl
set_option maxRecDepth 100000 in
theorem zc_95 : lw_tbl[790]? = some (.code ⟨"SagaDesk$Purse", "clear", "()V"⟩ prog_4_method_2_code 1 (Option.none : Option Jvm.ClassFile.FieldType)) := by rfl
-- the code words of the methods
set_option maxRecDepth 100000 in
theorem zc_96 : lw_tbl[795]? = some (.code ⟨"SagaDesk$World", "happenAgain", "(III)V"⟩ prog_8_method_14_code 4 (Option.none : Option Jvm.ClassFile.FieldType)) := by rfl
set_option maxRecDepth 100000 in
theorem zc_97 : lw_tbl[801]? = some (.code ⟨"SagaDesk$World", "happenTo", "(LSagaDesk$Saga;II)V"⟩ prog_8_method_15_code 4 (Option.none : Option Jvm.ClassFile.FieldType)) := by rfl
set_option maxRecDepth 100000 in
theorem zc_98 : lw_tbl[807]? = some (.code ⟨"SagaDesk$World", "view", "(I)I"⟩ prog_8_method_5_code 3 (Option.some FieldType.int)) := by rfl
set_option maxRecDepth 100000 in
theorem zc_99 : lw_tbl[812]? = some (.code ⟨"SagaDesk", "breaks", "(I)I"⟩ prog_1_method_16_code 3 (Option.some FieldType.int)) := by rfl
set_option maxRecDepth 100000 in
theorem zc_100 : lw_tbl[816]? = some (.code ⟨"SagaDesk", "run", "(II)I"⟩ prog_1_method_17_code 4 (Option.some FieldType.int)) := by rfl
set_option maxRecDepth 100000 in
theorem zc_101 : lw_tbl[820]? = some (.code ⟨"SagaDesk$World", "become", "(LSagaDesk$World;)V"⟩ prog_8_method_2_code 3 (Option.none : Option Jvm.ClassFile.FieldType)) := by rfl
set_option maxRecDepth 100000 in
theorem zc_102 : lw_tbl[825]? = some (.code ⟨"SagaDesk$Saga", "become", "(LSagaDesk$Saga;)V"⟩ prog_7_method_5_code 2 (Option.none : Option Jvm.ClassFile.FieldType)) := by rfl
set_option maxRecDepth 100000 in
theorem zc_103 : lw_tbl[829]? = some (.code ⟨"SagaDesk", "ends", "(II)I"⟩ prog_1_method_18_code 5 (Option.some FieldType.int)) := by rfl
set_option maxRecDepth 100000 in
theorem zc_104 : lw_tbl[833]? = some (.code ⟨"SagaDesk$Saga", "isOver", "()Z"⟩ prog_7_method_10_code 1 (Option.some FieldType.boolean)) := by rfl
set_option maxRecDepth 100000 in
theorem zc_105 : lw_tbl[836]? = some (.code ⟨"java/lang/Integer", "bitCount", "(I)I"⟩ prog_11_method_49_code 1 (Option.some FieldType.int)) := by rfl
set_option maxRecDepth 100000 in
theorem zc_106 : lw_tbl[843]? = some (.code ⟨"SagaDesk", "drawn", "(II)I"⟩ prog_1_method_19_code 3 (Option.some FieldType.int)) := by rfl
set_option maxRecDepth 100000 in
theorem zc_107 : lw_tbl[847]? = some (.code ⟨"SagaDesk", "endDrawn", "(II)I"⟩ prog_1_method_41_code 6 (Option.some FieldType.int)) := by rfl
set_option maxRecDepth 100000 in
theorem zc_108 : lw_tbl[851]? = some (.code ⟨"SagaDesk$World", "dropPlans", "()V"⟩ prog_8_method_3_code 2 (Option.none : Option Jvm.ClassFile.FieldType)) := by rfl
set_option maxRecDepth 100000 in
theorem zc_109 : lw_tbl[856]? = some (.code ⟨"SagaDesk$Saga", "size", "()I"⟩ prog_7_method_6_code 1 (Option.some FieldType.int)) := by rfl
set_option maxRecDepth 100000 in
theorem zc_110 : lw_tbl[861]? = some (.code ⟨"SagaDesk", "chance", "(IIII)I"⟩ prog_1_method_20_code 7 (Option.some FieldType.int)) := by rfl
set_option maxRecDepth 100000 in
theorem zc_111 : lw_tbl[864]? = some (.code ⟨"SagaDesk", "commonDivisor", "(II)I"⟩ prog_1_method_39_code 3 (Option.some FieldType.int)) := by rfl
set_option maxRecDepth 100000 in
theorem zc_112 : lw_tbl[868]? = some (.code ⟨"SagaDesk", "tells", "(IIII)I"⟩ prog_1_method_21_code 8 (Option.some FieldType.int)) := by rfl
set_option maxRecDepth 100000 in
theorem zc_113 : lw_tbl[871]? = some (.code ⟨"SagaDesk", "isSheet", "(I)Z"⟩ prog_1_method_31_code 1 (Option.some FieldType.boolean)) := by rfl
set_option maxRecDepth 100000 in
theorem zc_114 : lw_tbl[874]? = some (.code ⟨"SagaDesk", "isQuestion", "(I)Z"⟩ prog_1_method_34_code 1 (Option.some FieldType.boolean)) := by rfl
set_option maxRecDepth 100000 in
theorem zc_115 : lw_tbl[878]? = some (.code ⟨"SagaDesk$Saga", "has", "(I)Z"⟩ prog_7_method_7_code 2 (Option.some FieldType.boolean)) := by rfl
set_option maxRecDepth 100000 in
theorem zc_116 : lw_tbl[882]? = some (.code ⟨"SagaDesk", "firstOtherwise", "(LSagaDesk$Row;I)I"⟩ prog_1_method_42_code 4 (Option.some FieldType.int)) := by rfl
set_option maxRecDepth 100000 in
theorem zc_117 : lw_tbl[886]? = some (.code ⟨"SagaDesk", "accountsTold", "(LSagaDesk$Row;)I"⟩ prog_1_method_43_code 5 (Option.some FieldType.int)) := by rfl
set_option maxRecDepth 100000 in
theorem zc_118 : lw_tbl[890]? = some (.code ⟨"SagaDesk", "numbersTold", "(LSagaDesk$Row;III)I"⟩ prog_1_method_44_code 7 (Option.some FieldType.int)) := by rfl
set_option maxRecDepth 100000 in
theorem zc_119 : lw_tbl[893]? = some (.code ⟨"SagaDesk", "lowest", "(I)I"⟩ prog_1_method_38_code 2 (Option.some FieldType.int)) := by rfl
-- the code words of the methods
set_option maxRecDepth 100000 in
theorem zc_120 : lw_tbl[898]? = some (.code ⟨"SagaDesk", "film", "(III)I"⟩ prog_1_method_22_code 6 (Option.some FieldType.int)) := by rfl
set_option maxRecDepth 100000 in
theorem zc_121 : lw_tbl[902]? = some (.code ⟨"SagaDesk$Row", "renew", "(II)V"⟩ prog_6_method_2_code 3 (Option.none : Option Jvm.ClassFile.FieldType)) := by rfl
set_option maxRecDepth 100000 in
theorem zc_122 : lw_tbl[911]? = some (.code ⟨"SagaDesk$Row", "put", "(II)V"⟩ prog_6_method_3_code 3 (Option.none : Option Jvm.ClassFile.FieldType)) := by rfl
set_option maxRecDepth 100000 in
theorem zc_123 : lw_tbl[916]? = some (.code ⟨"SagaDesk", "count", "(I)I"⟩ prog_1_method_23_code 2 (Option.some FieldType.int)) := by rfl
set_option maxRecDepth 100000 in
theorem zc_124 : lw_tbl[920]? = some (.code ⟨"SagaDesk$World", "countActive", "()I"⟩ prog_8_method_4_code 3 (Option.some FieldType.int)) := by rfl
set_option maxRecDepth 100000 in
theorem zc_125 : lw_tbl[925]? = some (.code ⟨"SagaDesk", "sheet", "(III)I"⟩ prog_1_method_24_code 4 (Option.some FieldType.int)) := by rfl
set_option maxRecDepth 100000 in
theorem zc_126 : lw_tbl[929]? = some (.code ⟨"SagaDesk", "cell", "(III)I"⟩ prog_1_method_25_code 5 (Option.some FieldType.int)) := by rfl
set_option maxRecDepth 100000 in
theorem zc_127 : lw_tbl[933]? = some (.code ⟨"SagaDesk", "copy", "(IIIII)I"⟩ prog_1_method_26_code 8 (Option.some FieldType.int)) := by rfl
set_option maxRecDepth 100000 in
theorem zc_128 : lw_tbl[937]? = some (.code ⟨"SagaDesk$Row", "hasPart", "(II)Z"⟩ prog_6_method_4_code 3 (Option.some FieldType.boolean)) := by rfl
set_option maxRecDepth 100000 in
theorem zc_129 : lw_tbl[943]? = some (.code ⟨"SagaDeskModel", "<init>", "()V"⟩ prog_10_method_1_code 1 (Option.none : Option Jvm.ClassFile.FieldType)) := by rfl
set_option maxRecDepth 100000 in
theorem zc_130 : lw_tbl[1100]? = some (.code ⟨"SagaDeskModel", "feed", "(IIIIII)I"⟩ prog_10_method_7_code 8 (Option.some FieldType.int)) := by rfl
set_option maxRecDepth 100000 in
theorem zc_131 : lw_tbl[1103]? = some (.code ⟨"SagaDeskModel", "in", "(III)Z"⟩ prog_10_method_2_code 3 (Option.some FieldType.boolean)) := by rfl
set_option maxRecDepth 100000 in
theorem zc_132 : lw_tbl[1106]? = some (.code ⟨"SagaDeskModel", "isByte", "(I)Z"⟩ prog_10_method_6_code 1 (Option.some FieldType.boolean)) := by rfl
set_option maxRecDepth 100000 in
theorem zc_133 : lw_tbl[1110]? = some (.code ⟨"SagaDeskModel", "text", "()I"⟩ prog_10_method_18_code 3 (Option.some FieldType.int)) := by rfl
set_option maxRecDepth 100000 in
theorem zc_134 : lw_tbl[1114]? = some (.code ⟨"SagaDeskModel", "next", "()V"⟩ prog_10_method_11_code 3 (Option.none : Option Jvm.ClassFile.FieldType)) := by rfl
set_option maxRecDepth 100000 in
theorem zc_135 : lw_tbl[1118]? = some (.code ⟨"SagaDeskModel", "byteAt", "(I)I"⟩ prog_10_method_8_code 2 (Option.some FieldType.int)) := by rfl
set_option maxRecDepth 100000 in
theorem zc_136 : lw_tbl[1122]? = some (.code ⟨"SagaDeskModel", "kindRead", "()I"⟩ prog_10_method_10_code 1 (Option.some FieldType.int)) := by rfl
set_option maxRecDepth 100000 in
theorem zc_137 : lw_tbl[1127]? = some (.code ⟨"SagaDeskModel", "isWord", "(Ljava/lang/String;)Z"⟩ prog_10_method_9_code 3 (Option.some FieldType.boolean)) := by rfl
set_option maxRecDepth 100000 in
theorem zc_138 : lw_tbl[1138]? = some (.code ⟨"SagaDeskModel", "line", "(I)I"⟩ prog_10_method_14_code 3 (Option.some FieldType.int)) := by rfl
set_option maxRecDepth 100000 in
theorem zc_139 : lw_tbl[1142]? = some (.code ⟨"SagaDeskModel", "part", "(II)I"⟩ prog_10_method_15_code 3 (Option.some FieldType.int)) := by rfl
set_option maxRecDepth 100000 in
theorem zc_140 : lw_tbl[1146]? = some (.code ⟨"SagaDeskModel", "isSign", "(I)Z"⟩ prog_10_method_12_code 2 (Option.some FieldType.boolean)) := by rfl
set_option maxRecDepth 100000 in
theorem zc_141 : lw_tbl[1150]? = some (.code ⟨"SagaDeskModel", "branches", "(I)I"⟩ prog_10_method_16_code 4 (Option.some FieldType.int)) := by rfl
set_option maxRecDepth 100000 in
theorem zc_142 : lw_tbl[1154]? = some (.code ⟨"SagaDeskModel", "step", "(I)I"⟩ prog_10_method_17_code 4 (Option.some FieldType.int)) := by rfl
set_option maxRecDepth 100000 in
theorem zc_143 : lw_tbl[1158]? = some (.code ⟨"SagaDeskModel", "takes", "(I)I"⟩ prog_10_method_13_code 3 (Option.some FieldType.int)) := by rfl
-- the code words of the methods
set_option maxRecDepth 100000 in
theorem zc_144 : lw_tbl[1162]? = some (.code ⟨"SagaDeskModel", "shape", "(II)I"⟩ prog_10_method_28_code 3 (Option.some FieldType.int)) := by rfl
set_option maxRecDepth 100000 in
theorem zc_145 : lw_tbl[1166]? = some (.code ⟨"SagaDeskModel", "isText", "(I)Z"⟩ prog_10_method_5_code 2 (Option.some FieldType.boolean)) := by rfl
set_option maxRecDepth 100000 in
theorem zc_146 : lw_tbl[1170]? = some (.code ⟨"SagaDeskModel", "chain", "(I)I"⟩ prog_10_method_21_code 6 (Option.some FieldType.int)) := by rfl
set_option maxRecDepth 100000 in
theorem zc_147 : lw_tbl[1174]? = some (.code ⟨"SagaDeskModel", "isAhead", "(III)Z"⟩ prog_10_method_19_code 4 (Option.some FieldType.boolean)) := by rfl
set_option maxRecDepth 100000 in
theorem zc_148 : lw_tbl[1179]? = some (.code ⟨"SagaDeskModel", "wide", "(I)I"⟩ prog_10_method_22_code 6 (Option.some FieldType.int)) := by rfl
set_option maxRecDepth 100000 in
theorem zc_149 : lw_tbl[1184]? = some (.code ⟨"SagaDeskModel", "beside", "(II)I"⟩ prog_10_method_20_code 5 (Option.some FieldType.int)) := by rfl
set_option maxRecDepth 100000 in
theorem zc_150 : lw_tbl[1188]? = some (.code ⟨"SagaDeskModel", "clashes", "(I)I"⟩ prog_10_method_24_code 5 (Option.some FieldType.int)) := by rfl
set_option maxRecDepth 100000 in
theorem zc_151 : lw_tbl[1192]? = some (.code ⟨"SagaDeskModel", "accountsOf", "(II)I"⟩ prog_10_method_23_code 3 (Option.some FieldType.int)) := by rfl
set_option maxRecDepth 100000 in
theorem zc_152 : lw_tbl[1196]? = some (.code ⟨"SagaDeskModel", "risky", "(I)I"⟩ prog_10_method_27_code 4 (Option.some FieldType.int)) := by rfl
set_option maxRecDepth 100000 in
theorem zc_153 : lw_tbl[1200]? = some (.code ⟨"SagaDeskModel", "isClosed", "(II)Z"⟩ prog_10_method_25_code 4 (Option.some FieldType.boolean)) := by rfl
set_option maxRecDepth 100000 in
theorem zc_154 : lw_tbl[1204]? = some (.code ⟨"SagaDeskModel", "isRisky", "(II)Z"⟩ prog_10_method_26_code 6 (Option.some FieldType.boolean)) := by rfl
set_option maxRecDepth 100000 in
theorem zc_155 : lw_tbl[1208]? = some (.code ⟨"SagaDeskModel", "keep", "(I)V"⟩ prog_10_method_41_code 4 (Option.none : Option Jvm.ClassFile.FieldType)) := by rfl
set_option maxRecDepth 100000 in
theorem zc_156 : lw_tbl[1213]? = some (.code ⟨"SagaDeskModel", "rowOf", "(II)[I"⟩ prog_10_method_40_code 3 (Option.some (FieldType.array FieldType.int))) := by rfl
set_option maxRecDepth 100000 in
theorem zc_157 : lw_tbl[1217]? = some (.code ⟨"SagaDeskModel", "doing", "(III)I"⟩ prog_10_method_38_code 6 (Option.some FieldType.int)) := by rfl
set_option maxRecDepth 100000 in
theorem zc_158 : lw_tbl[1221]? = some (.code ⟨"SagaDeskModel", "changes", "(II)I"⟩ prog_10_method_35_code 4 (Option.some FieldType.int)) := by rfl
set_option maxRecDepth 100000 in
theorem zc_159 : lw_tbl[1224]? = some (.code ⟨"SagaDeskModel", "fault", "(I)I"⟩ prog_10_method_34_code 1 (Option.some FieldType.int)) := by rfl
set_option maxRecDepth 100000 in
theorem zc_160 : lw_tbl[1228]? = some (.code ⟨"SagaDeskModel", "moves", "(III)I"⟩ prog_10_method_36_code 5 (Option.some FieldType.int)) := by rfl
set_option maxRecDepth 100000 in
theorem zc_161 : lw_tbl[1232]? = some (.code ⟨"SagaDeskModel", "swaps", "(II)I"⟩ prog_10_method_37_code 4 (Option.some FieldType.int)) := by rfl
set_option maxRecDepth 100000 in
theorem zc_162 : lw_tbl[1236]? = some (.code ⟨"SagaDeskModel", "layBack", "(I)V"⟩ prog_10_method_42_code 4 (Option.none : Option Jvm.ClassFile.FieldType)) := by rfl
set_option maxRecDepth 100000 in
theorem zc_163 : lw_tbl[1240]? = some (.code ⟨"SagaDeskModel", "orders", "(I)J"⟩ prog_10_method_29_code 5 (Option.some FieldType.long)) := by rfl
set_option maxRecDepth 100000 in
theorem zc_164 : lw_tbl[1245]? = some (.code ⟨"SagaDeskModel", "lastOf", "(III)J"⟩ prog_10_method_30_code 5 (Option.some FieldType.long)) := by rfl
set_option maxRecDepth 100000 in
theorem zc_165 : lw_tbl[1249]? = some (.code ⟨"SagaDeskModel", "step", "(III)I"⟩ prog_10_method_32_code 4 (Option.some FieldType.int)) := by rfl
set_option maxRecDepth 100000 in
theorem zc_166 : lw_tbl[1253]? = some (.code ⟨"SagaDeskModel", "isStep", "(II)Z"⟩ prog_10_method_31_code 3 (Option.some FieldType.boolean)) := by rfl
set_option maxRecDepth 100000 in
theorem zc_167 : lw_tbl[1257]? = some (.code ⟨"SagaDeskModel", "taken", "(III)I"⟩ prog_10_method_33_code 5 (Option.some FieldType.int)) := by rfl
-- the code words of the methods
set_option maxRecDepth 100000 in
theorem zc_168 : lw_tbl[1261]? = some (.code ⟨"SagaDeskModel", "begin", "(II)I"⟩ prog_10_method_56_code 3 (Option.some FieldType.int)) := by rfl
set_option maxRecDepth 100000 in
theorem zc_169 : lw_tbl[1264]? = some (.code ⟨"SagaDeskModel", "isSaga", "(I)Z"⟩ prog_10_method_3_code 1 (Option.some FieldType.boolean)) := by rfl
set_option maxRecDepth 100000 in
theorem zc_170 : lw_tbl[1268]? = some (.code ⟨"SagaDeskModel", "begins", "(II)V"⟩ prog_10_method_45_code 5 (Option.none : Option Jvm.ClassFile.FieldType)) := by rfl
set_option maxRecDepth 100000 in
theorem zc_171 : lw_tbl[1272]? = some (.code ⟨"SagaDeskModel", "writes", "(III)V"⟩ prog_10_method_43_code 4 (Option.none : Option Jvm.ClassFile.FieldType)) := by rfl
set_option maxRecDepth 100000 in
theorem zc_172 : lw_tbl[1276]? = some (.code ⟨"SagaDeskModel", "plan", "(IIII)I"⟩ prog_10_method_58_code 8 (Option.some FieldType.int)) := by rfl
set_option maxRecDepth 100000 in
theorem zc_173 : lw_tbl[1280]? = some (.code ⟨"SagaDeskModel", "refusal", "(II)I"⟩ prog_10_method_57_code 3 (Option.some FieldType.int)) := by rfl
set_option maxRecDepth 100000 in
theorem zc_174 : lw_tbl[1284]? = some (.code ⟨"SagaDeskModel", "tick", "()I"⟩ prog_10_method_59_code 2 (Option.some FieldType.int)) := by rfl
set_option maxRecDepth 100000 in
theorem zc_175 : lw_tbl[1288]? = some (.code ⟨"SagaDeskModel", "ticks", "()V"⟩ prog_10_method_55_code 2 (Option.none : Option Jvm.ClassFile.FieldType)) := by rfl
set_option maxRecDepth 100000 in
theorem zc_176 : lw_tbl[1292]? = some (.code ⟨"SagaDeskModel", "turn", "(I)V"⟩ prog_10_method_54_code 5 (Option.none : Option Jvm.ClassFile.FieldType)) := by rfl
set_option maxRecDepth 100000 in
theorem zc_177 : lw_tbl[1296]? = some (.code ⟨"SagaDeskModel", "undoes", "(I)V"⟩ prog_10_method_53_code 4 (Option.none : Option Jvm.ClassFile.FieldType)) := by rfl
set_option maxRecDepth 100000 in
theorem zc_178 : lw_tbl[1300]? = some (.code ⟨"SagaDeskModel", "last", "(I)I"⟩ prog_10_method_49_code 5 (Option.some FieldType.int)) := by rfl
set_option maxRecDepth 100000 in
theorem zc_179 : lw_tbl[1304]? = some (.code ⟨"SagaDeskModel", "stepsThat", "(II)I"⟩ prog_10_method_46_code 5 (Option.some FieldType.int)) := by rfl
set_option maxRecDepth 100000 in
theorem zc_180 : lw_tbl[1308]? = some (.code ⟨"SagaDeskModel", "undoing", "(III)I"⟩ prog_10_method_39_code 6 (Option.some FieldType.int)) := by rfl
set_option maxRecDepth 100000 in
theorem zc_181 : lw_tbl[1312]? = some (.code ⟨"SagaDeskModel", "over", "(II)V"⟩ prog_10_method_51_code 3 (Option.none : Option Jvm.ClassFile.FieldType)) := by rfl
set_option maxRecDepth 100000 in
theorem zc_182 : lw_tbl[1316]? = some (.code ⟨"SagaDeskModel", "front", "(I)I"⟩ prog_10_method_48_code 5 (Option.some FieldType.int)) := by rfl
set_option maxRecDepth 100000 in
theorem zc_183 : lw_tbl[1320]? = some (.code ⟨"SagaDeskModel", "tries", "(II)Z"⟩ prog_10_method_52_code 6 (Option.some FieldType.boolean)) := by rfl
set_option maxRecDepth 100000 in
theorem zc_184 : lw_tbl[1324]? = some (.code ⟨"SagaDeskModel", "isDone", "(III)V"⟩ prog_10_method_50_code 4 (Option.none : Option Jvm.ClassFile.FieldType)) := by rfl
set_option maxRecDepth 100000 in
theorem zc_185 : lw_tbl[1328]? = some (.code ⟨"SagaDeskModel", "isPassed", "(I)Z"⟩ prog_10_method_47_code 3 (Option.some FieldType.boolean)) := by rfl
set_option maxRecDepth 100000 in
theorem zc_186 : lw_tbl[1332]? = some (.code ⟨"SagaDeskModel", "told", "(II)I"⟩ prog_10_method_60_code 3 (Option.some FieldType.int)) := by rfl
set_option maxRecDepth 100000 in
theorem zc_187 : lw_tbl[1336]? = some (.code ⟨"SagaDeskModel", "why", "(II)I"⟩ prog_10_method_61_code 4 (Option.some FieldType.int)) := by rfl
set_option maxRecDepth 100000 in
theorem zc_188 : lw_tbl[1340]? = some (.code ⟨"SagaDeskModel", "set", "(II)I"⟩ prog_10_method_62_code 4 (Option.some FieldType.int)) := by rfl
set_option maxRecDepth 100000 in
theorem zc_189 : lw_tbl[1343]? = some (.code ⟨"SagaDeskModel", "isAccount", "(I)Z"⟩ prog_10_method_4_code 1 (Option.some FieldType.boolean)) := by rfl
set_option maxRecDepth 100000 in
theorem zc_190 : lw_tbl[1347]? = some (.code ⟨"SagaDeskModel", "line", "(II)I"⟩ prog_10_method_63_code 3 (Option.some FieldType.int)) := by rfl
set_option maxRecDepth 100000 in
theorem zc_191 : lw_tbl[1351]? = some (.code ⟨"SagaDeskModel", "replay", "(II)I"⟩ prog_10_method_68_code 4 (Option.some FieldType.int)) := by rfl
-- the code words of the methods
set_option maxRecDepth 100000 in
theorem zc_192 : lw_tbl[1354]? = some (.code ⟨"SagaDeskModel", "isAsked", "(I)Z"⟩ prog_10_method_66_code 1 (Option.some FieldType.boolean)) := by rfl
set_option maxRecDepth 100000 in
theorem zc_193 : lw_tbl[1358]? = some (.code ⟨"SagaDeskModel", "replays", "(I)V"⟩ prog_10_method_65_code 3 (Option.none : Option Jvm.ClassFile.FieldType)) := by rfl
set_option maxRecDepth 100000 in
theorem zc_194 : lw_tbl[1362]? = some (.code ⟨"SagaDeskModel", "again", "(III)V"⟩ prog_10_method_64_code 5 (Option.none : Option Jvm.ClassFile.FieldType)) := by rfl
set_option maxRecDepth 100000 in
theorem zc_195 : lw_tbl[1366]? = some (.code ⟨"SagaDeskModel", "answer", "(I)I"⟩ prog_10_method_67_code 2 (Option.some FieldType.int)) := by rfl
set_option maxRecDepth 100000 in
theorem zc_196 : lw_tbl[1370]? = some (.code ⟨"SagaDeskModel", "breaks", "(I)I"⟩ prog_10_method_69_code 3 (Option.some FieldType.int)) := by rfl
set_option maxRecDepth 100000 in
theorem zc_197 : lw_tbl[1374]? = some (.code ⟨"SagaDeskModel", "run", "(II)I"⟩ prog_10_method_72_code 4 (Option.some FieldType.int)) := by rfl
set_option maxRecDepth 100000 in
theorem zc_198 : lw_tbl[1378]? = some (.code ⟨"SagaDeskModel", "thinks", "()V"⟩ prog_10_method_70_code 1 (Option.none : Option Jvm.ClassFile.FieldType)) := by rfl
set_option maxRecDepth 100000 in
theorem zc_199 : lw_tbl[1382]? = some (.code ⟨"SagaDeskModel", "wakes", "()V"⟩ prog_10_method_71_code 1 (Option.none : Option Jvm.ClassFile.FieldType)) := by rfl
set_option maxRecDepth 100000 in
theorem zc_200 : lw_tbl[1386]? = some (.code ⟨"SagaDeskModel", "ends", "(II)I"⟩ prog_10_method_73_code 5 (Option.some FieldType.int)) := by rfl
set_option maxRecDepth 100000 in
theorem zc_201 : lw_tbl[1390]? = some (.code ⟨"SagaDeskModel", "drawn", "(II)I"⟩ prog_10_method_75_code 3 (Option.some FieldType.int)) := by rfl
set_option maxRecDepth 100000 in
theorem zc_202 : lw_tbl[1394]? = some (.code ⟨"SagaDeskModel", "byLot", "(II)I"⟩ prog_10_method_74_code 5 (Option.some FieldType.int)) := by rfl
set_option maxRecDepth 100000 in
theorem zc_203 : lw_tbl[1398]? = some (.code ⟨"SagaDeskModel", "clears", "(I[[I)V"⟩ prog_10_method_44_code 4 (Option.none : Option Jvm.ClassFile.FieldType)) := by rfl
set_option maxRecDepth 100000 in
theorem zc_204 : lw_tbl[1403]? = some (.code ⟨"SagaDeskModel", "chance", "(IIII)I"⟩ prog_10_method_77_code 7 (Option.some FieldType.int)) := by rfl
set_option maxRecDepth 100000 in
theorem zc_205 : lw_tbl[1406]? = some (.code ⟨"SagaDeskModel", "common", "(II)I"⟩ prog_10_method_76_code 2 (Option.some FieldType.int)) := by rfl
set_option maxRecDepth 100000 in
theorem zc_206 : lw_tbl[1410]? = some (.code ⟨"SagaDeskModel", "tells", "(IIII)I"⟩ prog_10_method_80_code 9 (Option.some FieldType.int)) := by rfl
set_option maxRecDepth 100000 in
theorem zc_207 : lw_tbl[1413]? = some (.code ⟨"SagaDeskModel", "isSheet", "(I)Z"⟩ prog_10_method_84_code 1 (Option.some FieldType.boolean)) := by rfl
set_option maxRecDepth 100000 in
theorem zc_208 : lw_tbl[1417]? = some (.code ⟨"SagaDeskModel", "otherwise", "(II)I"⟩ prog_10_method_78_code 5 (Option.some FieldType.int)) := by rfl
set_option maxRecDepth 100000 in
theorem zc_209 : lw_tbl[1421]? = some (.code ⟨"SagaDeskModel", "numbersBy", "(IIZ)I"⟩ prog_10_method_79_code 7 (Option.some FieldType.int)) := by rfl
set_option maxRecDepth 100000 in
theorem zc_210 : lw_tbl[1425]? = some (.code ⟨"SagaDeskModel", "film", "(III)I"⟩ prog_10_method_81_code 5 (Option.some FieldType.int)) := by rfl
set_option maxRecDepth 100000 in
theorem zc_211 : lw_tbl[1429]? = some (.code ⟨"SagaDeskModel", "count", "(I)I"⟩ prog_10_method_83_code 2 (Option.some FieldType.int)) := by rfl
set_option maxRecDepth 100000 in
theorem zc_212 : lw_tbl[1433]? = some (.code ⟨"SagaDeskModel", "busy", "()I"⟩ prog_10_method_82_code 3 (Option.some FieldType.int)) := by rfl
set_option maxRecDepth 100000 in
theorem zc_213 : lw_tbl[1437]? = some (.code ⟨"SagaDeskModel", "sheet", "(III)I"⟩ prog_10_method_85_code 5 (Option.some FieldType.int)) := by rfl
set_option maxRecDepth 100000 in
theorem zc_214 : lw_tbl[1441]? = some (.code ⟨"SagaDeskModel", "cell", "(III)I"⟩ prog_10_method_86_code 4 (Option.some FieldType.int)) := by rfl
set_option maxRecDepth 100000 in
theorem zc_215 : lw_tbl[1445]? = some (.code ⟨"SagaDeskModel", "copy", "(IIIII)I"⟩ prog_10_method_87_code 6 (Option.some FieldType.int)) := by rfl
def zMw (q : zMT) : Prop := lw_tbl[q.2.2.2.2.2.2.2]? = some (.code q.1 q.2.1 q.2.2.1 q.2.2.2.1)
theorem zMw_0 : ∀ q ∈ zMs0, zMw q := List.forall_mem_cons.mpr ⟨zc_0, List.forall_mem_cons.mpr ⟨zc_1, List.forall_mem_cons.mpr ⟨zc_2, List.forall_mem_cons.mpr ⟨zc_3, List.forall_mem_cons.mpr ⟨zc_4, List.forall_mem_cons.mpr ⟨zc_5, List.forall_mem_cons.mpr ⟨zc_6, List.forall_mem_cons.mpr ⟨zc_7, List.forall_mem_cons.mpr ⟨zc_8, List.forall_mem_cons.mpr ⟨zc_9, List.forall_mem_cons.mpr ⟨zc_10, List.forall_mem_cons.mpr ⟨zc_11, List.forall_mem_cons.mpr ⟨zc_12, List.forall_mem_cons.mpr ⟨zc_13, List.forall_mem_cons.mpr ⟨zc_14, List.forall_mem_cons.mpr ⟨zc_15, List.forall_mem_cons.mpr ⟨zc_16, List.forall_mem_cons.mpr ⟨zc_17, List.forall_mem_cons.mpr ⟨zc_18, List.forall_mem_cons.mpr ⟨zc_19, List.forall_mem_cons.mpr ⟨zc_20, List.forall_mem_cons.mpr ⟨zc_21, List.forall_mem_cons.mpr ⟨zc_22, List.forall_mem_cons.mpr ⟨zc_23, fun _ h => absurd h List.not_mem_nil⟩⟩⟩⟩⟩⟩⟩⟩⟩⟩⟩⟩⟩⟩⟩⟩⟩⟩⟩⟩⟩⟩⟩⟩
theorem zMw_1 : ∀ q ∈ zMs1, zMw q := List.forall_mem_cons.mpr ⟨zc_24, List.forall_mem_cons.mpr ⟨zc_25, List.forall_mem_cons.mpr ⟨zc_26, List.forall_mem_cons.mpr ⟨zc_27, List.forall_mem_cons.mpr ⟨zc_28, List.forall_mem_cons.mpr ⟨zc_29, List.forall_mem_cons.mpr ⟨zc_30, List.forall_mem_cons.mpr ⟨zc_31, List.forall_mem_cons.mpr ⟨zc_32, List.forall_mem_cons.mpr ⟨zc_33, List.forall_mem_cons.mpr ⟨zc_34, List.forall_mem_cons.mpr ⟨zc_35, List.forall_mem_cons.mpr ⟨zc_36, List.forall_mem_cons.mpr ⟨zc_37, List.forall_mem_cons.mpr ⟨zc_38, List.forall_mem_cons.mpr ⟨zc_39, List.forall_mem_cons.mpr ⟨zc_40, List.forall_mem_cons.mpr ⟨zc_41, List.forall_mem_cons.mpr ⟨zc_42, List.forall_mem_cons.mpr ⟨zc_43, List.forall_mem_cons.mpr ⟨zc_44, List.forall_mem_cons.mpr ⟨zc_45, List.forall_mem_cons.mpr ⟨zc_46, List.forall_mem_cons.mpr ⟨zc_47, fun _ h => absurd h List.not_mem_nil⟩⟩⟩⟩⟩⟩⟩⟩⟩⟩⟩⟩⟩⟩⟩⟩⟩⟩⟩⟩⟩⟩⟩⟩
theorem zMw_2 : ∀ q ∈ zMs2, zMw q := List.forall_mem_cons.mpr ⟨zc_48, List.forall_mem_cons.mpr ⟨zc_49, List.forall_mem_cons.mpr ⟨zc_50, List.forall_mem_cons.mpr ⟨zc_51, List.forall_mem_cons.mpr ⟨zc_52, List.forall_mem_cons.mpr ⟨zc_53, List.forall_mem_cons.mpr ⟨zc_54, List.forall_mem_cons.mpr ⟨zc_55, List.forall_mem_cons.mpr ⟨zc_56, List.forall_mem_cons.mpr ⟨zc_57, List.forall_mem_cons.mpr ⟨zc_58, List.forall_mem_cons.mpr ⟨zc_59, List.forall_mem_cons.mpr ⟨zc_60, List.forall_mem_cons.mpr ⟨zc_61, List.forall_mem_cons.mpr ⟨zc_62, List.forall_mem_cons.mpr ⟨zc_63, List.forall_mem_cons.mpr ⟨zc_64, List.forall_mem_cons.mpr ⟨zc_65, List.forall_mem_cons.mpr ⟨zc_66, List.forall_mem_cons.mpr ⟨zc_67, List.forall_mem_cons.mpr ⟨zc_68, List.forall_mem_cons.mpr ⟨zc_69, List.forall_mem_cons.mpr ⟨zc_70, List.forall_mem_cons.mpr ⟨zc_71, fun _ h => absurd h List.not_mem_nil⟩⟩⟩⟩⟩⟩⟩⟩⟩⟩⟩⟩⟩⟩⟩⟩⟩⟩⟩⟩⟩⟩⟩⟩
theorem zMw_3 : ∀ q ∈ zMs3, zMw q := List.forall_mem_cons.mpr ⟨zc_72, List.forall_mem_cons.mpr ⟨zc_73, List.forall_mem_cons.mpr ⟨zc_74, List.forall_mem_cons.mpr ⟨zc_75, List.forall_mem_cons.mpr ⟨zc_76, List.forall_mem_cons.mpr ⟨zc_77, List.forall_mem_cons.mpr ⟨zc_78, List.forall_mem_cons.mpr ⟨zc_79, List.forall_mem_cons.mpr ⟨zc_80, List.forall_mem_cons.mpr ⟨zc_81, List.forall_mem_cons.mpr ⟨zc_82, List.forall_mem_cons.mpr ⟨zc_83, List.forall_mem_cons.mpr ⟨zc_84, List.forall_mem_cons.mpr ⟨zc_85, List.forall_mem_cons.mpr ⟨zc_86, List.forall_mem_cons.mpr ⟨zc_87, List.forall_mem_cons.mpr ⟨zc_88, List.forall_mem_cons.mpr ⟨zc_89, List.forall_mem_cons.mpr ⟨zc_90, List.forall_mem_cons.mpr ⟨zc_91, List.forall_mem_cons.mpr ⟨zc_92, List.forall_mem_cons.mpr ⟨zc_93, List.forall_mem_cons.mpr ⟨zc_94, List.forall_mem_cons.mpr ⟨zc_95, fun _ h => absurd h List.not_mem_nil⟩⟩⟩⟩⟩⟩⟩⟩⟩⟩⟩⟩⟩⟩⟩⟩⟩⟩⟩⟩⟩⟩⟩⟩
theorem zMw_4 : ∀ q ∈ zMs4, zMw q := List.forall_mem_cons.mpr ⟨zc_96, List.forall_mem_cons.mpr ⟨zc_97, List.forall_mem_cons.mpr ⟨zc_98, List.forall_mem_cons.mpr ⟨zc_99, List.forall_mem_cons.mpr ⟨zc_100, List.forall_mem_cons.mpr ⟨zc_101, List.forall_mem_cons.mpr ⟨zc_102, List.forall_mem_cons.mpr ⟨zc_103, List.forall_mem_cons.mpr ⟨zc_104, List.forall_mem_cons.mpr ⟨zc_105, List.forall_mem_cons.mpr ⟨zc_106, List.forall_mem_cons.mpr ⟨zc_107, List.forall_mem_cons.mpr ⟨zc_108, List.forall_mem_cons.mpr ⟨zc_109, List.forall_mem_cons.mpr ⟨zc_110, List.forall_mem_cons.mpr ⟨zc_111, List.forall_mem_cons.mpr ⟨zc_112, List.forall_mem_cons.mpr ⟨zc_113, List.forall_mem_cons.mpr ⟨zc_114, List.forall_mem_cons.mpr ⟨zc_115, List.forall_mem_cons.mpr ⟨zc_116, List.forall_mem_cons.mpr ⟨zc_117, List.forall_mem_cons.mpr ⟨zc_118, List.forall_mem_cons.mpr ⟨zc_119, fun _ h => absurd h List.not_mem_nil⟩⟩⟩⟩⟩⟩⟩⟩⟩⟩⟩⟩⟩⟩⟩⟩⟩⟩⟩⟩⟩⟩⟩⟩
theorem zMw_5 : ∀ q ∈ zMs5, zMw q := List.forall_mem_cons.mpr ⟨zc_120, List.forall_mem_cons.mpr ⟨zc_121, List.forall_mem_cons.mpr ⟨zc_122, List.forall_mem_cons.mpr ⟨zc_123, List.forall_mem_cons.mpr ⟨zc_124, List.forall_mem_cons.mpr ⟨zc_125, List.forall_mem_cons.mpr ⟨zc_126, List.forall_mem_cons.mpr ⟨zc_127, List.forall_mem_cons.mpr ⟨zc_128, List.forall_mem_cons.mpr ⟨zc_129, List.forall_mem_cons.mpr ⟨zc_130, List.forall_mem_cons.mpr ⟨zc_131, List.forall_mem_cons.mpr ⟨zc_132, List.forall_mem_cons.mpr ⟨zc_133, List.forall_mem_cons.mpr ⟨zc_134, List.forall_mem_cons.mpr ⟨zc_135, List.forall_mem_cons.mpr ⟨zc_136, List.forall_mem_cons.mpr ⟨zc_137, List.forall_mem_cons.mpr ⟨zc_138, List.forall_mem_cons.mpr ⟨zc_139, List.forall_mem_cons.mpr ⟨zc_140, List.forall_mem_cons.mpr ⟨zc_141, List.forall_mem_cons.mpr ⟨zc_142, List.forall_mem_cons.mpr ⟨zc_143, fun _ h => absurd h List.not_mem_nil⟩⟩⟩⟩⟩⟩⟩⟩⟩⟩⟩⟩⟩⟩⟩⟩⟩⟩⟩⟩⟩⟩⟩⟩
theorem zMw_6 : ∀ q ∈ zMs6, zMw q := List.forall_mem_cons.mpr ⟨zc_144, List.forall_mem_cons.mpr ⟨zc_145, List.forall_mem_cons.mpr ⟨zc_146, List.forall_mem_cons.mpr ⟨zc_147, List.forall_mem_cons.mpr ⟨zc_148, List.forall_mem_cons.mpr ⟨zc_149, List.forall_mem_cons.mpr ⟨zc_150, List.forall_mem_cons.mpr ⟨zc_151, List.forall_mem_cons.mpr ⟨zc_152, List.forall_mem_cons.mpr ⟨zc_153, List.forall_mem_cons.mpr ⟨zc_154, List.forall_mem_cons.mpr ⟨zc_155, List.forall_mem_cons.mpr ⟨zc_156, List.forall_mem_cons.mpr ⟨zc_157, List.forall_mem_cons.mpr ⟨zc_158, List.forall_mem_cons.mpr ⟨zc_159, List.forall_mem_cons.mpr ⟨zc_160, List.forall_mem_cons.mpr ⟨zc_161, List.forall_mem_cons.mpr ⟨zc_162, List.forall_mem_cons.mpr ⟨zc_163, List.forall_mem_cons.mpr ⟨zc_164, List.forall_mem_cons.mpr ⟨zc_165, List.forall_mem_cons.mpr ⟨zc_166, List.forall_mem_cons.mpr ⟨zc_167, fun _ h => absurd h List.not_mem_nil⟩⟩⟩⟩⟩⟩⟩⟩⟩⟩⟩⟩⟩⟩⟩⟩⟩⟩⟩⟩⟩⟩⟩⟩
theorem zMw_7 : ∀ q ∈ zMs7, zMw q := List.forall_mem_cons.mpr ⟨zc_168, List.forall_mem_cons.mpr ⟨zc_169, List.forall_mem_cons.mpr ⟨zc_170, List.forall_mem_cons.mpr ⟨zc_171, List.forall_mem_cons.mpr ⟨zc_172, List.forall_mem_cons.mpr ⟨zc_173, List.forall_mem_cons.mpr ⟨zc_174, List.forall_mem_cons.mpr ⟨zc_175, List.forall_mem_cons.mpr ⟨zc_176, List.forall_mem_cons.mpr ⟨zc_177, List.forall_mem_cons.mpr ⟨zc_178, List.forall_mem_cons.mpr ⟨zc_179, List.forall_mem_cons.mpr ⟨zc_180, List.forall_mem_cons.mpr ⟨zc_181, List.forall_mem_cons.mpr ⟨zc_182, List.forall_mem_cons.mpr ⟨zc_183, List.forall_mem_cons.mpr ⟨zc_184, List.forall_mem_cons.mpr ⟨zc_185, List.forall_mem_cons.mpr ⟨zc_186, List.forall_mem_cons.mpr ⟨zc_187, List.forall_mem_cons.mpr ⟨zc_188, List.forall_mem_cons.mpr ⟨zc_189, List.forall_mem_cons.mpr ⟨zc_190, List.forall_mem_cons.mpr ⟨zc_191, fun _ h => absurd h List.not_mem_nil⟩⟩⟩⟩⟩⟩⟩⟩⟩⟩⟩⟩⟩⟩⟩⟩⟩⟩⟩⟩⟩⟩⟩⟩
theorem zMw_8 : ∀ q ∈ zMs8, zMw q := List.forall_mem_cons.mpr ⟨zc_192, List.forall_mem_cons.mpr ⟨zc_193, List.forall_mem_cons.mpr ⟨zc_194, List.forall_mem_cons.mpr ⟨zc_195, List.forall_mem_cons.mpr ⟨zc_196, List.forall_mem_cons.mpr ⟨zc_197, List.forall_mem_cons.mpr ⟨zc_198, List.forall_mem_cons.mpr ⟨zc_199, List.forall_mem_cons.mpr ⟨zc_200, List.forall_mem_cons.mpr ⟨zc_201, List.forall_mem_cons.mpr ⟨zc_202, List.forall_mem_cons.mpr ⟨zc_203, List.forall_mem_cons.mpr ⟨zc_204, List.forall_mem_cons.mpr ⟨zc_205, List.forall_mem_cons.mpr ⟨zc_206, List.forall_mem_cons.mpr ⟨zc_207, List.forall_mem_cons.mpr ⟨zc_208, List.forall_mem_cons.mpr ⟨zc_209, List.forall_mem_cons.mpr ⟨zc_210, List.forall_mem_cons.mpr ⟨zc_211, List.forall_mem_cons.mpr ⟨zc_212, List.forall_mem_cons.mpr ⟨zc_213, List.forall_mem_cons.mpr ⟨zc_214, List.forall_mem_cons.mpr ⟨zc_215, fun _ h => absurd h List.not_mem_nil⟩⟩⟩⟩⟩⟩⟩⟩⟩⟩⟩⟩⟩⟩⟩⟩⟩⟩⟩⟩⟩⟩⟩⟩
def zMs : List zMT := zMs0 ++ (zMs1 ++ (zMs2 ++ (zMs3 ++ (zMs4 ++ (zMs5 ++ (zMs6 ++ (zMs7 ++ (zMs8))))))))
def zMtL : zMT := (⟨"java/lang/String", "length", "()I"⟩, prog_13_method_54_code, 1, (Option.some FieldType.int), 14, 0, 1, 440)
set_option maxRecDepth 100000 in
theorem zMtL_c : lw_tbl[440]? = some (.code ⟨"java/lang/String", "length", "()I"⟩ prog_13_method_54_code 1 (Option.some FieldType.int)) := by rfl
def zMtC : zMT := (⟨"java/lang/String", "charAt", "(I)C"⟩, prog_13_method_56_code, 2, (Option.some FieldType.char), 14, 1, 1, 450)
set_option maxRecDepth 100000 in
theorem zMtC_c : lw_tbl[450]? = some (.code ⟨"java/lang/String", "charAt", "(I)C"⟩ prog_13_method_56_code 2 (Option.some FieldType.char)) := by rfl
set_option maxRecDepth 100000 in
theorem zjcO : lw_tbl[444]? = some (.code ⟨"java/lang/String", "coder", "()B"⟩ prog_13_method_152_code 1 (Option.some FieldType.byte)) := by rfl
abbrev zjbO : ByteArray := prog_13_method_152_code
set_option maxRecDepth 100000 in
theorem zjcI : lw_tbl[454]? = some (.code ⟨"java/lang/String", "isLatin1", "()Z"⟩ prog_13_method_154_code 1 (Option.some FieldType.boolean)) := by rfl
abbrev zjbI : ByteArray := prog_13_method_154_code
set_option maxRecDepth 100000 in
theorem zjcB : lw_tbl[457]? = some (.code ⟨"java/lang/StringLatin1", "charAt", "([BI)C"⟩ prog_14_method_2_code 2 (Option.some FieldType.char)) := by rfl
abbrev zjbB : ByteArray := prog_14_method_2_code
set_option maxRecDepth 100000 in
theorem zjcK : lw_tbl[460]? = some (.code ⟨"java/lang/String", "checkIndex", "(II)V"⟩ prog_13_method_155_code 2 (Option.none : Option Jvm.ClassFile.FieldType)) := by rfl
abbrev zjbK : ByteArray := prog_13_method_155_code
set_option maxRecDepth 100000 in
theorem zjcP : lw_tbl[465]? = some (.code ⟨"jdk/internal/util/Preconditions", "checkIndex", "(IILjava/util/function/BiFunction;)I"⟩ prog_18_method_11_code 3 (Option.some FieldType.int)) := by rfl
abbrev zjbP : ByteArray := prog_18_method_11_code
theorem zMw_all : ∀ q ∈ zMs, zMw q := List.forall_mem_append.mpr ⟨zMw_0, List.forall_mem_append.mpr ⟨zMw_1, List.forall_mem_append.mpr ⟨zMw_2, List.forall_mem_append.mpr ⟨zMw_3, List.forall_mem_append.mpr ⟨zMw_4, List.forall_mem_append.mpr ⟨zMw_5, List.forall_mem_append.mpr ⟨zMw_6, List.forall_mem_append.mpr ⟨zMw_7, zMw_8⟩⟩⟩⟩⟩⟩⟩⟩
/-- the call sites: class, entry; kind (0 virtual, 1 static, 2 <init>, 4 static of a nest mate, 5 <init> of one, 6 Object.<init>, 7 arraycopy, 8 String.length, 9 String.charAt), method; places of its words -/
abbrev zST : Type := (Nat × Nat) × Nat × Nat × List Nat
def zSs0 : List zST := [((0, 1), 6, 0, [190, 105, 106]),
  ((0, 7), 10, 0, [191, 192, 86])]
def zSs1 : List zST := [((1, 3), 6, 0, [143, 105, 106]),
  ((1, 37), 4, 35, [531, 82]),
  ((1, 45), 10, 0, [533, 192, 86]),
  ((1, 41), 0, 37, [538, 539, 540, 84]),
  ((1, 51), 1, 38, [542, 543, 84]),
  ((1, 55), 0, 39, [545, 546, 547, 84]),
  ((1, 63), 0, 41, [553, 554, 555, 84]),
  ((1, 59), 4, 26, [496, 82]),
  ((1, 66), 0, 44, [616, 569, 570, 84])]
def zSs2 : List zST := [((2, 3), 6, 0, [226, 105, 106]),
  ((2, 15), 1, 6, [227, 228, 89]),
  ((2, 28), 7, 0, [562, 564, 563, 97]),
  ((2, 69), 4, 35, [531, 82]),
  ((2, 76), 0, 46, [577, 578, 579, 88]),
  ((2, 34), 0, 47, [581, 582, 583, 84]),
  ((2, 46), 1, 48, [585, 586, 88]),
  ((2, 50), 0, 49, [588, 590, 13, 88]),
  ((2, 56), 1, 50, [592, 593, 88]),
  ((2, 59), 0, 52, [600, 602, 14, 88]),
  ((2, 63), 0, 53, [604, 606, 15, 88])]
def zSs3 : List zST := [((3, 3), 6, 0, [112, 105, 106]),
  ((3, 23), 0, 15, [395, 396, 397, 84]),
  ((3, 34), 0, 16, [399, 401, 0, 83]),
  ((3, 51), 4, 10, [378, 82]),
  ((3, 55), 0, 17, [404, 406, 1, 83]),
  ((3, 37), 0, 18, [408, 410, 2, 83]),
  ((3, 59), 0, 19, [412, 414, 3, 83]),
  ((3, 62), 0, 20, [416, 418, 4, 83]),
  ((3, 76), 0, 21, [420, 422, 5, 83]),
  ((3, 100), 1, 22, [424, 425, 83]),
  ((3, 104), 0, 23, [433, 435, 6, 83]),
  ((3, 108), 8, 900, [437, 438, 439, 93]),
  ((3, 113), 9, 901, [447, 448, 449, 93]),
  ((3, 44), 0, 24, [485, 487, 7, 83]),
  ((3, 83), 0, 25, [491, 493, 8, 83]),
  ((3, 97), 4, 26, [496, 82]),
  ((3, 86), 4, 27, [499, 82]),
  ((3, 90), 0, 28, [501, 503, 9, 83]),
  ((3, 93), 0, 29, [505, 506, 507, 84]),
  ((3, 66), 0, 30, [509, 511, 10, 83]),
  ((3, 72), 0, 31, [513, 515, 11, 83])]
def zSs4 : List zST := [((4, 3), 6, 0, [333, 105, 106]),
  ((4, 19), 11, 0, [903, 904, 86]),
  ((4, 25), 10, 0, [906, 192, 86]),
  ((4, 31), 1, 6, [907, 228, 89]),
  ((4, 37), 4, 10, [378, 82])]
def zSs5 : List zST := [((5, 3), 6, 0, [252, 105, 106]),
  ((5, 65), 0, 63, [648, 649, 650, 90]),
  ((5, 56), 1, 6, [652, 228, 89]),
  ((5, 62), 0, 64, [653, 654, 655, 90]),
  ((5, 71), 7, 0, [657, 564, 563, 97]),
  ((5, 84), 4, 10, [378, 82]),
  ((5, 80), 0, 47, [671, 582, 583, 84]),
  ((5, 95), 0, 44, [688, 569, 570, 84]),
  ((5, 92), 0, 77, [712, 713, 714, 84]),
  ((5, 88), 0, 37, [728, 539, 540, 84]),
  ((5, 99), 0, 85, [745, 747, 21, 90])]
def zSs6 : List zST := [((6, 3), 6, 0, [220, 105, 106]),
  ((6, 11), 2, 5, [223, 224, 88]),
  ((6, 32), 5, 7, [250, 90]),
  ((6, 77), 0, 70, [680, 682, 16, 87]),
  ((6, 84), 0, 71, [684, 685, 686, 90]),
  ((6, 88), 4, 35, [531, 82]),
  ((6, 92), 0, 72, [690, 692, 17, 87]),
  ((6, 102), 0, 73, [694, 695, 696, 90]),
  ((6, 109), 1, 74, [698, 699, 87]),
  ((6, 117), 0, 46, [701, 578, 579, 88]),
  ((6, 121), 0, 51, [702, 597, 598, 88]),
  ((6, 125), 0, 75, [703, 704, 705, 90]),
  ((6, 129), 0, 65, [707, 659, 660, 85]),
  ((6, 135), 0, 76, [708, 709, 710, 90]),
  ((6, 139), 0, 78, [716, 717, 718, 90]),
  ((6, 99), 0, 79, [720, 722, 18, 87]),
  ((6, 96), 0, 80, [724, 725, 726, 90]),
  ((6, 81), 0, 81, [729, 731, 19, 87]),
  ((6, 142), 0, 82, [733, 734, 735, 90]),
  ((6, 145), 0, 83, [737, 739, 20, 87]),
  ((6, 151), 0, 84, [741, 742, 743, 90]),
  ((6, 154), 0, 86, [749, 750, 751, 90]),
  ((6, 157), 0, 95, [787, 788, 789, 88]),
  ((6, 160), 0, 63, [791, 649, 650, 90]),
  ((6, 173), 0, 96, [792, 794, 22, 87]),
  ((6, 51), 4, 26, [496, 82]),
  ((6, 176), 4, 60, [638, 82]),
  ((6, 179), 0, 97, [798, 800, 23, 87]),
  ((6, 183), 4, 10, [378, 82]),
  ((6, 187), 0, 62, [803, 645, 646, 90]),
  ((6, 47), 4, 93, [781, 82]),
  ((6, 33), 0, 42, [821, 559, 560, 88]),
  ((6, 37), 0, 102, [822, 823, 824, 90]),
  ((6, 40), 0, 64, [852, 654, 655, 90]),
  ((6, 43), 0, 61, [921, 641, 642, 90])]
def zSs7 : List zST := [((7, 1), 6, 0, [104, 105, 106]),
  ((7, 9), 5, 1, [110, 83]),
  ((7, 22), 5, 2, [141, 84]),
  ((7, 25), 2, 3, [187, 188, 85]),
  ((7, 34), 2, 4, [217, 218, 87]),
  ((7, 50), 5, 8, [331, 91]),
  ((7, 55), 1, 10, [377, 378, 82]),
  ((7, 59), 1, 11, [380, 381, 82]),
  ((7, 67), 0, 12, [383, 384, 385, 83]),
  ((7, 73), 0, 14, [391, 392, 393, 83]),
  ((7, 77), 0, 33, [522, 524, 12, 82]),
  ((7, 81), 0, 34, [526, 527, 528, 84]),
  ((7, 85), 0, 36, [534, 535, 536, 84]),
  ((7, 88), 0, 40, [549, 550, 551, 84]),
  ((7, 98), 0, 42, [558, 559, 560, 88]),
  ((7, 104), 1, 43, [565, 566, 82]),
  ((7, 306), 0, 44, [568, 569, 570, 84]),
  ((7, 309), 0, 45, [572, 573, 574, 88]),
  ((7, 313), 0, 46, [595, 578, 579, 88]),
  ((7, 317), 0, 51, [596, 597, 598, 88]),
  ((7, 108), 0, 55, [612, 613, 614, 84]),
  ((7, 114), 0, 47, [622, 582, 583, 84]),
  ((7, 133), 0, 39, [623, 546, 547, 84]),
  ((7, 137), 1, 58, [628, 629, 82]),
  ((7, 141), 1, 60, [637, 638, 82]),
  ((7, 148), 0, 61, [640, 641, 642, 90]),
  ((7, 155), 0, 62, [644, 645, 646, 90]),
  ((7, 159), 0, 65, [658, 659, 660, 85]),
  ((7, 163), 0, 67, [666, 667, 668, 90]),
  ((7, 175), 0, 69, [676, 677, 678, 87]),
  ((7, 190), 0, 71, [757, 685, 686, 90]),
  ((7, 193), 0, 88, [758, 759, 760, 90]),
  ((7, 196), 0, 82, [762, 734, 735, 90]),
  ((7, 202), 1, 26, [771, 496, 82]),
  ((7, 217), 1, 93, [780, 781, 82]),
  ((7, 220), 0, 94, [783, 784, 785, 87]),
  ((7, 224), 0, 98, [804, 805, 806, 87]),
  ((7, 227), 0, 101, [817, 818, 819, 87]),
  ((7, 230), 0, 104, [830, 831, 832, 90]),
  ((7, 233), 1, 105, [834, 835, 98]),
  ((7, 238), 0, 107, [844, 846, 24, 82]),
  ((7, 321), 0, 108, [848, 849, 850, 87]),
  ((7, 324), 0, 109, [853, 854, 855, 90]),
  ((7, 242), 1, 111, [862, 863, 82]),
  ((7, 245), 1, 113, [869, 870, 82]),
  ((7, 248), 1, 114, [872, 873, 82]),
  ((7, 251), 0, 115, [875, 876, 877, 90]),
  ((7, 257), 0, 116, [879, 881, 25, 82]),
  ((7, 261), 0, 117, [883, 885, 26, 82]),
  ((7, 265), 0, 118, [887, 889, 27, 82]),
  ((7, 269), 1, 119, [891, 892, 82]),
  ((7, 303), 1, 35, [894, 531, 82]),
  ((7, 272), 0, 121, [899, 900, 901, 91]),
  ((7, 276), 0, 122, [908, 909, 910, 91]),
  ((7, 279), 0, 124, [917, 918, 919, 87]),
  ((7, 288), 0, 128, [934, 935, 936, 91]),
  ((7, 294), 7, 0, [938, 564, 563, 97])]
def zSs8 : List zST := [((8, 1), 6, 0, [944, 105, 106]),
  ((8, 112), 1, 131, [1101, 1102, 92]),
  ((8, 119), 1, 132, [1104, 1105, 92]),
  ((8, 175), 0, 134, [1111, 1113, 28, 92]),
  ((8, 142), 0, 135, [1115, 1117, 29, 92]),
  ((8, 169), 0, 136, [1119, 1121, 30, 92]),
  ((8, 148), 0, 137, [1124, 1126, 31, 92]),
  ((8, 126), 8, 900, [1128, 438, 439, 93]),
  ((8, 138), 9, 901, [1129, 448, 449, 93]),
  ((8, 200), 0, 138, [1135, 1137, 32, 92]),
  ((8, 178), 0, 139, [1139, 1141, 33, 92]),
  ((8, 182), 0, 140, [1143, 1145, 34, 92]),
  ((8, 191), 0, 141, [1147, 1149, 35, 92]),
  ((8, 197), 0, 142, [1151, 1153, 36, 92]),
  ((8, 203), 0, 143, [1155, 1157, 37, 92]),
  ((8, 243), 0, 145, [1163, 1165, 38, 92]),
  ((8, 246), 0, 146, [1167, 1169, 39, 92]),
  ((8, 206), 0, 147, [1171, 1173, 40, 92]),
  ((8, 209), 10, 0, [1175, 192, 86]),
  ((8, 249), 0, 148, [1176, 1178, 41, 92]),
  ((8, 214), 1, 105, [1180, 835, 98]),
  ((8, 219), 0, 149, [1181, 1183, 42, 92]),
  ((8, 252), 0, 150, [1185, 1187, 43, 92]),
  ((8, 222), 0, 151, [1189, 1191, 44, 92]),
  ((8, 255), 0, 152, [1193, 1195, 45, 92]),
  ((8, 236), 0, 153, [1197, 1199, 46, 92]),
  ((8, 240), 0, 154, [1201, 1203, 47, 92]),
  ((8, 225), 0, 155, [1205, 1207, 48, 92]),
  ((8, 285), 7, 0, [1209, 564, 563, 97]),
  ((8, 294), 0, 156, [1210, 1212, 49, 92]),
  ((8, 229), 0, 157, [1214, 1216, 50, 92]),
  ((8, 270), 0, 158, [1218, 1220, 51, 92]),
  ((8, 267), 1, 159, [1222, 1223, 92]),
  ((8, 273), 0, 160, [1225, 1227, 52, 92]),
  ((8, 279), 0, 161, [1229, 1231, 53, 92]),
  ((8, 233), 0, 162, [1233, 1235, 54, 92]),
  ((8, 260), 0, 164, [1242, 1244, 55, 92]),
  ((8, 264), 0, 166, [1250, 1252, 56, 92]),
  ((8, 345), 1, 169, [1262, 1263, 92]),
  ((8, 348), 0, 170, [1265, 1267, 57, 92]),
  ((8, 307), 0, 171, [1269, 1271, 58, 92]),
  ((8, 351), 0, 173, [1277, 1279, 59, 92]),
  ((8, 354), 0, 175, [1285, 1287, 60, 92]),
  ((8, 342), 0, 176, [1289, 1291, 61, 92]),
  ((8, 333), 0, 177, [1293, 1295, 62, 92]),
  ((8, 327), 0, 178, [1297, 1299, 63, 92]),
  ((8, 304), 0, 179, [1301, 1303, 64, 92]),
  ((8, 330), 0, 180, [1305, 1307, 65, 92]),
  ((8, 323), 0, 181, [1309, 1311, 66, 92]),
  ((8, 336), 0, 182, [1313, 1315, 67, 92]),
  ((8, 339), 0, 183, [1317, 1319, 68, 92]),
  ((8, 317), 0, 184, [1321, 1323, 69, 92]),
  ((8, 320), 0, 185, [1325, 1327, 70, 92]),
  ((8, 357), 1, 189, [1341, 1342, 92]),
  ((8, 363), 1, 192, [1352, 1353, 92]),
  ((8, 366), 0, 193, [1355, 1357, 71, 92]),
  ((8, 360), 0, 194, [1359, 1361, 72, 92]),
  ((8, 369), 0, 195, [1363, 1365, 73, 92]),
  ((8, 372), 0, 198, [1375, 1377, 74, 92]),
  ((8, 375), 0, 199, [1379, 1381, 75, 92]),
  ((8, 383), 0, 202, [1391, 1393, 76, 92]),
  ((8, 378), 0, 203, [1395, 1397, 77, 92]),
  ((8, 386), 1, 205, [1404, 1405, 92]),
  ((8, 392), 1, 207, [1411, 1412, 92]),
  ((8, 389), 0, 208, [1414, 1416, 78, 92]),
  ((8, 395), 0, 209, [1418, 1420, 79, 92]),
  ((8, 399), 0, 212, [1430, 1432, 80, 92])]
def zSs9 : List zST := [((9, 9), 2, 0, [101, 102, 82]),
  ((9, 13), 0, 9, [373, 374, 375, 82]),
  ((9, 18), 0, 13, [387, 388, 389, 82]),
  ((9, 23), 0, 32, [518, 519, 520, 82]),
  ((9, 28), 0, 54, [608, 609, 610, 82]),
  ((9, 33), 0, 56, [618, 619, 620, 82]),
  ((9, 38), 0, 57, [624, 625, 626, 82]),
  ((9, 42), 0, 59, [633, 634, 635, 82]),
  ((9, 46), 0, 66, [662, 663, 664, 82]),
  ((9, 51), 0, 68, [672, 673, 674, 82]),
  ((9, 55), 0, 87, [753, 754, 755, 82]),
  ((9, 59), 0, 89, [763, 764, 765, 82]),
  ((9, 63), 0, 90, [767, 768, 769, 82]),
  ((9, 67), 0, 91, [772, 773, 774, 82]),
  ((9, 71), 0, 92, [776, 777, 778, 82]),
  ((9, 75), 0, 99, [809, 810, 811, 82]),
  ((9, 80), 0, 100, [813, 814, 815, 82]),
  ((9, 84), 0, 103, [826, 827, 828, 82]),
  ((9, 88), 0, 106, [840, 841, 842, 82]),
  ((9, 92), 0, 110, [858, 859, 860, 82]),
  ((9, 96), 0, 112, [865, 866, 867, 82]),
  ((9, 100), 0, 120, [895, 896, 897, 82]),
  ((9, 104), 0, 123, [913, 914, 915, 82]),
  ((9, 108), 0, 125, [922, 923, 924, 82]),
  ((9, 112), 0, 126, [926, 927, 928, 82]),
  ((9, 116), 0, 127, [930, 931, 932, 82]),
  ((9, 12), 2, 129, [941, 942, 92]),
  ((9, 17), 0, 130, [1097, 1098, 1099, 92]),
  ((9, 22), 0, 133, [1107, 1108, 1109, 92]),
  ((9, 27), 0, 144, [1159, 1160, 1161, 92]),
  ((9, 32), 0, 163, [1237, 1238, 1239, 92]),
  ((9, 37), 0, 165, [1246, 1247, 1248, 92]),
  ((9, 41), 0, 167, [1254, 1255, 1256, 92]),
  ((9, 45), 0, 168, [1258, 1259, 1260, 92]),
  ((9, 50), 0, 172, [1273, 1274, 1275, 92]),
  ((9, 54), 0, 174, [1281, 1282, 1283, 92]),
  ((9, 58), 0, 186, [1329, 1330, 1331, 92]),
  ((9, 62), 0, 187, [1333, 1334, 1335, 92]),
  ((9, 66), 0, 188, [1337, 1338, 1339, 92]),
  ((9, 70), 0, 190, [1344, 1345, 1346, 92]),
  ((9, 74), 0, 191, [1348, 1349, 1350, 92]),
  ((9, 79), 0, 196, [1367, 1368, 1369, 92]),
  ((9, 83), 0, 197, [1371, 1372, 1373, 92]),
  ((9, 87), 0, 200, [1383, 1384, 1385, 92]),
  ((9, 91), 0, 201, [1387, 1388, 1389, 92]),
  ((9, 95), 0, 204, [1400, 1401, 1402, 92]),
  ((9, 99), 0, 206, [1407, 1408, 1409, 92]),
  ((9, 103), 0, 210, [1422, 1423, 1424, 92]),
  ((9, 107), 0, 211, [1426, 1427, 1428, 92]),
  ((9, 111), 0, 213, [1434, 1435, 1436, 92]),
  ((9, 115), 0, 214, [1438, 1439, 1440, 92]),
  ((9, 120), 0, 215, [1442, 1443, 1444, 92])]
def zSs10 : List zST := []
def zSs11 : List zST := []
def zSs12 : List zST := []
def zSs13 : List zST := []
def zSs14 : List zST := []
def zSs15 : List zST := []
def zSs (o : Nat) : List zST := match o with
  | 0 => zSs0
  | 1 => zSs1
  | 2 => zSs2
  | 3 => zSs3
  | 4 => zSs4
  | 5 => zSs5
  | 6 => zSs6
  | 7 => zSs7
  | 8 => zSs8
  | 9 => zSs9
  | 10 => zSs10
  | 11 => zSs11
  | 12 => zSs12
  | 13 => zSs13
  | 14 => zSs14
  | 15 => zSs15
  | _ => []
/-- the field sites: class, entry; class and field; place of the word -/
abbrev zGT : Type := (Nat × Nat) × Nat × Nat × Nat
def zGs0 : List zGT := [((0, 13), 0, 0, 194),
  ((0, 19), 0, 1, 197),
  ((0, 22), 0, 2, 200),
  ((0, 25), 0, 3, 203)]
def zGs1 : List zGT := [((1, 9), 1, 0, 144),
  ((1, 15), 1, 1, 147),
  ((1, 18), 1, 2, 150),
  ((1, 21), 1, 3, 153),
  ((1, 24), 1, 4, 157),
  ((1, 27), 1, 5, 159),
  ((1, 34), 1, 6, 160),
  ((1, 30), 1, 7, 165)]
def zGs2 : List zGT := [((2, 40), 1, 0, 145),
  ((2, 43), 1, 1, 148),
  ((2, 53), 1, 2, 151),
  ((2, 73), 1, 3, 155),
  ((2, 66), 1, 6, 163),
  ((2, 9), 2, 0, 230),
  ((2, 21), 2, 1, 233),
  ((2, 25), 2, 2, 236)]
def zGs3 : List zGT := [((3, 9), 3, 0, 113),
  ((3, 15), 3, 1, 114),
  ((3, 28), 3, 2, 116),
  ((3, 41), 3, 3, 117),
  ((3, 48), 3, 4, 118),
  ((3, 31), 3, 5, 119),
  ((3, 19), 3, 6, 120),
  ((3, 47), 1, 6, 161),
  ((3, 69), 1, 7, 167)]
def zGs4 : List zGT := [((4, 9), 4, 0, 334),
  ((4, 28), 4, 1, 336),
  ((4, 15), 4, 2, 338)]
def zGs5 : List zGT := [((5, 68), 1, 3, 154),
  ((5, 77), 1, 6, 164),
  ((5, 9), 5, 0, 253),
  ((5, 15), 5, 1, 256),
  ((5, 40), 5, 2, 258),
  ((5, 44), 5, 3, 260),
  ((5, 47), 5, 4, 263),
  ((5, 50), 5, 5, 266),
  ((5, 18), 5, 6, 269),
  ((5, 53), 5, 7, 270),
  ((5, 22), 5, 8, 271),
  ((5, 25), 5, 9, 273),
  ((5, 28), 5, 10, 274),
  ((5, 31), 5, 11, 277),
  ((5, 34), 5, 12, 280),
  ((5, 37), 5, 13, 281)]
def zGs6 : List zGT := [((6, 164), 0, 0, 195),
  ((6, 167), 0, 1, 198),
  ((6, 170), 0, 2, 201),
  ((6, 161), 0, 3, 205),
  ((6, 54), 2, 0, 231),
  ((6, 58), 2, 1, 234),
  ((6, 62), 2, 2, 237),
  ((6, 65), 5, 0, 254),
  ((6, 113), 5, 2, 259),
  ((6, 68), 5, 3, 261),
  ((6, 71), 5, 4, 264),
  ((6, 74), 5, 5, 267),
  ((6, 106), 5, 10, 275),
  ((6, 148), 5, 11, 279),
  ((6, 24), 6, 0, 312),
  ((6, 28), 6, 1, 313),
  ((6, 12), 6, 2, 314),
  ((6, 20), 6, 3, 316)]
def zGs7 : List zGT := [((7, 63), 3, 1, 115),
  ((7, 117), 1, 0, 146),
  ((7, 121), 1, 1, 149),
  ((7, 124), 1, 2, 152),
  ((7, 127), 1, 3, 156),
  ((7, 130), 1, 4, 158),
  ((7, 80), 1, 6, 162),
  ((7, 91), 1, 7, 166),
  ((7, 208), 0, 0, 196),
  ((7, 211), 0, 1, 199),
  ((7, 214), 0, 2, 202),
  ((7, 154), 0, 3, 204),
  ((7, 205), 2, 0, 232),
  ((7, 282), 2, 1, 235),
  ((7, 285), 2, 2, 238),
  ((7, 166), 5, 0, 255),
  ((7, 178), 5, 1, 257),
  ((7, 181), 5, 3, 262),
  ((7, 184), 5, 4, 265),
  ((7, 187), 5, 5, 268),
  ((7, 252), 5, 8, 272),
  ((7, 169), 5, 10, 276),
  ((7, 172), 5, 11, 278),
  ((7, 199), 5, 13, 282),
  ((7, 94), 6, 2, 315),
  ((7, 144), 6, 3, 317),
  ((7, 253), 4, 0, 335),
  ((7, 256), 4, 1, 337),
  ((7, 291), 4, 2, 339),
  ((7, 10), 7, 0, 347),
  ((7, 18), 7, 1, 348),
  ((7, 70), 7, 2, 349),
  ((7, 28), 7, 3, 350),
  ((7, 37), 7, 4, 351),
  ((7, 41), 7, 5, 352),
  ((7, 46), 7, 6, 353),
  ((7, 51), 7, 7, 354)]
def zGs8 : List zGT := [((8, 116), 8, 0, 949),
  ((8, 9), 8, 1, 950),
  ((8, 13), 8, 2, 951),
  ((8, 18), 8, 3, 952),
  ((8, 21), 8, 4, 953),
  ((8, 24), 8, 5, 954),
  ((8, 27), 8, 6, 955),
  ((8, 30), 8, 7, 956),
  ((8, 33), 8, 8, 957),
  ((8, 276), 8, 9, 958),
  ((8, 282), 8, 10, 959),
  ((8, 36), 8, 11, 960),
  ((8, 39), 8, 12, 961),
  ((8, 42), 8, 13, 962),
  ((8, 45), 8, 14, 963),
  ((8, 48), 8, 15, 964),
  ((8, 51), 8, 16, 965),
  ((8, 54), 8, 17, 966),
  ((8, 57), 8, 18, 967),
  ((8, 60), 8, 19, 968),
  ((8, 291), 8, 20, 969),
  ((8, 63), 8, 21, 970),
  ((8, 311), 8, 22, 971),
  ((8, 314), 8, 23, 972),
  ((8, 301), 8, 24, 973),
  ((8, 298), 8, 25, 974),
  ((8, 67), 8, 26, 975),
  ((8, 70), 8, 27, 976),
  ((8, 73), 8, 28, 977),
  ((8, 76), 8, 29, 978),
  ((8, 123), 8, 30, 979),
  ((8, 132), 8, 31, 980),
  ((8, 135), 8, 32, 981),
  ((8, 166), 8, 33, 982),
  ((8, 172), 8, 34, 983),
  ((8, 185), 8, 35, 984),
  ((8, 188), 8, 36, 985),
  ((8, 194), 8, 37, 986),
  ((8, 162), 8, 38, 987),
  ((8, 79), 8, 39, 988),
  ((8, 83), 8, 40, 989),
  ((8, 86), 8, 41, 990),
  ((8, 89), 8, 42, 991),
  ((8, 92), 8, 43, 992),
  ((8, 97), 8, 44, 993),
  ((8, 100), 8, 45, 994),
  ((8, 103), 8, 46, 995),
  ((8, 106), 8, 47, 996),
  ((8, 109), 8, 48, 997)]
def zGs9 : List zGT := []
def zGs10 : List zGT := []
def zGs11 : List zGT := []
def zGs12 : List zGT := []
def zGs13 : List zGT := []
def zGs14 : List zGT := []
def zGs15 : List zGT := []
def zGs (o : Nat) : List zGT := match o with
  | 0 => zGs0
  | 1 => zGs1
  | 2 => zGs2
  | 3 => zGs3
  | 4 => zGs4
  | 5 => zGs5
  | 6 => zGs6
  | 7 => zGs7
  | 8 => zGs8
  | 9 => zGs9
  | 10 => zGs10
  | 11 => zGs11
  | 12 => zGs12
  | 13 => zGs13
  | 14 => zGs14
  | 15 => zGs15
  | _ => []
/-- the class sites: class, entry; class (or kind of array); place of the word -/
def zHs : List ((Nat × Nat) × Nat × Nat) := [((9, 7), 7, 99), ((7, 7), 3, 107), ((7, 16), 1, 137), ((7, 23), 0, 185), ((7, 32), 6, 215), ((6, 9), 2, 221), ((6, 18), 5, 246), ((7, 44), 4, 327), ((9, 10), 8, 939), ((8, 16), 25, 945), ((8, 95), 26, 947)]
def zKs : List ((Nat × Nat) × Int32 × Nat) := [((10, 265), (1431655765), 837), ((10, 266), (858993459), 838), ((10, 267), (252645135), 839), ((7, 326), (1103515245), 857), ((8, 382), (1103515245), 1399)]
def zLs : List ((Nat × Nat) × Int64 × Nat) := [((7, 112), (-2), 617), ((8, 258), (-2), 1241)]
/-- the texts: class, entry; which text (its cell is 3 more) -/
def zXs : List ((Nat × Nat) × Nat) := [((3, 117), 0), ((3, 119), 1), ((3, 121), 2), ((3, 123), 3), ((3, 125), 4), ((3, 127), 5), ((8, 146), 0), ((8, 152), 1), ((8, 154), 2), ((8, 156), 3), ((8, 158), 4), ((8, 160), 5)]
def zNs : List ((Nat × Nat) × Nat × Nat) := [((7, 9), 1, 109), ((7, 22), 2, 140), ((6, 32), 7, 249), ((7, 50), 8, 330), ((3, 51), 10, 403), ((3, 97), 26, 495), ((3, 86), 27, 498), ((1, 37), 35, 530), ((1, 59), 26, 557), ((2, 69), 35, 576), ((5, 84), 10, 670), ((6, 88), 35, 689), ((6, 51), 26, 796), ((6, 176), 60, 797), ((6, 183), 10, 802), ((6, 47), 93, 808), ((4, 37), 10, 912)]
theorem zmx : lw_tbl[193]? = some (.code Lib.Math.max.name Lib.Math.max.code 2 (some .int)) := by decide +kernel
theorem zmn : lw_tbl[905]? = some (.code Lib.Math.min.name Lib.Math.min.code 2 (some .int)) := by decide +kernel
def zUnP : Nat := 631
theorem zUnW : lw_tbl[zUnP]? = some (.fieldLink "SagaDesk" 300 "SagaDesk" "UNDER" "[I") := by decide +kernel
def zXt : List String := ["add", "take", "move", "hold", "swap", "mark"]
