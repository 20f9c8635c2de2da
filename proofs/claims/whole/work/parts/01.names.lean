def RX0 : String := "KiteHire$Hut"
def TX0 : u_T := fun k => match k with
  | 0 => ("KiteHire$Hut", "winds", "LKiteHire$Table;", true)
  | 1 => ("KiteHire$Hut", "settings", "LKiteHire$Table;", true)
  | 2 => ("KiteHire$Hut", "kites", "LKiteHire$Table;", true)
  | 3 => ("KiteHire$Hut", "spools", "LKiteHire$Table;", true)
  | 4 => ("KiteHire$Hut", "tails", "LKiteHire$Table;", true)
  | 5 => ("KiteHire$Hut", "hires", "LKiteHire$Table;", true)
  | 6 => ("KiteHire$Hut", "ended", "LKiteHire$Table;", true)
  | 7 => ("KiteHire$Hut", "ways", "LKiteHire$Table;", true)
  | 8 => ("KiteHire$Hut", "now", "I", false)
  | 9 => ("KiteHire$Hut", "kitesCame", "I", false)
  | 10 => ("KiteHire$Hut", "spoolsCame", "I", false)
  | 11 => ("KiteHire$Hut", "hiresCame", "I", false)
  | 12 => ("KiteHire$Hut", "hiresOut", "I", false)
  | 13 => ("KiteHire$Hut", "endings", "I", false)
  | 14 => ("KiteHire$Hut", "coins", "I", false)
  | _ => ("KiteHire$Hut", "flown", "I", false)
def tyX0 : Nat → FieldType := fun k => match k with
  | 0 => .object "KiteHire$Table"
  | 1 => .object "KiteHire$Table"
  | 2 => .object "KiteHire$Table"
  | 3 => .object "KiteHire$Table"
  | 4 => .object "KiteHire$Table"
  | 5 => .object "KiteHire$Table"
  | 6 => .object "KiteHire$Table"
  | 7 => .object "KiteHire$Table"
  | 8 => .int
  | 9 => .int
  | 10 => .int
  | 11 => .int
  | 12 => .int
  | 13 => .int
  | 14 => .int
  | _ => .int
abbrev wsX00 : List Cond := u_ws RX0 TX0 16
theorem nmX0 : ∀ a, a < 16 → ∀ b, b < 16 → a ≠ b → (TX0 a).2.1 ≠ (TX0 b).2.1 := by decide +kernel
theorem tyX0_ok : ∀ k, k < 16 → parseFieldDescriptor (TX0 k).2.2.1 = some (tyX0 k) := by decide +kernel
def RX1 : String := "KiteHire$Note"
def TX1 : u_T := fun k => match k with
  | 0 => ("KiteHire$Note", "signs", "[C", true)
  | 1 => ("KiteHire$Note", "parts", "LKiteHire$Table;", true)
  | 2 => ("KiteHire$Note", "length", "I", false)
  | 3 => ("KiteHire$Note", "partCount", "I", false)
  | _ => ("KiteHire$Note", "place", "I", false)
def tyX1 : Nat → FieldType := fun k => match k with
  | 0 => .array .char
  | 1 => .object "KiteHire$Table"
  | 2 => .int
  | 3 => .int
  | _ => .int
abbrev wsX10 : List Cond := u_ws RX1 TX1 5
theorem nmX1 : ∀ a, a < 5 → ∀ b, b < 5 → a ≠ b → (TX1 a).2.1 ≠ (TX1 b).2.1 := by decide +kernel
theorem tyX1_ok : ∀ k, k < 5 → parseFieldDescriptor (TX1 k).2.2.1 = some (tyX1 k) := by decide +kernel
def RX2 : String := "KiteHire$Past"
def TX2 : u_T := fun k => match k with
  | 0 => ("KiteHire$Past", "states", "[LKiteHire$Hut;", true)
  | 1 => ("KiteHire$Past", "latest", "I", false)
  | _ => ("KiteHire$Past", "held", "I", false)
def tyX2 : Nat → FieldType := fun k => match k with
  | 0 => .array (.object "KiteHire$Hut")
  | 1 => .int
  | _ => .int
abbrev wsX20 : List Cond := u_ws RX2 TX2 3
theorem nmX2 : ∀ a, a < 3 → ∀ b, b < 3 → a ≠ b → (TX2 a).2.1 ≠ (TX2 b).2.1 := by decide +kernel
theorem tyX2_ok : ∀ k, k < 3 → parseFieldDescriptor (TX2 k).2.2.1 = some (tyX2 k) := by decide +kernel
def RX3 : String := "KiteHire$Table"
def TX3 : u_T := fun k => match k with
  | 0 => ("KiteHire$Table", "columns", "I", true)
  | _ => ("KiteHire$Table", "cells", "[I", true)
def tyX3 : Nat → FieldType := fun k => match k with
  | 0 => .int
  | _ => .array .int
abbrev wsX30 : List Cond := u_ws RX3 TX3 2
theorem nmX3 : ∀ a, a < 2 → ∀ b, b < 2 → a ≠ b → (TX3 a).2.1 ≠ (TX3 b).2.1 := by decide +kernel
theorem tyX3_ok : ∀ k, k < 2 → parseFieldDescriptor (TX3 k).2.2.1 = some (tyX3 k) := by decide +kernel
def RX4 : String := "KiteHire"
def TX4 : u_T := fun k => match k with
  | 0 => ("KiteHire", "hut", "LKiteHire$Hut;", true)
  | 1 => ("KiteHire", "trial", "LKiteHire$Hut;", true)
  | 2 => ("KiteHire", "kept", "LKiteHire$Hut;", true)
  | 3 => ("KiteHire", "past", "LKiteHire$Past;", true)
  | 4 => ("KiteHire", "note", "LKiteHire$Note;", true)
  | _ => ("KiteHire", "anyKept", "Z", false)
def tyX4 : Nat → FieldType := fun k => match k with
  | 0 => .object "KiteHire$Hut"
  | 1 => .object "KiteHire$Hut"
  | 2 => .object "KiteHire$Hut"
  | 3 => .object "KiteHire$Past"
  | 4 => .object "KiteHire$Note"
  | _ => .boolean
abbrev wsX40 : List Cond := u_ws RX4 TX4 6
theorem nmX4 : ∀ a, a < 6 → ∀ b, b < 6 → a ≠ b → (TX4 a).2.1 ≠ (TX4 b).2.1 := by decide +kernel
theorem tyX4_ok : ∀ k, k < 6 → parseFieldDescriptor (TX4 k).2.2.1 = some (tyX4 k) := by decide +kernel
def RX5 : String := "KiteHireModel"
def TX5 : u_T := fun k => match k with
  | 0 => ("KiteHireModel", "s", "[I", true)
  | 1 => ("KiteHireModel", "aside", "[I", true)
  | 2 => ("KiteHireModel", "ahead", "[I", true)
  | 3 => ("KiteHireModel", "snapshot", "[I", true)
  | 4 => ("KiteHireModel", "isKept", "Z", false)
  | 5 => ("KiteHireModel", "before", "[I", true)
  | 6 => ("KiteHireModel", "known", "I", false)
  | 7 => ("KiteHireModel", "text", "[I", true)
  | 8 => ("KiteHireModel", "length", "I", false)
  | 9 => ("KiteHireModel", "position", "I", false)
  | 10 => ("KiteHireModel", "isWrong", "Z", false)
  | 11 => ("KiteHireModel", "part", "[I", true)
  | 12 => ("KiteHireModel", "from", "I", false)
  | _ => ("KiteHireModel", "stop", "I", false)
def tyX5 : Nat → FieldType := fun k => match k with
  | 0 => .array .int
  | 1 => .array .int
  | 2 => .array .int
  | 3 => .array .int
  | 4 => .boolean
  | 5 => .array .int
  | 6 => .int
  | 7 => .array .int
  | 8 => .int
  | 9 => .int
  | 10 => .boolean
  | 11 => .array .int
  | 12 => .int
  | _ => .int
abbrev wsX50 : List Cond := u_ws RX5 TX5 14
theorem nmX5 : ∀ a, a < 14 → ∀ b, b < 14 → a ≠ b → (TX5 a).2.1 ≠ (TX5 b).2.1 := by decide +kernel
theorem tyX5_ok : ∀ k, k < 14 → parseFieldDescriptor (TX5 k).2.2.1 = some (tyX5 k) := by decide +kernel
abbrev vwCl : List vw_C := [(RX0, TX0, 16), (RX1, TX1, 5), (RX2, TX2, 3), (RX3, TX3, 2), (RX4, TX4, 6), (RX5, TX5, 14)]
/-- the classes by number -/
def cn : Nat → String := fun k => match k with
  | 0 => "KiteHire$Hut"
  | 1 => "KiteHire$Note"
  | 2 => "KiteHire$Past"
  | 3 => "KiteHire$Table"
  | 4 => "KiteHire"
  | 5 => "KiteHireModel"
  | 6 => "java/lang/Integer"
  | 7 => "java/lang/Math"
  | 8 => "KiteHireLaw"
  | _ => ""
/-- the methods by number: name, code, locals, answer, class, depth, arguments without the object, whether static -/
def mtab : List (MethodName × ByteArray × Nat × Option FieldType × Nat × Nat × Nat × Bool) := [
  (⟨"java/lang/Math", "max", "(II)I"⟩, prog_9_method_65_code, 2, (some (.int)), 7, 0, 2, true), -- 0
  (⟨"java/lang/Math", "min", "(II)I"⟩, prog_9_method_69_code, 2, (some (.int)), 7, 0, 2, true), -- 1
  (⟨"java/lang/Integer", "bitCount", "(I)I"⟩, prog_8_method_49_code, 1, (some (.int)), 6, 0, 1, true), -- 2
  (⟨"KiteHire$Table", "put", "(III)V"⟩, prog_5_method_3_code, 5, none, 3, 0, 3, false), -- 3
  (⟨"KiteHire$Table", "at", "(II)I"⟩, prog_5_method_2_code, 4, (some (.int)), 3, 0, 2, false), -- 4
  (⟨"KiteHire$Table", "add", "(III)V"⟩, prog_5_method_4_code, 5, none, 3, 0, 3, false), -- 5
  (⟨"KiteHire$Table", "dropRow", "(I)V"⟩, prog_5_method_5_code, 4, none, 3, 0, 1, false), -- 6
  (⟨"KiteHire$Table", "<init>", "(II)V"⟩, prog_5_method_1_code, 3, none, 3, 1, 2, false), -- 7
  (⟨"KiteHire$Table", "copyFrom", "(LKiteHire$Table;)V"⟩, prog_5_method_6_code, 3, none, 3, 1, 1, false), -- 8
  (⟨"KiteHire$Hut", "windAt", "(I)I"⟩, prog_2_method_4_code, 2, (some (.int)), 0, 1, 1, false), -- 9
  (⟨"KiteHire$Hut", "foresee", "(III)V"⟩, prog_2_method_6_code, 5, none, 0, 1, 3, false), -- 10
  (⟨"KiteHire$Hut", "addKite", "(IIII)I"⟩, prog_2_method_12_code, 6, (some (.int)), 0, 1, 4, false), -- 11
  (⟨"KiteHire$Hut", "addSpool", "(I)I"⟩, prog_2_method_13_code, 3, (some (.int)), 0, 1, 1, false), -- 12
  (⟨"KiteHire$Hut", "tailsOfColour", "(I)I"⟩, prog_2_method_14_code, 2, (some (.int)), 0, 1, 1, false), -- 13
  (⟨"KiteHire$Hut", "setting", "(I)I"⟩, prog_2_method_3_code, 2, (some (.int)), 0, 1, 1, false), -- 14
  (⟨"KiteHire$Hut", "isBetterSpool", "(II)Z"⟩, prog_2_method_18_code, 5, (some (.boolean)), 0, 1, 2, false), -- 15
  (⟨"KiteHire$Hut", "anyTailWanting", "(I)Z"⟩, prog_2_method_16_code, 3, (some (.boolean)), 0, 1, 1, false), -- 16
  (⟨"KiteHire$Hut", "moveTails", "(III)V"⟩, prog_2_method_15_code, 6, none, 0, 1, 3, false), -- 17
  (⟨"KiteHire$Hut", "priceOfHour", "(I)I"⟩, prog_2_method_23_code, 2, (some (.int)), 0, 1, 1, false), -- 18
  (⟨"KiteHire$Hut", "takeCoins", "(II)V"⟩, prog_2_method_25_code, 3, none, 0, 1, 2, false), -- 19
  (⟨"KiteHire$Hut", "rowOfHire", "(I)I"⟩, prog_2_method_22_code, 3, (some (.int)), 0, 1, 1, false), -- 20
  (⟨"KiteHire$Hut", "kitesThatAre", "(I)I"⟩, prog_2_method_33_code, 4, (some (.int)), 0, 1, 1, false), -- 21
  (⟨"KiteHire$Hut", "sumOfSpools", "(I)I"⟩, prog_2_method_34_code, 4, (some (.int)), 0, 1, 1, false), -- 22
  (⟨"KiteHire$Hut", "<init>", "()V"⟩, prog_2_method_1_code, 2, none, 0, 2, 0, false), -- 23
  (⟨"KiteHire$Hut", "otherWinds", "(III)I"⟩, prog_2_method_5_code, 6, (some (.int)), 0, 2, 3, false), -- 24
  (⟨"KiteHire$Hut", "copyFrom", "(LKiteHire$Hut;)V"⟩, prog_2_method_2_code, 2, none, 0, 2, 1, false), -- 25
  (⟨"KiteHire$Hut", "tooWindy", "(II)Z"⟩, prog_2_method_8_code, 3, (some (.boolean)), 0, 2, 2, false), -- 26
  (⟨"KiteHire$Hut", "tooCalm", "(II)Z"⟩, prog_2_method_10_code, 3, (some (.boolean)), 0, 2, 2, false), -- 27
  (⟨"KiteHire$Hut", "spoolFor", "(I)I"⟩, prog_2_method_17_code, 5, (some (.int)), 0, 2, 1, false), -- 28
  (⟨"KiteHire$Hut", "priceOfRest", "(I)I"⟩, prog_2_method_24_code, 2, (some (.int)), 0, 2, 1, false), -- 29
  (⟨"KiteHire$Hut", "endHire", "(III)V"⟩, prog_2_method_26_code, 6, none, 0, 2, 3, false), -- 30
  (⟨"KiteHire$Hut", "wearSnaps", "(I)Z"⟩, prog_2_method_29_code, 4, (some (.boolean)), 0, 2, 1, false), -- 31
  (⟨"KiteHire$Hut", "flagIsUp", "(I)Z"⟩, prog_2_method_7_code, 2, (some (.boolean)), 0, 2, 1, false), -- 32
  (⟨"KiteHire$Hut", "anyTooWindy", "(III)Z"⟩, prog_2_method_9_code, 5, (some (.boolean)), 0, 3, 3, false), -- 33
  (⟨"KiteHire$Hut", "beginHire", "(IIII)I"⟩, prog_2_method_21_code, 8, (some (.int)), 0, 3, 4, false), -- 34
  (⟨"KiteHire$Hut", "snapLine", "(I)V"⟩, prog_2_method_30_code, 5, none, 0, 3, 1, false), -- 35
  (⟨"KiteHire$Hut", "tally", "(I)I"⟩, prog_2_method_32_code, 2, (some (.int)), 0, 3, 1, false), -- 36
  (⟨"KiteHire$Hut", "flies", "(II)Z"⟩, prog_2_method_11_code, 3, (some (.boolean)), 0, 3, 2, false), -- 37
  (⟨"KiteHire$Hut", "refusal", "(IIII)I"⟩, prog_2_method_19_code, 5, (some (.int)), 0, 4, 4, false), -- 38
  (⟨"KiteHire$Hut", "passHourOf", "(I)V"⟩, prog_2_method_28_code, 3, none, 0, 4, 1, false), -- 39
  (⟨"KiteHire$Hut", "hoursToSnap", "(I)I"⟩, prog_2_method_31_code, 5, (some (.int)), 0, 4, 1, false), -- 40
  (⟨"KiteHire$Hut", "passHour", "()V"⟩, prog_2_method_27_code, 4, none, 0, 5, 0, false), -- 41
  (⟨"KiteHire$Hut", "longestHire", "(II)I"⟩, prog_2_method_20_code, 4, (some (.int)), 0, 5, 2, false), -- 42
  (⟨"KiteHire$Note", "takeSign", "(C)Z"⟩, prog_3_method_7_code, 2, (some (.boolean)), 1, 0, 1, false), -- 43
  (⟨"KiteHire$Note", "digitHere", "()I"⟩, prog_3_method_8_code, 2, (some (.int)), 1, 0, 0, false), -- 44
  (⟨"KiteHire$Note", "append", "(C)Z"⟩, prog_3_method_2_code, 2, (some (.boolean)), 1, 0, 1, false), -- 45
  (⟨"KiteHire$Note", "readNumber", "(III)Z"⟩, prog_3_method_9_code, 6, (some (.boolean)), 1, 1, 3, false), -- 46
  (⟨"KiteHire$Note", "kindOf", "(I)I"⟩, prog_3_method_3_code, 2, (some (.int)), 1, 1, 1, false), -- 47
  (⟨"KiteHire$Note", "numberOf", "(II)I"⟩, prog_3_method_4_code, 3, (some (.int)), 1, 1, 2, false), -- 48
  (⟨"KiteHire$Note", "<init>", "()V"⟩, prog_3_method_1_code, 1, none, 1, 2, 0, false), -- 49
  (⟨"KiteHire$Note", "readPart", "()Z"⟩, prog_3_method_6_code, 1, (some (.boolean)), 1, 2, 0, false), -- 50
  (⟨"KiteHire$Note", "findFault", "()I"⟩, prog_3_method_5_code, 2, (some (.int)), 1, 3, 0, false), -- 51
  (⟨"KiteHire$Past", "stateAt", "(I)LKiteHire$Hut;"⟩, prog_4_method_2_code, 2, (some (.object "KiteHire$Hut")), 2, 0, 1, false), -- 52
  (⟨"KiteHire$Past", "<init>", "()V"⟩, prog_4_method_1_code, 2, none, 2, 3, 0, false), -- 53
  (⟨"KiteHire$Past", "record", "(LKiteHire$Hut;)V"⟩, prog_4_method_3_code, 3, none, 2, 3, 1, false), -- 54
  (⟨"KiteHire$Past", "takeLatest", "(LKiteHire$Hut;)Z"⟩, prog_4_method_4_code, 3, (some (.boolean)), 2, 3, 1, false), -- 55
  (⟨"KiteHire", "within", "(III)Z"⟩, prog_1_method_33_code, 3, (some (.boolean)), 4, 0, 3, true), -- 56
  (⟨"KiteHire", "clearText", "()I"⟩, prog_1_method_13_code, 2, (some (.int)), 4, 0, 0, false), -- 57
  (⟨"KiteHire", "perHour", "()D"⟩, prog_1_method_25_code, 1, (some (.double)), 4, 0, 0, false), -- 58
  (⟨"KiteHire", "isColour", "(I)Z"⟩, prog_1_method_34_code, 1, (some (.boolean)), 4, 1, 1, true), -- 59
  (⟨"KiteHire", "isKite", "(I)Z"⟩, prog_1_method_35_code, 2, (some (.boolean)), 4, 1, 1, false), -- 60
  (⟨"KiteHire", "isSettingValue", "(II)Z"⟩, prog_1_method_36_code, 2, (some (.boolean)), 4, 1, 2, true), -- 61
  (⟨"KiteHire", "type", "(C)I"⟩, prog_1_method_12_code, 2, (some (.int)), 4, 1, 1, false), -- 62
  (⟨"KiteHire", "spoolOf", "(II)I"⟩, prog_1_method_19_code, 3, (some (.int)), 4, 1, 2, false), -- 63
  (⟨"KiteHire", "ended", "(II)I"⟩, prog_1_method_22_code, 3, (some (.int)), 4, 1, 2, false), -- 64
  (⟨"KiteHire", "errorOfParts", "()I"⟩, prog_1_method_37_code, 4, (some (.int)), 4, 2, 0, false), -- 65
  (⟨"KiteHire", "tellParts", "()V"⟩, prog_1_method_38_code, 5, none, 4, 2, 0, false), -- 66
  (⟨"KiteHire", "kiteOf", "(II)I"⟩, prog_1_method_18_code, 3, (some (.int)), 4, 2, 2, false), -- 67
  (⟨"KiteHire", "tailsOf", "(II)I"⟩, prog_1_method_20_code, 3, (some (.int)), 4, 2, 2, false), -- 68
  (⟨"KiteHire", "hireOf", "(II)I"⟩, prog_1_method_21_code, 4, (some (.int)), 4, 2, 2, false), -- 69
  (⟨"KiteHire", "windOf", "(I)I"⟩, prog_1_method_23_code, 2, (some (.int)), 4, 2, 1, false), -- 70
  (⟨"KiteHire", "keep", "()I"⟩, prog_1_method_16_code, 1, (some (.int)), 4, 3, 0, false), -- 71
  (⟨"KiteHire", "<init>", "()V"⟩, prog_1_method_1_code, 1, none, 4, 4, 0, false), -- 72
  (⟨"KiteHire", "wind", "(III)I"⟩, prog_1_method_2_code, 5, (some (.int)), 4, 4, 3, false), -- 73
  (⟨"KiteHire", "kite", "(IIII)I"⟩, prog_1_method_3_code, 5, (some (.int)), 4, 4, 4, false), -- 74
  (⟨"KiteHire", "spool", "(I)I"⟩, prog_1_method_4_code, 2, (some (.int)), 4, 4, 1, false), -- 75
  (⟨"KiteHire", "tails", "(II)I"⟩, prog_1_method_5_code, 3, (some (.int)), 4, 4, 2, false), -- 76
  (⟨"KiteHire", "tellAll", "()I"⟩, prog_1_method_6_code, 3, (some (.int)), 4, 4, 0, false), -- 77
  (⟨"KiteHire", "back", "(II)I"⟩, prog_1_method_8_code, 6, (some (.int)), 4, 4, 2, false), -- 78
  (⟨"KiteHire", "found", "(I)I"⟩, prog_1_method_9_code, 2, (some (.int)), 4, 4, 1, false), -- 79
  (⟨"KiteHire", "set", "(II)I"⟩, prog_1_method_11_code, 4, (some (.int)), 4, 4, 2, false), -- 80
  (⟨"KiteHire", "fault", "()I"⟩, prog_1_method_14_code, 1, (some (.int)), 4, 4, 0, false), -- 81
  (⟨"KiteHire", "undo", "()I"⟩, prog_1_method_15_code, 1, (some (.int)), 4, 4, 0, false), -- 82
  (⟨"KiteHire", "restore", "()I"⟩, prog_1_method_17_code, 1, (some (.int)), 4, 4, 0, false), -- 83
  (⟨"KiteHire", "count", "(I)I"⟩, prog_1_method_24_code, 2, (some (.int)), 4, 4, 1, false), -- 84
  (⟨"KiteHire", "next", "(II)I"⟩, prog_1_method_27_code, 4, (some (.int)), 4, 4, 2, false), -- 85
  (⟨"KiteHire", "flyable", "(I)I"⟩, prog_1_method_30_code, 4, (some (.int)), 4, 4, 1, false), -- 86
  (⟨"KiteHire", "why", "(IIII)I"⟩, prog_1_method_26_code, 5, (some (.int)), 4, 5, 4, false), -- 87
  (⟨"KiteHire", "snapsIn", "(I)I"⟩, prog_1_method_29_code, 3, (some (.int)), 4, 5, 1, false), -- 88
  (⟨"KiteHire", "hire", "(IIII)I"⟩, prog_1_method_7_code, 6, (some (.int)), 4, 6, 4, false), -- 89
  (⟨"KiteHire", "pass", "(I)I"⟩, prog_1_method_10_code, 4, (some (.int)), 4, 6, 1, false), -- 90
  (⟨"KiteHire", "longest", "(II)I"⟩, prog_1_method_28_code, 4, (some (.int)), 4, 6, 2, false), -- 91
  (⟨"KiteHire", "ifPassed", "(II)I"⟩, prog_1_method_31_code, 4, (some (.int)), 4, 6, 2, false), -- 92
  (⟨"KiteHire", "dearest", "(I)I"⟩, prog_1_method_32_code, 6, (some (.int)), 4, 6, 1, false), -- 93
  (⟨"KiteHireModel", "tail", "(II)I"⟩, prog_7_method_6_code, 2, (some (.int)), 5, 0, 2, true), -- 94
  (⟨"KiteHireModel", "in", "(III)Z"⟩, prog_7_method_3_code, 3, (some (.boolean)), 5, 0, 3, true), -- 95
  (⟨"KiteHireModel", "looks", "()V"⟩, prog_7_method_11_code, 2, none, 5, 0, 0, false), -- 96
  (⟨"KiteHireModel", "lays", "(III)I"⟩, prog_7_method_35_code, 6, (some (.int)), 5, 0, 3, false), -- 97
  (⟨"KiteHireModel", "records", "()V"⟩, prog_7_method_12_code, 2, none, 5, 0, 0, false), -- 98
  (⟨"KiteHireModel", "atKite", "(II)I"⟩, prog_7_method_4_code, 2, (some (.int)), 5, 0, 2, true), -- 99
  (⟨"KiteHireModel", "atSpool", "(II)I"⟩, prog_7_method_5_code, 2, (some (.int)), 5, 0, 2, true), -- 100
  (⟨"KiteHireModel", "isRed", "(I)Z"⟩, prog_7_method_16_code, 2, (some (.boolean)), 5, 0, 1, false), -- 101
  (⟨"KiteHireModel", "has", "(II)Z"⟩, prog_7_method_10_code, 2, (some (.boolean)), 5, 0, 2, true), -- 102
  (⟨"KiteHireModel", "atHire", "(II)I"⟩, prog_7_method_7_code, 2, (some (.int)), 5, 0, 2, true), -- 103
  (⟨"KiteHireModel", "bits", "(I)I"⟩, prog_7_method_24_code, 3, (some (.int)), 5, 0, 1, true), -- 104
  (⟨"KiteHireModel", "least", "(I)I"⟩, prog_7_method_45_code, 1, (some (.int)), 5, 0, 1, true), -- 105
  (⟨"KiteHireModel", "most", "(I)I"⟩, prog_7_method_46_code, 1, (some (.int)), 5, 0, 1, true), -- 106
  (⟨"KiteHireModel", "type", "(C)I"⟩, prog_7_method_48_code, 2, (some (.int)), 5, 0, 1, false), -- 107
  (⟨"KiteHireModel", "clearText", "()I"⟩, prog_7_method_49_code, 2, (some (.int)), 5, 0, 0, false), -- 108
  (⟨"KiteHireModel", "undo", "()I"⟩, prog_7_method_59_code, 2, (some (.int)), 5, 0, 0, false), -- 109
  (⟨"KiteHireModel", "keep", "()I"⟩, prog_7_method_60_code, 2, (some (.int)), 5, 0, 0, false), -- 110
  (⟨"KiteHireModel", "perHour", "()D"⟩, prog_7_method_72_code, 1, (some (.double)), 5, 0, 0, false), -- 111
  (⟨"KiteHireModel", "putAside", "()V"⟩, prog_7_method_14_code, 2, none, 5, 0, 0, false), -- 112
  (⟨"KiteHireModel", "putBack", "()V"⟩, prog_7_method_15_code, 2, none, 5, 0, 0, false), -- 113
  (⟨"KiteHireModel", "<init>", "()V"⟩, prog_7_method_1_code, 2, none, 5, 1, 0, false), -- 114
  (⟨"KiteHireModel", "wind", "(III)I"⟩, prog_7_method_36_code, 5, (some (.int)), 5, 1, 3, false), -- 115
  (⟨"KiteHireModel", "know", "()V"⟩, prog_7_method_13_code, 1, none, 5, 1, 0, false), -- 116
  (⟨"KiteHireModel", "comes", "(IIII)I"⟩, prog_7_method_37_code, 6, (some (.int)), 5, 1, 4, false), -- 117
  (⟨"KiteHireModel", "isColour", "(I)Z"⟩, prog_7_method_9_code, 1, (some (.boolean)), 5, 1, 1, true), -- 118
  (⟨"KiteHireModel", "isKite", "(I)Z"⟩, prog_7_method_8_code, 2, (some (.boolean)), 5, 1, 1, false), -- 119
  (⟨"KiteHireModel", "isHire", "(III)Z"⟩, prog_7_method_34_code, 3, (some (.boolean)), 5, 1, 3, true), -- 120
  (⟨"KiteHireModel", "isTooMuch", "(II)Z"⟩, prog_7_method_17_code, 3, (some (.boolean)), 5, 1, 2, false), -- 121
  (⟨"KiteHireModel", "spoolFor", "(I)I"⟩, prog_7_method_30_code, 7, (some (.int)), 5, 1, 1, false), -- 122
  (⟨"KiteHireModel", "lacksTails", "(I)Z"⟩, prog_7_method_31_code, 4, (some (.boolean)), 5, 1, 1, false), -- 123
  (⟨"KiteHireModel", "pays", "(II)V"⟩, prog_7_method_22_code, 3, none, 5, 1, 2, false), -- 124
  (⟨"KiteHireModel", "placeOf", "(I)I"⟩, prog_7_method_19_code, 4, (some (.int)), 5, 1, 1, false), -- 125
  (⟨"KiteHireModel", "of", "(II)I"⟩, prog_7_method_20_code, 3, (some (.int)), 5, 1, 2, false), -- 126
  (⟨"KiteHireModel", "tailsGo", "(II)V"⟩, prog_7_method_23_code, 4, none, 5, 1, 2, false), -- 127
  (⟨"KiteHireModel", "takes", "(II)I"⟩, prog_7_method_51_code, 4, (some (.int)), 5, 1, 2, false), -- 128
  (⟨"KiteHireModel", "isNext", "(II)Z"⟩, prog_7_method_50_code, 3, (some (.boolean)), 5, 1, 2, false), -- 129
  (⟨"KiteHireModel", "spoolOf", "(II)I"⟩, prog_7_method_64_code, 3, (some (.int)), 5, 1, 2, false), -- 130
  (⟨"KiteHireModel", "ended", "(II)I"⟩, prog_7_method_67_code, 3, (some (.int)), 5, 1, 2, false), -- 131
  (⟨"KiteHireModel", "windOf", "(I)I"⟩, prog_7_method_68_code, 2, (some (.int)), 5, 1, 1, false), -- 132
  (⟨"KiteHireModel", "kitesThatAre", "(I)I"⟩, prog_7_method_69_code, 4, (some (.int)), 5, 1, 1, false), -- 133
  (⟨"KiteHireModel", "allMetres", "()I"⟩, prog_7_method_70_code, 3, (some (.int)), 5, 1, 0, false), -- 134
  (⟨"KiteHireModel", "kite", "(IIII)I"⟩, prog_7_method_38_code, 5, (some (.int)), 5, 2, 4, false), -- 135
  (⟨"KiteHireModel", "spool", "(I)I"⟩, prog_7_method_39_code, 3, (some (.int)), 5, 2, 1, false), -- 136
  (⟨"KiteHireModel", "tails", "(II)I"⟩, prog_7_method_40_code, 3, (some (.int)), 5, 2, 2, false), -- 137
  (⟨"KiteHireModel", "isCalled", "(III)Z"⟩, prog_7_method_32_code, 6, (some (.boolean)), 5, 2, 3, false), -- 138
  (⟨"KiteHireModel", "priceOf", "(I)I"⟩, prog_7_method_21_code, 2, (some (.int)), 5, 2, 1, false), -- 139
  (⟨"KiteHireModel", "ends", "(II)V"⟩, prog_7_method_25_code, 4, none, 5, 2, 2, false), -- 140
  (⟨"KiteHireModel", "found", "(I)I"⟩, prog_7_method_43_code, 2, (some (.int)), 5, 2, 1, false), -- 141
  (⟨"KiteHireModel", "flies", "(II)Z"⟩, prog_7_method_18_code, 3, (some (.boolean)), 5, 2, 2, false), -- 142
  (⟨"KiteHireModel", "set", "(II)I"⟩, prog_7_method_47_code, 4, (some (.int)), 5, 2, 2, false), -- 143
  (⟨"KiteHireModel", "takesNumber", "(II)I"⟩, prog_7_method_52_code, 5, (some (.int)), 5, 2, 2, false), -- 144
  (⟨"KiteHireModel", "does", "()I"⟩, prog_7_method_55_code, 2, (some (.int)), 5, 2, 0, false), -- 145
  (⟨"KiteHireModel", "restore", "()I"⟩, prog_7_method_61_code, 2, (some (.int)), 5, 2, 0, false), -- 146
  (⟨"KiteHireModel", "hireWith", "(I)I"⟩, prog_7_method_62_code, 4, (some (.int)), 5, 2, 1, false), -- 147
  (⟨"KiteHireModel", "tailsOf", "(II)I"⟩, prog_7_method_65_code, 3, (some (.int)), 5, 2, 2, false), -- 148
  (⟨"KiteHireModel", "hireOf", "(II)I"⟩, prog_7_method_66_code, 4, (some (.int)), 5, 2, 2, false), -- 149
  (⟨"KiteHireModel", "count", "(I)I"⟩, prog_7_method_71_code, 2, (some (.int)), 5, 2, 1, false), -- 150
  (⟨"KiteHireModel", "reason", "(IIII)I"⟩, prog_7_method_33_code, 6, (some (.int)), 5, 3, 4, false), -- 151
  (⟨"KiteHireModel", "comesBack", "(I)V"⟩, prog_7_method_26_code, 2, none, 5, 3, 1, false), -- 152
  (⟨"KiteHireModel", "snaps", "(I)V"⟩, prog_7_method_27_code, 3, none, 5, 3, 1, false), -- 153
  (⟨"KiteHireModel", "takesBehind", "(III)I"⟩, prog_7_method_53_code, 5, (some (.int)), 5, 3, 3, false), -- 154
  (⟨"KiteHireModel", "kiteOf", "(II)I"⟩, prog_7_method_63_code, 3, (some (.int)), 5, 3, 2, false), -- 155
  (⟨"KiteHireModel", "next", "(II)I"⟩, prog_7_method_74_code, 4, (some (.int)), 5, 3, 2, false), -- 156
  (⟨"KiteHireModel", "snapsIn", "(I)I"⟩, prog_7_method_77_code, 6, (some (.int)), 5, 3, 1, false), -- 157
  (⟨"KiteHireModel", "flyable", "(I)I"⟩, prog_7_method_78_code, 4, (some (.int)), 5, 3, 1, false), -- 158
  (⟨"KiteHireModel", "hire", "(IIII)I"⟩, prog_7_method_41_code, 9, (some (.int)), 5, 4, 4, false), -- 159
  (⟨"KiteHireModel", "back", "(II)I"⟩, prog_7_method_42_code, 6, (some (.int)), 5, 4, 2, false), -- 160
  (⟨"KiteHireModel", "hourOf", "(I)Z"⟩, prog_7_method_28_code, 5, (some (.boolean)), 5, 4, 1, false), -- 161
  (⟨"KiteHireModel", "readPart", "()V"⟩, prog_7_method_54_code, 2, none, 5, 4, 0, false), -- 162
  (⟨"KiteHireModel", "why", "(IIII)I"⟩, prog_7_method_73_code, 5, (some (.int)), 5, 4, 4, false), -- 163
  (⟨"KiteHireModel", "longestOf", "(II)I"⟩, prog_7_method_75_code, 5, (some (.int)), 5, 4, 2, false), -- 164
  (⟨"KiteHireModel", "passes", "(I)I"⟩, prog_7_method_29_code, 6, (some (.int)), 5, 5, 1, false), -- 165
  (⟨"KiteHireModel", "goes", "(Z)I"⟩, prog_7_method_56_code, 5, (some (.int)), 5, 5, 1, false), -- 166
  (⟨"KiteHireModel", "longest", "(II)I"⟩, prog_7_method_76_code, 3, (some (.int)), 5, 5, 2, false), -- 167
  (⟨"KiteHireModel", "dearest", "(I)I"⟩, prog_7_method_80_code, 7, (some (.int)), 5, 5, 1, false), -- 168
  (⟨"KiteHireModel", "pass", "(I)I"⟩, prog_7_method_44_code, 2, (some (.int)), 5, 6, 1, false), -- 169
  (⟨"KiteHireModel", "fault", "()I"⟩, prog_7_method_57_code, 2, (some (.int)), 5, 6, 0, false), -- 170
  (⟨"KiteHireModel", "tellAll", "()I"⟩, prog_7_method_58_code, 4, (some (.int)), 5, 6, 0, false), -- 171
  (⟨"KiteHireModel", "ifPassed", "(II)I"⟩, prog_7_method_79_code, 7, (some (.int)), 5, 6, 2, false), -- 172
  (⟨"KiteHireLaw", "law", "([I)Z"⟩, code, 8, (some .boolean), 8, 7, 1, true)] -- 173
abbrev iJ_max : Nat := 0
abbrev iJ_min : Nat := 1
abbrev iJ_bitCount : Nat := 2
abbrev iT_put : Nat := 3
abbrev iT_at : Nat := 4
abbrev iT_add : Nat := 5
abbrev iT_dropRow : Nat := 6
abbrev iT_init : Nat := 7
abbrev iT_copyFrom : Nat := 8
abbrev iH_windAt : Nat := 9
abbrev iH_foresee : Nat := 10
abbrev iH_addKite : Nat := 11
abbrev iH_addSpool : Nat := 12
abbrev iH_tailsOfColour : Nat := 13
abbrev iH_setting : Nat := 14
abbrev iH_isBetterSpool : Nat := 15
abbrev iH_anyTailWanting : Nat := 16
abbrev iH_moveTails : Nat := 17
abbrev iH_priceOfHour : Nat := 18
abbrev iH_takeCoins : Nat := 19
abbrev iH_rowOfHire : Nat := 20
abbrev iH_kitesThatAre : Nat := 21
abbrev iH_sumOfSpools : Nat := 22
abbrev iH_init : Nat := 23
abbrev iH_otherWinds : Nat := 24
abbrev iH_copyFrom : Nat := 25
abbrev iH_tooWindy : Nat := 26
abbrev iH_tooCalm : Nat := 27
abbrev iH_spoolFor : Nat := 28
abbrev iH_priceOfRest : Nat := 29
abbrev iH_endHire : Nat := 30
abbrev iH_wearSnaps : Nat := 31
abbrev iH_flagIsUp : Nat := 32
abbrev iH_anyTooWindy : Nat := 33
abbrev iH_beginHire : Nat := 34
abbrev iH_snapLine : Nat := 35
abbrev iH_tally : Nat := 36
abbrev iH_flies : Nat := 37
abbrev iH_refusal : Nat := 38
abbrev iH_passHourOf : Nat := 39
abbrev iH_hoursToSnap : Nat := 40
abbrev iH_passHour : Nat := 41
abbrev iH_longestHire : Nat := 42
abbrev iN_takeSign : Nat := 43
abbrev iN_digitHere : Nat := 44
abbrev iN_append : Nat := 45
abbrev iN_readNumber : Nat := 46
abbrev iN_kindOf : Nat := 47
abbrev iN_numberOf : Nat := 48
abbrev iN_init : Nat := 49
abbrev iN_readPart : Nat := 50
abbrev iN_findFault : Nat := 51
abbrev iP_stateAt : Nat := 52
abbrev iP_init : Nat := 53
abbrev iP_record : Nat := 54
abbrev iP_takeLatest : Nat := 55
abbrev iX_within : Nat := 56
abbrev iX_clearText : Nat := 57
abbrev iX_perHour : Nat := 58
abbrev iX_isColour : Nat := 59
abbrev iX_isKite : Nat := 60
abbrev iX_isSettingValue : Nat := 61
abbrev iX_type : Nat := 62
abbrev iX_spoolOf : Nat := 63
abbrev iX_ended : Nat := 64
abbrev iX_errorOfParts : Nat := 65
abbrev iX_tellParts : Nat := 66
abbrev iX_kiteOf : Nat := 67
abbrev iX_tailsOf : Nat := 68
abbrev iX_hireOf : Nat := 69
abbrev iX_windOf : Nat := 70
abbrev iX_keep : Nat := 71
abbrev iX_init : Nat := 72
abbrev iX_wind : Nat := 73
abbrev iX_kite : Nat := 74
abbrev iX_spool : Nat := 75
abbrev iX_tails : Nat := 76
abbrev iX_tellAll : Nat := 77
abbrev iX_back : Nat := 78
abbrev iX_found : Nat := 79
abbrev iX_set : Nat := 80
abbrev iX_fault : Nat := 81
abbrev iX_undo : Nat := 82
abbrev iX_restore : Nat := 83
abbrev iX_count : Nat := 84
abbrev iX_next : Nat := 85
abbrev iX_flyable : Nat := 86
abbrev iX_why : Nat := 87
abbrev iX_snapsIn : Nat := 88
abbrev iX_hire : Nat := 89
abbrev iX_pass : Nat := 90
abbrev iX_longest : Nat := 91
abbrev iX_ifPassed : Nat := 92
abbrev iX_dearest : Nat := 93
abbrev iM_tail : Nat := 94
abbrev iM_in : Nat := 95
abbrev iM_looks : Nat := 96
abbrev iM_lays : Nat := 97
abbrev iM_records : Nat := 98
abbrev iM_atKite : Nat := 99
abbrev iM_atSpool : Nat := 100
abbrev iM_isRed : Nat := 101
abbrev iM_has : Nat := 102
abbrev iM_atHire : Nat := 103
abbrev iM_bits : Nat := 104
abbrev iM_least : Nat := 105
abbrev iM_most : Nat := 106
abbrev iM_type : Nat := 107
abbrev iM_clearText : Nat := 108
abbrev iM_undo : Nat := 109
abbrev iM_keep : Nat := 110
abbrev iM_perHour : Nat := 111
abbrev iM_putAside : Nat := 112
abbrev iM_putBack : Nat := 113
abbrev iM_init : Nat := 114
abbrev iM_wind : Nat := 115
abbrev iM_know : Nat := 116
abbrev iM_comes : Nat := 117
abbrev iM_isColour : Nat := 118
abbrev iM_isKite : Nat := 119
abbrev iM_isHire : Nat := 120
abbrev iM_isTooMuch : Nat := 121
abbrev iM_spoolFor : Nat := 122
abbrev iM_lacksTails : Nat := 123
abbrev iM_pays : Nat := 124
abbrev iM_placeOf : Nat := 125
abbrev iM_of : Nat := 126
abbrev iM_tailsGo : Nat := 127
abbrev iM_takes : Nat := 128
abbrev iM_isNext : Nat := 129
abbrev iM_spoolOf : Nat := 130
abbrev iM_ended : Nat := 131
abbrev iM_windOf : Nat := 132
abbrev iM_kitesThatAre : Nat := 133
abbrev iM_allMetres : Nat := 134
abbrev iM_kite : Nat := 135
abbrev iM_spool : Nat := 136
abbrev iM_tails : Nat := 137
abbrev iM_isCalled : Nat := 138
abbrev iM_priceOf : Nat := 139
abbrev iM_ends : Nat := 140
abbrev iM_found : Nat := 141
abbrev iM_flies : Nat := 142
abbrev iM_set : Nat := 143
abbrev iM_takesNumber : Nat := 144
abbrev iM_does : Nat := 145
abbrev iM_restore : Nat := 146
abbrev iM_hireWith : Nat := 147
abbrev iM_tailsOf : Nat := 148
abbrev iM_hireOf : Nat := 149
abbrev iM_count : Nat := 150
abbrev iM_reason : Nat := 151
abbrev iM_comesBack : Nat := 152
abbrev iM_snaps : Nat := 153
abbrev iM_takesBehind : Nat := 154
abbrev iM_kiteOf : Nat := 155
abbrev iM_next : Nat := 156
abbrev iM_snapsIn : Nat := 157
abbrev iM_flyable : Nat := 158
abbrev iM_hire : Nat := 159
abbrev iM_back : Nat := 160
abbrev iM_hourOf : Nat := 161
abbrev iM_readPart : Nat := 162
abbrev iM_why : Nat := 163
abbrev iM_longestOf : Nat := 164
abbrev iM_passes : Nat := 165
abbrev iM_goes : Nat := 166
abbrev iM_longest : Nat := 167
abbrev iM_dearest : Nat := 168
abbrev iM_pass : Nat := 169
abbrev iM_fault : Nat := 170
abbrev iM_tellAll : Nat := 171
abbrev iM_ifPassed : Nat := 172
abbrev iL_law : Nat := 173
/-- where their words stand: code, instance or static, selects (0 for a static or a constructor), initialized -/
def mwds : List (Nat × Nat × Nat × Nat) := [
  (85, 84, 0, 57), (266, 265, 0, 57), (425, 424, 0, 62), (97, 95, 96, 56), (247, 245, 246, 56), (305, 303, 304, 56), (438, 436, 437, 56), (81, 80, 0, 56), (263, 261, 262, 56), (243, 241, 242, 55), (274, 272, 273, 55), (282, 280, 281, 55), (290, 288, 289, 55), (301, 299, 300, 55), (376, 374, 375, 55), (388, 387, 9, 55), (392, 391, 10, 55), (401, 399, 400, 55), (409, 408, 11, 55), (413, 411, 412, 55), (421, 419, 420, 55), (547, 546, 15, 55), (551, 550, 16, 55), (75, 74, 0, 55), (239, 237, 238, 55), (259, 257, 258, 55), (372, 370, 371, 55), (380, 378, 379, 55), (384, 383, 8, 55), (405, 403, 404, 55), (434, 432, 433, 55), (460, 459, 13, 55), (555, 553, 554, 55), (368, 366, 367, 55), (396, 394, 395, 55), (464, 463, 14, 55), (543, 541, 542, 55), (587, 585, 586, 55), (364, 362, 363, 55), (455, 454, 12, 55), (583, 581, 582, 55), (451, 449, 450, 55), (574, 572, 573, 55), (322, 321, 2, 59), (331, 330, 4, 59), (485, 483, 484, 59), (327, 326, 3, 59), (339, 337, 338, 59), (344, 342, 343, 59), (187, 186, 0, 59), (318, 317, 1, 59), (314, 312, 313, 59), (255, 254, 0, 58), (167, 166, 0, 58), (251, 249, 250, 58), (501, 499, 500, 58), (235, 234, 0, 54), (489, 487, 488, 54), (559, 557, 558, 54), (297, 296, 0, 54), (360, 359, 7, 54), (472, 471, 0, 54), (481, 479, 480, 54), (518, 516, 517, 54), (530, 528, 529, 54), (335, 334, 5, 54), (348, 347, 6, 54), (514, 512, 513, 54), (522, 520, 521, 54), (526, 524, 525, 54), (534, 532, 533, 54), (505, 503, 504, 54), (67, 66, 0, 54), (232, 230, 231, 54), (278, 276, 277, 54), (286, 284, 285, 54), (294, 292, 293, 54), (310, 308, 309, 54), (417, 415, 416, 54), (442, 440, 441, 54), (469, 467, 468, 54), (493, 491, 492, 54), (497, 495, 496, 54), (510, 508, 509, 54), (539, 537, 538, 54), (564, 562, 563, 54), (591, 589, 590, 54), (356, 354, 355, 54), (579, 577, 578, 54), (352, 350, 351, 54), (447, 445, 446, 54), (570, 568, 569, 54), (596, 594, 595, 54), (601, 599, 600, 54), (610, 609, 0, 60), (660, 659, 0, 60), (664, 663, 17, 60), (668, 667, 18, 60), (672, 671, 19, 60), (687, 686, 0, 60), (694, 693, 0, 60), (728, 727, 26, 60), (739, 738, 0, 60), (742, 741, 0, 60), (765, 764, 0, 60), (808, 807, 0, 60), (811, 810, 0, 60), (815, 813, 814, 60), (819, 817, 818, 60), (859, 857, 858, 60), (863, 861, 862, 60), (911, 909, 910, 60), (943, 942, 51, 60), (948, 947, 52, 60), (606, 605, 0, 60), (657, 655, 656, 60), (680, 679, 20, 60), (684, 683, 21, 60), (701, 700, 0, 60), (709, 708, 22, 60), (712, 711, 0, 60), (724, 723, 25, 60), (732, 731, 27, 60), (736, 735, 28, 60), (746, 745, 29, 60), (754, 753, 30, 60), (758, 757, 31, 60), (769, 768, 33, 60), (839, 838, 43, 60), (843, 842, 44, 60), (879, 877, 878, 60), (891, 889, 890, 60), (895, 893, 894, 60), (903, 902, 48, 60), (907, 906, 49, 60), (676, 674, 675, 60), (691, 689, 690, 60), (698, 696, 697, 60), (720, 719, 24, 60), (762, 761, 32, 60), (777, 776, 35, 60), (781, 779, 780, 60), (797, 796, 38, 60), (805, 803, 804, 60), (835, 834, 42, 60), (851, 850, 46, 60), (867, 865, 866, 60), (875, 874, 47, 60), (883, 881, 882, 60), (887, 885, 886, 60), (899, 897, 898, 60), (716, 715, 23, 60), (773, 772, 34, 60), (801, 800, 39, 60), (847, 846, 45, 60), (871, 869, 870, 60), (919, 917, 918, 60), (931, 929, 930, 60), (935, 933, 934, 60), (705, 703, 704, 60), (750, 748, 749, 60), (793, 792, 37, 60), (831, 830, 41, 60), (915, 913, 914, 60), (927, 926, 50, 60), (789, 788, 36, 60), (827, 826, 40, 60), (923, 921, 922, 60), (952, 950, 951, 60), (785, 783, 784, 60), (823, 821, 822, 60), (855, 853, 854, 60), (939, 937, 938, 60), (0, 0, 0, 0)]
/-- field links: the class, the entry, the field's class and place, whether a nest mate's, the word -/
def fltab : List (Nat × Nat × Nat × Nat × Bool × Nat) := [(3, 7, 3, 0, false, 86), (3, 19, 3, 1, false, 87), (0, 14, 0, 0, false, 100), (0, 20, 0, 1, false, 101), (0, 23, 0, 2, false, 103), (0, 26, 0, 3, false, 105), (0, 29, 0, 4, false, 107), (0, 32, 0, 5, false, 109), (0, 35, 0, 6, false, 111), (0, 38, 0, 7, false, 113), (0, 53, 0, 8, false, 116), (0, 57, 0, 9, false, 117), (0, 60, 0, 10, false, 119), (0, 63, 0, 11, false, 121), (0, 66, 0, 12, false, 123), (0, 69, 0, 13, false, 124), (0, 72, 0, 14, false, 126), (0, 75, 0, 15, false, 128), (2, 11, 2, 0, false, 172), (2, 18, 2, 1, false, 173), (2, 30, 2, 2, false, 174), (1, 9, 1, 0, false, 191), (1, 20, 1, 1, false, 192), (1, 24, 1, 2, false, 193), (1, 35, 1, 3, false, 195), (1, 32, 1, 4, false, 197), (4, 10, 4, 0, false, 210), (4, 16, 4, 1, false, 211), (4, 19, 4, 2, false, 212), (4, 25, 4, 3, false, 213), (4, 32, 4, 4, false, 214), (4, 172, 4, 5, false, 215), (5, 7, 5, 0, false, 611), (5, 13, 5, 1, false, 612), (5, 16, 5, 2, false, 613), (5, 19, 5, 3, false, 614), (5, 185, 5, 4, false, 615), (5, 22, 5, 5, false, 616), (5, 39, 5, 6, false, 617), (5, 25, 5, 7, false, 618), (5, 146, 5, 8, false, 619), (5, 153, 5, 9, false, 620), (5, 149, 5, 10, false, 621), (5, 28, 5, 11, false, 622), (5, 168, 5, 12, false, 623), (5, 171, 5, 13, false, 624), (4, 149, 0, 1, true, 102), (4, 179, 0, 2, true, 104), (4, 182, 0, 3, true, 106), (4, 77, 0, 4, true, 108), (4, 115, 0, 5, true, 110), (4, 185, 0, 6, true, 112), (4, 219, 0, 7, true, 114), (4, 36, 0, 8, true, 115), (4, 56, 0, 9, true, 118), (4, 63, 0, 10, true, 120), (4, 106, 0, 11, true, 122), (4, 139, 0, 13, true, 125), (4, 197, 0, 14, true, 127), (4, 194, 0, 15, true, 129), (4, 166, 2, 2, true, 175), (4, 159, 1, 2, true, 194), (4, 100, 1, 3, true, 196)]
def sltab : List (Nat × Nat × Nat × Bool × Nat) := [(4, 222, 0, false, 473), (4, 226, 1, false, 475), (0, 45, 2, true, 98)]
/-- method links: the class, the entry, the method (900: arraycopy, 901: Object's constructor), whether a nest mate's, the word -/
def mltab : List (Nat × Nat × Nat × Bool × Nat) := [(3, 1, 901, false, 82), (3, 13, 0, false, 83), (3, 23, 1, false, 264), (3, 26, 900, false, 267), (0, 78, 4, false, 244), (0, 41, 3, false, 94), (0, 96, 5, false, 397), (0, 3, 901, false, 76), (0, 11, 7, false, 79), (0, 82, 9, false, 240), (0, 49, 8, false, 260), (0, 86, 14, false, 373), (0, 99, 15, false, 385), (0, 126, 18, false, 406), (0, 117, 17, false, 398), (0, 129, 6, false, 435), (0, 89, 26, false, 369), (0, 106, 28, false, 381), (0, 120, 29, false, 402), (0, 123, 19, false, 410), (0, 145, 2, false, 465), (0, 136, 30, false, 456), (0, 153, 21, false, 544), (0, 156, 22, false, 548), (0, 159, 32, false, 552), (0, 93, 27, false, 377), (0, 102, 33, false, 365), (0, 109, 16, false, 389), (0, 139, 31, false, 457), (0, 142, 35, false, 461), (0, 150, 37, false, 584), (0, 133, 39, false, 452), (0, 113, 38, false, 575), (1, 54, 44, false, 328), (1, 46, 3, false, 323), (1, 28, 4, false, 340), (1, 3, 901, false, 188), (1, 17, 7, false, 190), (1, 42, 43, false, 319), (1, 50, 46, false, 324), (1, 38, 50, false, 315), (2, 3, 901, false, 168), (2, 17, 23, false, 171), (2, 22, 52, false, 252), (2, 26, 25, false, 256), (2, 33, 1, false, 270), (4, 40, 56, false, 233), (4, 155, 45, false, 482), (4, 86, 4, false, 306), (4, 229, 47, false, 336), (4, 232, 48, false, 341), (4, 52, 10, false, 271), (4, 59, 11, false, 279), (4, 176, 60, false, 357), (4, 70, 59, false, 295), (4, 112, 20, false, 418), (4, 188, 9, false, 535), (4, 169, 25, false, 506), (4, 1, 901, false, 68), (4, 9, 23, false, 73), (4, 24, 53, false, 165), (4, 31, 49, true, 185), (4, 44, 24, false, 236), (4, 48, 54, false, 248), (4, 66, 12, false, 287), (4, 74, 13, false, 298), (4, 81, 5, false, 302), (4, 90, 51, false, 311), (4, 94, 65, false, 332), (4, 97, 66, false, 345), (4, 118, 29, false, 422), (4, 121, 2, false, 423), (4, 126, 14, false, 429), (4, 129, 19, false, 430), (4, 133, 30, false, 431), (4, 136, 17, false, 443), (4, 145, 61, false, 470), (4, 152, 3, false, 477), (4, 162, 55, false, 498), (4, 191, 36, false, 540), (4, 203, 27, false, 565), (4, 206, 33, false, 566), (4, 215, 37, false, 592), (4, 200, 38, false, 361), (4, 212, 40, false, 580), (4, 103, 87, false, 353), (4, 109, 34, false, 393), (4, 142, 41, false, 448), (4, 209, 42, false, 571), (5, 1, 901, false, 607), (5, 31, 94, false, 608), (5, 35, 95, false, 658), (5, 43, 96, false, 661), (5, 111, 97, false, 665), (5, 46, 98, false, 669), (5, 49, 99, false, 685), (5, 52, 101, false, 725), (5, 69, 100, false, 692), (5, 66, 102, false, 737), (5, 60, 103, false, 740), (5, 115, 116, false, 677), (5, 118, 117, false, 681), (5, 122, 118, false, 699), (5, 56, 121, false, 721), (5, 63, 126, false, 755), (5, 140, 105, false, 806), (5, 143, 106, false, 809), (5, 156, 128, false, 836), (5, 159, 129, false, 840), (5, 134, 125, false, 751), (5, 191, 133, false, 900), (5, 194, 134, false, 904), (5, 102, 138, false, 717), (5, 105, 122, false, 729), (5, 108, 123, false, 733), (5, 72, 127, false, 766), (5, 76, 140, false, 774), (5, 79, 104, false, 763), (5, 83, 124, false, 743), (5, 162, 144, false, 832), (5, 125, 119, false, 706), (5, 188, 147, false, 872), (5, 89, 142, false, 794), (5, 128, 120, false, 710), (5, 131, 151, false, 713), (5, 86, 139, false, 759), (5, 96, 152, false, 770), (5, 92, 153, false, 798), (5, 165, 154, false, 844), (5, 99, 161, false, 790), (5, 174, 162, false, 828), (5, 177, 145, false, 848), (5, 197, 164, false, 924), (5, 137, 165, false, 786), (5, 181, 166, false, 824), (5, 200, 112, false, 940), (5, 204, 113, false, 945), (8, 9, 72, false, 65), (8, 12, 114, false, 604), (8, 13, 73, false, 229), (8, 17, 115, false, 654), (8, 18, 74, false, 275), (8, 22, 135, false, 673), (8, 23, 75, false, 283), (8, 27, 136, false, 688), (8, 28, 76, false, 291), (8, 32, 137, false, 695), (8, 33, 77, false, 307), (8, 37, 171, false, 852), (8, 38, 89, false, 349), (8, 41, 159, false, 702), (8, 42, 78, false, 414), (8, 45, 160, false, 747), (8, 46, 79, false, 439), (8, 49, 141, false, 778), (8, 50, 90, false, 444), (8, 53, 169, false, 782), (8, 54, 80, false, 466), (8, 57, 143, false, 802), (8, 58, 62, false, 478), (8, 62, 107, false, 812), (8, 63, 57, false, 486), (8, 66, 108, false, 816), (8, 67, 81, false, 490), (8, 70, 170, false, 820), (8, 71, 82, false, 494), (8, 74, 109, false, 856), (8, 75, 71, false, 502), (8, 78, 110, false, 860), (8, 79, 83, false, 507), (8, 82, 146, false, 864), (8, 83, 67, false, 511), (8, 86, 155, false, 868), (8, 87, 63, false, 515), (8, 90, 130, false, 876), (8, 91, 68, false, 519), (8, 94, 148, false, 880), (8, 95, 69, false, 523), (8, 98, 149, false, 884), (8, 99, 64, false, 527), (8, 102, 131, false, 888), (8, 103, 70, false, 531), (8, 106, 132, false, 892), (8, 107, 84, false, 536), (8, 110, 150, false, 896), (8, 111, 58, false, 556), (8, 115, 111, false, 908), (8, 116, 87, false, 560), (8, 119, 163, false, 912), (8, 120, 85, false, 561), (8, 123, 156, false, 916), (8, 124, 91, false, 567), (8, 127, 167, false, 920), (8, 128, 88, false, 576), (8, 131, 157, false, 928), (8, 132, 86, false, 588), (8, 135, 158, false, 932), (8, 136, 92, false, 593), (8, 139, 172, false, 936), (8, 140, 93, false, 598), (8, 143, 168, false, 949)]
def cltab : List (Nat × Nat × Int32 × Nat) := [(6, 265, 1431655765, 426), (6, 266, 858993459, 427), (6, 267, 252645135, 428), (4, 218, 100000, 597), (5, 203, 100000, 944)]
/-- class links: the class, the entry, the class named, the word, the words that it can be made and is initialized -/
def nltab : List (Nat × Nat × Nat × Nat × Nat × Nat) := [(8, 7, 4, 63, 64, 54), (4, 7, 0, 71, 72, 55), (0, 9, 3, 77, 78, 56), (4, 22, 2, 163, 164, 58), (2, 9, 0, 169, 72, 55), (4, 29, 1, 183, 184, 59), (1, 15, 3, 189, 78, 56), (8, 10, 5, 602, 603, 60)]
