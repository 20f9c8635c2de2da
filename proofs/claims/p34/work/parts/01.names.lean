def RX0 : String := "KiteHire$Hut"
def TX0 : u_T := fun k => match k with
  | 0 => ("KiteHire$Hut", "winds", "LKiteHire$Table;", true)
  | 1 => ("KiteHire$Hut", "settings", "LKiteHire$Table;", true)
  | 2 => ("KiteHire$Hut", "kites", "LKiteHire$Table;", true)
  | 3 => ("KiteHire$Hut", "spools", "LKiteHire$Table;", true)
  | 4 => ("KiteHire$Hut", "tails", "LKiteHire$Table;", true)
  | 5 => ("KiteHire$Hut", "hires", "LKiteHire$Table;", true)
  | 6 => ("KiteHire$Hut", "ended", "LKiteHire$Table;", true)
  | 7 => ("KiteHire$Hut", "ways", "LKiteHire$Table;", true)
  | 8 => ("KiteHire$Hut", "now", "I", false)
  | 9 => ("KiteHire$Hut", "kitesCame", "I", false)
  | 10 => ("KiteHire$Hut", "spoolsCame", "I", false)
  | 11 => ("KiteHire$Hut", "hiresCame", "I", false)
  | 12 => ("KiteHire$Hut", "hiresOut", "I", false)
  | 13 => ("KiteHire$Hut", "endings", "I", false)
  | 14 => ("KiteHire$Hut", "coins", "I", false)
  | _ => ("KiteHire$Hut", "flown", "I", false)
def tyX0 : Nat → FieldType := fun k => match k with
  | 0 => .object "KiteHire$Table"
  | 1 => .object "KiteHire$Table"
  | 2 => .object "KiteHire$Table"
  | 3 => .object "KiteHire$Table"
  | 4 => .object "KiteHire$Table"
  | 5 => .object "KiteHire$Table"
  | 6 => .object "KiteHire$Table"
  | 7 => .object "KiteHire$Table"
  | 8 => .int
  | 9 => .int
  | 10 => .int
  | 11 => .int
  | 12 => .int
  | 13 => .int
  | 14 => .int
  | _ => .int
abbrev wsX00 : List Cond := u_ws RX0 TX0 16
theorem nmX0 : ∀ a, a < 16 → ∀ b, b < 16 → a ≠ b → (TX0 a).2.1 ≠ (TX0 b).2.1 := by decide +kernel
theorem tyX0_ok : ∀ k, k < 16 → parseFieldDescriptor (TX0 k).2.2.1 = some (tyX0 k) := by decide +kernel
def RX1 : String := "KiteHire$Note"
def TX1 : u_T := fun k => match k with
  | 0 => ("KiteHire$Note", "signs", "[C", true)
  | 1 => ("KiteHire$Note", "parts", "LKiteHire$Table;", true)
  | 2 => ("KiteHire$Note", "length", "I", false)
  | 3 => ("KiteHire$Note", "partCount", "I", false)
  | _ => ("KiteHire$Note", "place", "I", false)
def tyX1 : Nat → FieldType := fun k => match k with
  | 0 => .array .char
  | 1 => .object "KiteHire$Table"
  | 2 => .int
  | 3 => .int
  | _ => .int
abbrev wsX10 : List Cond := u_ws RX1 TX1 5
theorem nmX1 : ∀ a, a < 5 → ∀ b, b < 5 → a ≠ b → (TX1 a).2.1 ≠ (TX1 b).2.1 := by decide +kernel
theorem tyX1_ok : ∀ k, k < 5 → parseFieldDescriptor (TX1 k).2.2.1 = some (tyX1 k) := by decide +kernel
def RX2 : String := "KiteHire$Past"
def TX2 : u_T := fun k => match k with
  | 0 => ("KiteHire$Past", "states", "[LKiteHire$Hut;", true)
  | 1 => ("KiteHire$Past", "latest", "I", false)
  | _ => ("KiteHire$Past", "held", "I", false)
def tyX2 : Nat → FieldType := fun k => match k with
  | 0 => .array (.object "KiteHire$Hut")
  | 1 => .int
  | _ => .int
abbrev wsX20 : List Cond := u_ws RX2 TX2 3
theorem nmX2 : ∀ a, a < 3 → ∀ b, b < 3 → a ≠ b → (TX2 a).2.1 ≠ (TX2 b).2.1 := by decide +kernel
theorem tyX2_ok : ∀ k, k < 3 → parseFieldDescriptor (TX2 k).2.2.1 = some (tyX2 k) := by decide +kernel
def RX3 : String := "KiteHire$Table"
def TX3 : u_T := fun k => match k with
  | 0 => ("KiteHire$Table", "columns", "I", true)
  | _ => ("KiteHire$Table", "cells", "[I", true)
def tyX3 : Nat → FieldType := fun k => match k with
  | 0 => .int
  | _ => .array .int
abbrev wsX30 : List Cond := u_ws RX3 TX3 2
theorem nmX3 : ∀ a, a < 2 → ∀ b, b < 2 → a ≠ b → (TX3 a).2.1 ≠ (TX3 b).2.1 := by decide +kernel
theorem tyX3_ok : ∀ k, k < 2 → parseFieldDescriptor (TX3 k).2.2.1 = some (tyX3 k) := by decide +kernel
def RX4 : String := "KiteHire"
def TX4 : u_T := fun k => match k with
  | 0 => ("KiteHire", "hut", "LKiteHire$Hut;", true)
  | 1 => ("KiteHire", "trial", "LKiteHire$Hut;", true)
  | 2 => ("KiteHire", "kept", "LKiteHire$Hut;", true)
  | 3 => ("KiteHire", "past", "LKiteHire$Past;", true)
  | 4 => ("KiteHire", "note", "LKiteHire$Note;", true)
  | _ => ("KiteHire", "anyKept", "Z", false)
def tyX4 : Nat → FieldType := fun k => match k with
  | 0 => .object "KiteHire$Hut"
  | 1 => .object "KiteHire$Hut"
  | 2 => .object "KiteHire$Hut"
  | 3 => .object "KiteHire$Past"
  | 4 => .object "KiteHire$Note"
  | _ => .boolean
abbrev wsX40 : List Cond := u_ws RX4 TX4 6
theorem nmX4 : ∀ a, a < 6 → ∀ b, b < 6 → a ≠ b → (TX4 a).2.1 ≠ (TX4 b).2.1 := by decide +kernel
theorem tyX4_ok : ∀ k, k < 6 → parseFieldDescriptor (TX4 k).2.2.1 = some (tyX4 k) := by decide +kernel
abbrev vwCl : List vw_C := [(RX0, TX0, 16), (RX1, TX1, 5), (RX2, TX2, 3), (RX3, TX3, 2), (RX4, TX4, 6)]
/-- the classes by number -/
def cn : Nat → String := fun k => match k with
  | 0 => "KiteHire$Hut"
  | 1 => "KiteHire$Note"
  | 2 => "KiteHire$Past"
  | 3 => "KiteHire$Table"
  | 4 => "KiteHire"
  | 5 => "KiteHireModel"
  | 6 => "java/lang/Integer"
  | 7 => "java/lang/Math"
  | 8 => "KiteHireLaw"
  | _ => ""
/-- the methods by number: name, code, locals, answer, class, depth, arguments without the object, whether static -/
def mtab : List (MethodName × ByteArray × Nat × Option FieldType × Nat × Nat × Nat × Bool) := [
  (⟨"java/lang/Math", "max", "(II)I"⟩, prog_9_method_65_code, 2, (some (.int)), 7, 0, 2, true), -- 0
  (⟨"java/lang/Math", "min", "(II)I"⟩, prog_9_method_69_code, 2, (some (.int)), 7, 0, 2, true), -- 1
  (⟨"java/lang/Integer", "bitCount", "(I)I"⟩, prog_8_method_49_code, 1, (some (.int)), 6, 0, 1, true), -- 2
  (⟨"KiteHire$Table", "put", "(III)V"⟩, prog_5_method_3_code, 5, none, 3, 0, 3, false), -- 3
  (⟨"KiteHire$Table", "at", "(II)I"⟩, prog_5_method_2_code, 4, (some (.int)), 3, 0, 2, false), -- 4
  (⟨"KiteHire$Table", "add", "(III)V"⟩, prog_5_method_4_code, 5, none, 3, 0, 3, false), -- 5
  (⟨"KiteHire$Table", "dropRow", "(I)V"⟩, prog_5_method_5_code, 4, none, 3, 0, 1, false), -- 6
  (⟨"KiteHire$Table", "<init>", "(II)V"⟩, prog_5_method_1_code, 3, none, 3, 1, 2, false), -- 7
  (⟨"KiteHire$Table", "copyFrom", "(LKiteHire$Table;)V"⟩, prog_5_method_6_code, 3, none, 3, 1, 1, false), -- 8
  (⟨"KiteHire$Hut", "windAt", "(I)I"⟩, prog_2_method_4_code, 2, (some (.int)), 0, 1, 1, false), -- 9
  (⟨"KiteHire$Hut", "foresee", "(III)V"⟩, prog_2_method_6_code, 5, none, 0, 1, 3, false), -- 10
  (⟨"KiteHire$Hut", "addKite", "(IIII)I"⟩, prog_2_method_12_code, 6, (some (.int)), 0, 1, 4, false), -- 11
  (⟨"KiteHire$Hut", "addSpool", "(I)I"⟩, prog_2_method_13_code, 3, (some (.int)), 0, 1, 1, false), -- 12
  (⟨"KiteHire$Hut", "tailsOfColour", "(I)I"⟩, prog_2_method_14_code, 2, (some (.int)), 0, 1, 1, false), -- 13
  (⟨"KiteHire$Hut", "setting", "(I)I"⟩, prog_2_method_3_code, 2, (some (.int)), 0, 1, 1, false), -- 14
  (⟨"KiteHire$Hut", "isBetterSpool", "(II)Z"⟩, prog_2_method_18_code, 5, (some (.boolean)), 0, 1, 2, false), -- 15
  (⟨"KiteHire$Hut", "anyTailWanting", "(I)Z"⟩, prog_2_method_16_code, 3, (some (.boolean)), 0, 1, 1, false), -- 16
  (⟨"KiteHire$Hut", "moveTails", "(III)V"⟩, prog_2_method_15_code, 6, none, 0, 1, 3, false), -- 17
  (⟨"KiteHire$Hut", "priceOfHour", "(I)I"⟩, prog_2_method_23_code, 2, (some (.int)), 0, 1, 1, false), -- 18
  (⟨"KiteHire$Hut", "takeCoins", "(II)V"⟩, prog_2_method_25_code, 3, none, 0, 1, 2, false), -- 19
  (⟨"KiteHire$Hut", "rowOfHire", "(I)I"⟩, prog_2_method_22_code, 3, (some (.int)), 0, 1, 1, false), -- 20
  (⟨"KiteHire$Hut", "kitesThatAre", "(I)I"⟩, prog_2_method_33_code, 4, (some (.int)), 0, 1, 1, false), -- 21
  (⟨"KiteHire$Hut", "sumOfSpools", "(I)I"⟩, prog_2_method_34_code, 4, (some (.int)), 0, 1, 1, false), -- 22
  (⟨"KiteHire$Hut", "<init>", "()V"⟩, prog_2_method_1_code, 2, none, 0, 2, 0, false), -- 23
  (⟨"KiteHire$Hut", "otherWinds", "(III)I"⟩, prog_2_method_5_code, 6, (some (.int)), 0, 2, 3, false), -- 24
  (⟨"KiteHire$Hut", "copyFrom", "(LKiteHire$Hut;)V"⟩, prog_2_method_2_code, 2, none, 0, 2, 1, false), -- 25
  (⟨"KiteHire$Hut", "tooWindy", "(II)Z"⟩, prog_2_method_8_code, 3, (some (.boolean)), 0, 2, 2, false), -- 26
  (⟨"KiteHire$Hut", "tooCalm", "(II)Z"⟩, prog_2_method_10_code, 3, (some (.boolean)), 0, 2, 2, false), -- 27
  (⟨"KiteHire$Hut", "spoolFor", "(I)I"⟩, prog_2_method_17_code, 5, (some (.int)), 0, 2, 1, false), -- 28
  (⟨"KiteHire$Hut", "priceOfRest", "(I)I"⟩, prog_2_method_24_code, 2, (some (.int)), 0, 2, 1, false), -- 29
  (⟨"KiteHire$Hut", "endHire", "(III)V"⟩, prog_2_method_26_code, 6, none, 0, 2, 3, false), -- 30
  (⟨"KiteHire$Hut", "wearSnaps", "(I)Z"⟩, prog_2_method_29_code, 4, (some (.boolean)), 0, 2, 1, false), -- 31
  (⟨"KiteHire$Hut", "flagIsUp", "(I)Z"⟩, prog_2_method_7_code, 2, (some (.boolean)), 0, 2, 1, false), -- 32
  (⟨"KiteHire$Hut", "anyTooWindy", "(III)Z"⟩, prog_2_method_9_code, 5, (some (.boolean)), 0, 3, 3, false), -- 33
  (⟨"KiteHire$Hut", "beginHire", "(IIII)I"⟩, prog_2_method_21_code, 8, (some (.int)), 0, 3, 4, false), -- 34
  (⟨"KiteHire$Hut", "snapLine", "(I)V"⟩, prog_2_method_30_code, 5, none, 0, 3, 1, false), -- 35
  (⟨"KiteHire$Hut", "tally", "(I)I"⟩, prog_2_method_32_code, 2, (some (.int)), 0, 3, 1, false), -- 36
  (⟨"KiteHire$Hut", "flies", "(II)Z"⟩, prog_2_method_11_code, 3, (some (.boolean)), 0, 3, 2, false), -- 37
  (⟨"KiteHire$Hut", "refusal", "(IIII)I"⟩, prog_2_method_19_code, 5, (some (.int)), 0, 4, 4, false), -- 38
  (⟨"KiteHire$Hut", "passHourOf", "(I)V"⟩, prog_2_method_28_code, 3, none, 0, 4, 1, false), -- 39
  (⟨"KiteHire$Hut", "hoursToSnap", "(I)I"⟩, prog_2_method_31_code, 5, (some (.int)), 0, 4, 1, false), -- 40
  (⟨"KiteHire$Hut", "passHour", "()V"⟩, prog_2_method_27_code, 4, none, 0, 5, 0, false), -- 41
  (⟨"KiteHire$Hut", "longestHire", "(II)I"⟩, prog_2_method_20_code, 4, (some (.int)), 0, 5, 2, false), -- 42
  (⟨"KiteHire$Table", "at", "(II)I"⟩, prog_5_method_2_code, 4, (some (.int)), 3, 0, 2, false), -- 43
  (⟨"KiteHire$Table", "at", "(II)I"⟩, prog_5_method_2_code, 4, (some (.int)), 3, 0, 2, false), -- 44
  (⟨"KiteHire$Table", "at", "(II)I"⟩, prog_5_method_2_code, 4, (some (.int)), 3, 0, 2, false), -- 45
  (⟨"KiteHire$Table", "at", "(II)I"⟩, prog_5_method_2_code, 4, (some (.int)), 3, 0, 2, false), -- 46
  (⟨"KiteHire$Table", "at", "(II)I"⟩, prog_5_method_2_code, 4, (some (.int)), 3, 0, 2, false), -- 47
  (⟨"KiteHire$Table", "at", "(II)I"⟩, prog_5_method_2_code, 4, (some (.int)), 3, 0, 2, false), -- 48
  (⟨"KiteHire$Note", "<init>", "()V"⟩, prog_3_method_1_code, 1, none, 1, 2, 0, false), -- 49
  (⟨"KiteHire$Table", "at", "(II)I"⟩, prog_5_method_2_code, 4, (some (.int)), 3, 0, 2, false), -- 50
  (⟨"KiteHire$Table", "at", "(II)I"⟩, prog_5_method_2_code, 4, (some (.int)), 3, 0, 2, false), -- 51
  (⟨"KiteHire$Past", "stateAt", "(I)LKiteHire$Hut;"⟩, prog_4_method_2_code, 2, (some (.object "KiteHire$Hut")), 2, 0, 1, false), -- 52
  (⟨"KiteHire$Past", "<init>", "()V"⟩, prog_4_method_1_code, 2, none, 2, 3, 0, false), -- 53
  (⟨"KiteHire$Past", "record", "(LKiteHire$Hut;)V"⟩, prog_4_method_3_code, 3, none, 2, 3, 1, false), -- 54
  (⟨"KiteHire$Past", "takeLatest", "(LKiteHire$Hut;)Z"⟩, prog_4_method_4_code, 3, (some (.boolean)), 2, 3, 1, false), -- 55
  (⟨"KiteHire", "within", "(III)Z"⟩, prog_1_method_33_code, 3, (some (.boolean)), 4, 0, 3, true), -- 56
  (⟨"KiteHire$Table", "at", "(II)I"⟩, prog_5_method_2_code, 4, (some (.int)), 3, 0, 2, false), -- 57
  (⟨"KiteHire", "perHour", "()D"⟩, prog_1_method_25_code, 1, (some (.double)), 4, 0, 0, false), -- 58
  (⟨"KiteHire", "isColour", "(I)Z"⟩, prog_1_method_34_code, 1, (some (.boolean)), 4, 1, 1, true), -- 59
  (⟨"KiteHire", "isKite", "(I)Z"⟩, prog_1_method_35_code, 2, (some (.boolean)), 4, 1, 1, false), -- 60
  (⟨"KiteHire", "isSettingValue", "(II)Z"⟩, prog_1_method_36_code, 2, (some (.boolean)), 4, 1, 2, true), -- 61
  (⟨"KiteHire$Table", "at", "(II)I"⟩, prog_5_method_2_code, 4, (some (.int)), 3, 0, 2, false), -- 62
  (⟨"KiteHire", "spoolOf", "(II)I"⟩, prog_1_method_19_code, 3, (some (.int)), 4, 1, 2, false), -- 63
  (⟨"KiteHire", "ended", "(II)I"⟩, prog_1_method_22_code, 3, (some (.int)), 4, 1, 2, false), -- 64
  (⟨"KiteHire$Table", "at", "(II)I"⟩, prog_5_method_2_code, 4, (some (.int)), 3, 0, 2, false), -- 65
  (⟨"KiteHire$Table", "at", "(II)I"⟩, prog_5_method_2_code, 4, (some (.int)), 3, 0, 2, false), -- 66
  (⟨"KiteHire", "kiteOf", "(II)I"⟩, prog_1_method_18_code, 3, (some (.int)), 4, 2, 2, false), -- 67
  (⟨"KiteHire", "tailsOf", "(II)I"⟩, prog_1_method_20_code, 3, (some (.int)), 4, 2, 2, false), -- 68
  (⟨"KiteHire", "hireOf", "(II)I"⟩, prog_1_method_21_code, 4, (some (.int)), 4, 2, 2, false), -- 69
  (⟨"KiteHire", "windOf", "(I)I"⟩, prog_1_method_23_code, 2, (some (.int)), 4, 2, 1, false), -- 70
  (⟨"KiteHire", "keep", "()I"⟩, prog_1_method_16_code, 1, (some (.int)), 4, 3, 0, false), -- 71
  (⟨"KiteHire", "<init>", "()V"⟩, prog_1_method_1_code, 1, none, 4, 4, 0, false), -- 72
  (⟨"KiteHire", "wind", "(III)I"⟩, prog_1_method_2_code, 5, (some (.int)), 4, 4, 3, false), -- 73
  (⟨"KiteHire", "kite", "(IIII)I"⟩, prog_1_method_3_code, 5, (some (.int)), 4, 4, 4, false), -- 74
  (⟨"KiteHire", "spool", "(I)I"⟩, prog_1_method_4_code, 2, (some (.int)), 4, 4, 1, false), -- 75
  (⟨"KiteHire", "tails", "(II)I"⟩, prog_1_method_5_code, 3, (some (.int)), 4, 4, 2, false), -- 76
  (⟨"KiteHire$Table", "at", "(II)I"⟩, prog_5_method_2_code, 4, (some (.int)), 3, 0, 2, false), -- 77
  (⟨"KiteHire", "back", "(II)I"⟩, prog_1_method_8_code, 6, (some (.int)), 4, 4, 2, false), -- 78
  (⟨"KiteHire", "found", "(I)I"⟩, prog_1_method_9_code, 2, (some (.int)), 4, 4, 1, false), -- 79
  (⟨"KiteHire", "set", "(II)I"⟩, prog_1_method_11_code, 4, (some (.int)), 4, 4, 2, false), -- 80
  (⟨"KiteHire$Table", "at", "(II)I"⟩, prog_5_method_2_code, 4, (some (.int)), 3, 0, 2, false), -- 81
  (⟨"KiteHire", "undo", "()I"⟩, prog_1_method_15_code, 1, (some (.int)), 4, 4, 0, false), -- 82
  (⟨"KiteHire", "restore", "()I"⟩, prog_1_method_17_code, 1, (some (.int)), 4, 4, 0, false), -- 83
  (⟨"KiteHire", "count", "(I)I"⟩, prog_1_method_24_code, 2, (some (.int)), 4, 4, 1, false), -- 84
  (⟨"KiteHire", "next", "(II)I"⟩, prog_1_method_27_code, 4, (some (.int)), 4, 4, 2, false), -- 85
  (⟨"KiteHire", "flyable", "(I)I"⟩, prog_1_method_30_code, 4, (some (.int)), 4, 4, 1, false), -- 86
  (⟨"KiteHire", "why", "(IIII)I"⟩, prog_1_method_26_code, 5, (some (.int)), 4, 5, 4, false), -- 87
  (⟨"KiteHire", "snapsIn", "(I)I"⟩, prog_1_method_29_code, 3, (some (.int)), 4, 5, 1, false), -- 88
  (⟨"KiteHire", "hire", "(IIII)I"⟩, prog_1_method_7_code, 6, (some (.int)), 4, 6, 4, false), -- 89
  (⟨"KiteHire", "pass", "(I)I"⟩, prog_1_method_10_code, 4, (some (.int)), 4, 6, 1, false), -- 90
  (⟨"KiteHire", "longest", "(II)I"⟩, prog_1_method_28_code, 4, (some (.int)), 4, 6, 2, false), -- 91
  (⟨"KiteHire", "ifPassed", "(II)I"⟩, prog_1_method_31_code, 4, (some (.int)), 4, 6, 2, false), -- 92
  (⟨"KiteHire", "dearest", "(I)I"⟩, prog_1_method_32_code, 6, (some (.int)), 4, 6, 1, false), -- 93
  (⟨"KiteHireLaw", "cell", "([II)I"⟩, method_2_code, 2, (some (.int)), 8, 0, 2, true), -- 94
  (⟨"KiteHireLaw", "low", "(II)I"⟩, method_3_code, 2, (some (.int)), 8, 0, 2, true), -- 95
  (⟨"KiteHireLaw", "isHire", "(LKiteHire;I)Z"⟩, method_5_code, 10, (some (.boolean)), 8, 6, 2, true), -- 96
  (⟨"KiteHireLaw", "act", "(LKiteHire;[IIII)Z"⟩, method_4_code, 18, (some (.boolean)), 8, 7, 5, true), -- 97
  (⟨"KiteHireLaw", "isKite", "(LKiteHire;II)Z"⟩, method_6_code, 10, (some (.boolean)), 8, 7, 3, true), -- 98
  (⟨"KiteHireLaw", "holds", "(LKiteHire;[II)Z"⟩, method_7_code, 10, (some (.boolean)), 8, 8, 3, true), -- 99
  (⟨"KiteHireLaw", "law", "([I)Z"⟩, code, 10, (some .boolean), 8, 9, 1, true)] -- 100
abbrev iJ_max : Nat := 0
abbrev iJ_min : Nat := 1
abbrev iJ_bitCount : Nat := 2
abbrev iT_put : Nat := 3
abbrev iT_at : Nat := 4
abbrev iT_add : Nat := 5
abbrev iT_dropRow : Nat := 6
abbrev iT_init : Nat := 7
abbrev iT_copyFrom : Nat := 8
abbrev iH_windAt : Nat := 9
abbrev iH_foresee : Nat := 10
abbrev iH_addKite : Nat := 11
abbrev iH_addSpool : Nat := 12
abbrev iH_tailsOfColour : Nat := 13
abbrev iH_setting : Nat := 14
abbrev iH_isBetterSpool : Nat := 15
abbrev iH_anyTailWanting : Nat := 16
abbrev iH_moveTails : Nat := 17
abbrev iH_priceOfHour : Nat := 18
abbrev iH_takeCoins : Nat := 19
abbrev iH_rowOfHire : Nat := 20
abbrev iH_kitesThatAre : Nat := 21
abbrev iH_sumOfSpools : Nat := 22
abbrev iH_init : Nat := 23
abbrev iH_otherWinds : Nat := 24
abbrev iH_copyFrom : Nat := 25
abbrev iH_tooWindy : Nat := 26
abbrev iH_tooCalm : Nat := 27
abbrev iH_spoolFor : Nat := 28
abbrev iH_priceOfRest : Nat := 29
abbrev iH_endHire : Nat := 30
abbrev iH_wearSnaps : Nat := 31
abbrev iH_flagIsUp : Nat := 32
abbrev iH_anyTooWindy : Nat := 33
abbrev iH_beginHire : Nat := 34
abbrev iH_snapLine : Nat := 35
abbrev iH_tally : Nat := 36
abbrev iH_flies : Nat := 37
abbrev iH_refusal : Nat := 38
abbrev iH_passHourOf : Nat := 39
abbrev iH_hoursToSnap : Nat := 40
abbrev iH_passHour : Nat := 41
abbrev iH_longestHire : Nat := 42
abbrev iN_init : Nat := 49
abbrev iP_stateAt : Nat := 52
abbrev iP_init : Nat := 53
abbrev iP_record : Nat := 54
abbrev iP_takeLatest : Nat := 55
abbrev iX_within : Nat := 56
abbrev iX_perHour : Nat := 58
abbrev iX_isColour : Nat := 59
abbrev iX_isKite : Nat := 60
abbrev iX_isSettingValue : Nat := 61
abbrev iX_spoolOf : Nat := 63
abbrev iX_ended : Nat := 64
abbrev iX_kiteOf : Nat := 67
abbrev iX_tailsOf : Nat := 68
abbrev iX_hireOf : Nat := 69
abbrev iX_windOf : Nat := 70
abbrev iX_keep : Nat := 71
abbrev iX_init : Nat := 72
abbrev iX_wind : Nat := 73
abbrev iX_kite : Nat := 74
abbrev iX_spool : Nat := 75
abbrev iX_tails : Nat := 76
abbrev iX_back : Nat := 78
abbrev iX_found : Nat := 79
abbrev iX_set : Nat := 80
abbrev iX_undo : Nat := 82
abbrev iX_restore : Nat := 83
abbrev iX_count : Nat := 84
abbrev iX_next : Nat := 85
abbrev iX_flyable : Nat := 86
abbrev iX_why : Nat := 87
abbrev iX_snapsIn : Nat := 88
abbrev iX_hire : Nat := 89
abbrev iX_pass : Nat := 90
abbrev iX_longest : Nat := 91
abbrev iX_ifPassed : Nat := 92
abbrev iX_dearest : Nat := 93
abbrev iL_cell : Nat := 94
abbrev iL_low : Nat := 95
abbrev iL_isHire : Nat := 96
abbrev iL_act : Nat := 97
abbrev iL_isKite : Nat := 98
abbrev iL_holds : Nat := 99
abbrev iL_law : Nat := 100
/-- where their words stand: code, instance or static, selects (0 for a static or a constructor), initialized -/
def mwds : List (Nat × Nat × Nat × Nat) := [
  (42, 41, 0, 15), (204, 203, 0, 15), (382, 381, 0, 19), (54, 52, 53, 14), (236, 234, 235, 14), (299, 297, 298, 14), (394, 392, 393, 14), (38, 37, 0, 14), (201, 199, 200, 14), (256, 254, 255, 13), (447, 445, 446, 13), (276, 274, 275, 13), (284, 282, 283, 13), (295, 293, 294, 13), (232, 230, 231, 13), (332, 331, 5, 13), (336, 335, 6, 13), (350, 348, 349, 13), (358, 357, 7, 13), (362, 360, 361, 13), (374, 372, 373, 13), (244, 243, 1, 13), (248, 247, 2, 13), (32, 31, 0, 13), (443, 441, 442, 13), (197, 195, 196, 13), (320, 318, 319, 13), (324, 322, 323, 13), (328, 327, 4, 13), (354, 352, 353, 13), (390, 388, 389, 13), (424, 423, 9, 13), (252, 250, 251, 13), (316, 314, 315, 13), (345, 343, 344, 13), (428, 427, 10, 13), (240, 238, 239, 13), (477, 475, 476, 13), (312, 310, 311, 13), (419, 418, 8, 13), (473, 471, 472, 13), (415, 413, 414, 13), (497, 495, 496, 13), (236, 234, 235, 14), (236, 234, 235, 14), (236, 234, 235, 14), (236, 234, 235, 14), (236, 234, 235, 14), (236, 234, 235, 14), (144, 143, 0, 17), (236, 234, 235, 14), (236, 234, 235, 14), (193, 192, 0, 16), (124, 123, 0, 16), (220, 218, 219, 16), (189, 187, 188, 16), (228, 227, 0, 12), (236, 234, 235, 14), (517, 515, 516, 12), (291, 290, 0, 12), (308, 307, 3, 12), (454, 453, 0, 12), (236, 234, 235, 14), (481, 479, 480, 12), (398, 396, 397, 12), (236, 234, 235, 14), (236, 234, 235, 14), (366, 364, 365, 12), (402, 400, 401, 12), (370, 368, 369, 12), (485, 483, 484, 12), (211, 209, 210, 12), (24, 23, 0, 12), (439, 437, 438, 12), (272, 270, 271, 12), (280, 278, 279, 12), (288, 286, 287, 12), (236, 234, 235, 14), (378, 376, 377, 12), (406, 404, 405, 12), (451, 449, 450, 12), (236, 234, 235, 14), (185, 183, 184, 12), (216, 214, 215, 12), (225, 223, 224, 12), (502, 500, 501, 12), (512, 510, 511, 12), (304, 302, 303, 12), (469, 467, 468, 12), (340, 338, 339, 12), (435, 433, 434, 12), (493, 491, 492, 12), (411, 409, 410, 12), (508, 506, 507, 12), (260, 259, 0, 11), (264, 263, 0, 11), (465, 464, 0, 11), (268, 267, 0, 11), (489, 488, 0, 11), (462, 461, 0, 11), (0, 0, 0, 0)]
/-- field links: the class, the entry, the field's class and place, whether a nest mate's, the word -/
def fltab : List (Nat × Nat × Nat × Nat × Bool × Nat) := [(3, 7, 3, 0, false, 43), (3, 19, 3, 1, false, 44), (0, 14, 0, 0, false, 57), (0, 20, 0, 1, false, 58), (0, 23, 0, 2, false, 60), (0, 26, 0, 3, false, 62), (0, 29, 0, 4, false, 64), (0, 32, 0, 5, false, 66), (0, 35, 0, 6, false, 68), (0, 38, 0, 7, false, 70), (0, 53, 0, 8, false, 73), (0, 57, 0, 9, false, 74), (0, 60, 0, 10, false, 76), (0, 63, 0, 11, false, 78), (0, 66, 0, 12, false, 80), (0, 69, 0, 13, false, 81), (0, 72, 0, 14, false, 83), (0, 75, 0, 15, false, 85), (2, 11, 2, 0, false, 129), (2, 18, 2, 1, false, 130), (2, 30, 2, 2, false, 131), (1, 9, 1, 0, false, 148), (1, 20, 1, 1, false, 149), (4, 10, 4, 0, false, 163), (4, 16, 4, 1, false, 164), (4, 19, 4, 2, false, 165), (4, 25, 4, 3, false, 166), (4, 32, 4, 4, false, 167), (4, 172, 4, 5, false, 168), (4, 149, 0, 1, true, 59), (4, 179, 0, 2, true, 61), (4, 182, 0, 3, true, 63), (4, 77, 0, 4, true, 65), (4, 115, 0, 5, true, 67), (4, 185, 0, 6, true, 69), (4, 219, 0, 7, true, 71), (4, 36, 0, 8, true, 72), (4, 56, 0, 9, true, 75), (4, 63, 0, 10, true, 77), (4, 106, 0, 11, true, 79), (4, 139, 0, 13, true, 82), (4, 197, 0, 14, true, 84), (4, 194, 0, 15, true, 86), (4, 166, 2, 2, true, 132), (4, 159, 1, 2, true, 150)]
def sltab : List (Nat × Nat × Nat × Bool × Nat) := [(4, 222, 0, false, 455), (4, 226, 1, false, 457), (0, 45, 2, true, 55)]
/-- method links: the class, the entry, the method (900: arraycopy, 901: Object's constructor), whether a nest mate's, the word -/
def mltab : List (Nat × Nat × Nat × Bool × Nat) := [(3, 1, 901, false, 39), (3, 13, 0, false, 40), (3, 23, 1, false, 202), (3, 26, 900, false, 205), (0, 78, 4, false, 233), (0, 41, 3, false, 51), (0, 96, 5, false, 346), (0, 3, 901, false, 33), (0, 11, 7, false, 36), (0, 82, 9, false, 253), (0, 49, 8, false, 198), (0, 86, 14, false, 257), (0, 99, 15, false, 329), (0, 126, 18, false, 355), (0, 117, 17, false, 347), (0, 129, 6, false, 391), (0, 89, 26, false, 317), (0, 106, 28, false, 325), (0, 120, 29, false, 351), (0, 123, 19, false, 359), (0, 145, 2, false, 429), (0, 136, 30, false, 420), (0, 153, 21, false, 241), (0, 156, 22, false, 245), (0, 159, 32, false, 249), (0, 93, 27, false, 321), (0, 102, 33, false, 313), (0, 109, 16, false, 333), (0, 139, 31, false, 421), (0, 142, 35, false, 425), (0, 150, 37, false, 474), (0, 133, 39, false, 416), (0, 113, 38, false, 498), (1, 3, 901, false, 145), (1, 17, 7, false, 147), (2, 3, 901, false, 125), (2, 17, 23, false, 128), (2, 22, 52, false, 190), (2, 26, 25, false, 194), (2, 33, 1, false, 221), (4, 40, 56, false, 226), (4, 86, 4, false, 300), (4, 176, 60, false, 305), (4, 70, 59, false, 289), (4, 112, 20, false, 371), (4, 188, 9, false, 486), (4, 169, 25, false, 212), (4, 1, 901, false, 25), (4, 9, 23, false, 30), (4, 24, 53, false, 122), (4, 31, 49, true, 142), (4, 44, 24, false, 440), (4, 48, 54, false, 217), (4, 52, 10, false, 444), (4, 59, 11, false, 273), (4, 66, 12, false, 281), (4, 74, 13, false, 292), (4, 81, 5, false, 296), (4, 118, 29, false, 379), (4, 121, 2, false, 380), (4, 126, 14, false, 229), (4, 129, 19, false, 386), (4, 133, 30, false, 387), (4, 136, 17, false, 407), (4, 145, 61, false, 452), (4, 152, 3, false, 459), (4, 162, 55, false, 186), (4, 191, 36, false, 237), (4, 203, 27, false, 503), (4, 206, 33, false, 504), (4, 215, 37, false, 513), (4, 200, 38, false, 309), (4, 212, 40, false, 470), (4, 103, 87, false, 341), (4, 109, 34, false, 342), (4, 142, 41, false, 412), (4, 209, 42, false, 494), (8, 40, 69, false, 367), (8, 69, 88, false, 466), (8, 37, 67, false, 363), (8, 72, 63, false, 478), (8, 9, 84, false, 222), (8, 75, 70, false, 482), (8, 15, 95, false, 262), (8, 21, 74, false, 269), (8, 25, 75, false, 277), (8, 28, 76, false, 285), (8, 31, 87, false, 301), (8, 34, 89, false, 337), (8, 43, 78, false, 375), (8, 46, 64, false, 395), (8, 49, 68, false, 399), (8, 52, 79, false, 403), (8, 55, 92, false, 408), (8, 59, 90, false, 432), (8, 62, 73, false, 436), (8, 66, 80, false, 448), (8, 78, 91, false, 490), (8, 81, 85, false, 499), (8, 84, 93, false, 505), (8, 87, 96, false, 463), (8, 91, 98, false, 487), (8, 95, 86, false, 509), (8, 98, 58, false, 514), (8, 102, 72, false, 22), (8, 103, 99, false, 460), (8, 107, 82, false, 182), (8, 111, 71, false, 208), (8, 114, 94, false, 258), (8, 118, 97, false, 266), (8, 122, 83, false, 213)]
def cltab : List (Nat × Nat × Int32 × Nat) := [(8, 7, 40503, 261), (8, 8, 2147483647, 265), (6, 265, 1431655765, 383), (6, 266, 858993459, 384), (6, 267, 252645135, 385), (4, 218, 100000, 430), (8, 58, 100000, 431)]
/-- class links: the class, the entry, the class named, the word, the words that it can be made and is initialized -/
def nltab : List (Nat × Nat × Nat × Nat × Nat × Nat) := [(8, 10, 4, 20, 21, 12), (4, 7, 0, 28, 29, 13), (0, 9, 3, 34, 35, 14), (4, 22, 2, 120, 121, 16), (2, 9, 0, 126, 29, 13), (4, 29, 1, 140, 141, 17), (1, 15, 3, 146, 35, 14)]
