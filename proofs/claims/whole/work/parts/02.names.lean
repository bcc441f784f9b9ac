def RX0 : String := "SwitchSeven$Account"
def TX0 : u_T := fun k => match k with
  | 0 => ("SwitchSeven$Account", "number", "I", true)
  | 1 => ("SwitchSeven$Account", "bank", "LSwitchSeven$Bank;", true)
  | 2 => ("SwitchSeven$Account", "name", "I", true)
  | 3 => ("SwitchSeven$Account", "joint", "I", true)
  | 4 => ("SwitchSeven$Account", "madeDay", "I", true)
  | 5 => ("SwitchSeven$Account", "keptSums", "[J", true)
  | 6 => ("SwitchSeven$Account", "pence", "J", false)
  | 7 => ("SwitchSeven$Account", "overdraft", "I", false)
  | 8 => ("SwitchSeven$Account", "state", "I", false)
  | 9 => ("SwitchSeven$Account", "movedTo", "LSwitchSeven$Account;", false)
  | 10 => ("SwitchSeven$Account", "movedDay", "I", false)
  | 11 => ("SwitchSeven$Account", "good", "I", false)
  | _ => ("SwitchSeven$Account", "route", "LSwitchSeven$Account;", false)
def tyX0 : Nat → FieldType := fun k => match k with
  | 0 => .int
  | 1 => .object "SwitchSeven$Bank"
  | 2 => .int
  | 3 => .int
  | 4 => .int
  | 5 => .array .long
  | 6 => .long
  | 7 => .int
  | 8 => .int
  | 9 => .object "SwitchSeven$Account"
  | 10 => .int
  | 11 => .int
  | _ => .object "SwitchSeven$Account"
abbrev wsX00 : List Cond := u_ws RX0 TX0 13
theorem nmX0 : ∀ a, a < 13 → ∀ b, b < 13 → a ≠ b → (TX0 a).2.1 ≠ (TX0 b).2.1 := by decide +kernel
theorem tyX0_ok : ∀ k, k < 13 → parseFieldDescriptor (TX0 k).2.2.1 = some (tyX0 k) := by decide +kernel
abbrev cX0_init : ByteArray := prog_2_method_1_code
def yX0_init : MethodName := ⟨RX0, "<init>", "(ILSwitchSeven$Bank;III)V"⟩
abbrev cX0_isJoint : ByteArray := prog_2_method_2_code
def yX0_isJoint : MethodName := ⟨RX0, "isJoint", "()Z"⟩
abbrev cX0_keepSum : ByteArray := prog_2_method_3_code
def yX0_keepSum : MethodName := ⟨RX0, "keepSum", "(I)V"⟩
abbrev cX0_keptSum : ByteArray := prog_2_method_4_code
def yX0_keptSum : MethodName := ⟨RX0, "keptSum", "(I)J"⟩
abbrev cX0_leaveFor : ByteArray := prog_2_method_5_code
def yX0_leaveFor : MethodName := ⟨RX0, "leaveFor", "(LSwitchSeven$Account;I)V"⟩
abbrev cX0_likeness : ByteArray := prog_2_method_6_code
def yX0_likeness : MethodName := ⟨RX0, "likeness", "(I)I"⟩
abbrev cX0_alike : ByteArray := prog_2_method_7_code
def yX0_alike : MethodName := ⟨RX0, "alike", "(II)I"⟩
abbrev cX0_isRival : ByteArray := prog_2_method_8_code
def yX0_isRival : MethodName := ⟨RX0, "isRival", "(LSwitchSeven$Bank;II)Z"⟩
def RX1 : String := "SwitchSeven$Bank"
def TX1 : u_T := fun k => match k with
  | 0 => ("SwitchSeven$Bank", "number", "I", true)
  | 1 => ("SwitchSeven$Bank", "fee", "I", false)
  | 2 => ("SwitchSeven$Bank", "cap", "I", false)
  | 3 => ("SwitchSeven$Bank", "owed", "I", false)
  | 4 => ("SwitchSeven$Bank", "steps", "I", false)
  | _ => ("SwitchSeven$Bank", "netSum", "J", false)
def tyX1 : Nat → FieldType := fun k => match k with
  | 0 => .int
  | 1 => .int
  | 2 => .int
  | 3 => .int
  | 4 => .int
  | _ => .long
abbrev wsX10 : List Cond := u_ws RX1 TX1 6
theorem nmX1 : ∀ a, a < 6 → ∀ b, b < 6 → a ≠ b → (TX1 a).2.1 ≠ (TX1 b).2.1 := by decide +kernel
theorem tyX1_ok : ∀ k, k < 6 → parseFieldDescriptor (TX1 k).2.2.1 = some (tyX1 k) := by decide +kernel
abbrev cX1_init : ByteArray := prog_3_method_1_code
def yX1_init : MethodName := ⟨RX1, "<init>", "(I)V"⟩
abbrev cX1_changeFee : ByteArray := prog_3_method_2_code
def yX1_changeFee : MethodName := ⟨RX1, "changeFee", "(I)I"⟩
abbrev cX1_changeCap : ByteArray := prog_3_method_3_code
def yX1_changeCap : MethodName := ⟨RX1, "changeCap", "(I)I"⟩
abbrev cX1_hasStepLeft : ByteArray := prog_3_method_4_code
def yX1_hasStepLeft : MethodName := ⟨RX1, "hasStepLeft", "()Z"⟩
def RX2 : String := "SwitchSeven$Calendar"
def TX2 : u_T := fun k => match k with
  | 0 => ("SwitchSeven$Calendar", "holidays", "[Z", true)
  | 1 => ("SwitchSeven$Calendar", "lateBanks", "[I", true)
  | 2 => ("SwitchSeven$Calendar", "holidayCount", "I", false)
  | 3 => ("SwitchSeven$Calendar", "lateCount", "I", false)
  | 4 => ("SwitchSeven$Calendar", "today", "I", false)
  | 5 => ("SwitchSeven$Calendar", "nights", "I", false)
  | _ => ("SwitchSeven$Calendar", "dueFrom", "I", false)
def tyX2 : Nat → FieldType := fun k => match k with
  | 0 => .array .boolean
  | 1 => .array .int
  | 2 => .int
  | 3 => .int
  | 4 => .int
  | 5 => .int
  | _ => .int
abbrev wsX20 : List Cond := u_ws RX2 TX2 7
theorem nmX2 : ∀ a, a < 7 → ∀ b, b < 7 → a ≠ b → (TX2 a).2.1 ≠ (TX2 b).2.1 := by decide +kernel
theorem tyX2_ok : ∀ k, k < 7 → parseFieldDescriptor (TX2 k).2.2.1 = some (tyX2 k) := by decide +kernel
abbrev cX2_init : ByteArray := prog_4_method_1_code
def yX2_init : MethodName := ⟨RX2, "<init>", "()V"⟩
abbrev cX2_rests : ByteArray := prog_4_method_2_code
def yX2_rests : MethodName := ⟨RX2, "rests", "(I)Z"⟩
abbrev cX2_works : ByteArray := prog_4_method_3_code
def yX2_works : MethodName := ⟨RX2, "works", "(I)Z"⟩
abbrev cX2_addHoliday : ByteArray := prog_4_method_4_code
def yX2_addHoliday : MethodName := ⟨RX2, "addHoliday", "(I)I"⟩
abbrev cX2_isLate : ByteArray := prog_4_method_5_code
def yX2_isLate : MethodName := ⟨RX2, "isLate", "(II)Z"⟩
abbrev cX2_addLate : ByteArray := prog_4_method_6_code
def yX2_addLate : MethodName := ⟨RX2, "addLate", "(II)I"⟩
def RX3 : String := "SwitchSeven$Line"
def TX3 : u_T := fun k => match k with
  | 0 => ("SwitchSeven$Line", "kind", "I", true)
  | 1 => ("SwitchSeven$Line", "from", "LSwitchSeven$Account;", false)
  | 2 => ("SwitchSeven$Line", "to", "LSwitchSeven$Account;", true)
  | 3 => ("SwitchSeven$Line", "pence", "I", true)
  | 4 => ("SwitchSeven$Line", "every", "I", true)
  | 5 => ("SwitchSeven$Line", "nextDue", "I", false)
  | 6 => ("SwitchSeven$Line", "ended", "Z", false)
  | 7 => ("SwitchSeven$Line", "endDay", "I", false)
  | 8 => ("SwitchSeven$Line", "done", "I", false)
  | 9 => ("SwitchSeven$Line", "lastDone", "I", false)
  | _ => ("SwitchSeven$Line", "backs", "[I", true)
def tyX3 : Nat → FieldType := fun k => match k with
  | 0 => .int
  | 1 => .object "SwitchSeven$Account"
  | 2 => .object "SwitchSeven$Account"
  | 3 => .int
  | 4 => .int
  | 5 => .int
  | 6 => .boolean
  | 7 => .int
  | 8 => .int
  | 9 => .int
  | _ => .array .int
abbrev wsX30 : List Cond := u_ws RX3 TX3 11
theorem nmX3 : ∀ a, a < 11 → ∀ b, b < 11 → a ≠ b → (TX3 a).2.1 ≠ (TX3 b).2.1 := by decide +kernel
theorem tyX3_ok : ∀ k, k < 11 → parseFieldDescriptor (TX3 k).2.2.1 = some (tyX3 k) := by decide +kernel
abbrev cX3_init : ByteArray := prog_5_method_1_code
def yX3_init : MethodName := ⟨RX3, "<init>", "(ILSwitchSeven$Account;LSwitchSeven$Account;III)V"⟩
abbrev cX3_isDue : ByteArray := prog_5_method_2_code
def yX3_isDue : MethodName := ⟨RX3, "isDue", "(I)Z"⟩
abbrev cX3_setNextDue : ByteArray := prog_5_method_3_code
def yX3_setNextDue : MethodName := ⟨RX3, "setNextDue", "()V"⟩
abbrev cX3_addBack : ByteArray := prog_5_method_4_code
def yX3_addBack : MethodName := ⟨RX3, "addBack", "(I)V"⟩
abbrev cX3_timesBack : ByteArray := prog_5_method_5_code
def yX3_timesBack : MethodName := ⟨RX3, "timesBack", "(I)I"⟩
def RX4 : String := "SwitchSeven$Move"
def TX4 : u_T := fun k => match k with
  | 0 => ("SwitchSeven$Move", "old", "LSwitchSeven$Account;", true)
  | 1 => ("SwitchSeven$Move", "fresh", "LSwitchSeven$Account;", true)
  | 2 => ("SwitchSeven$Move", "partly", "Z", true)
  | 3 => ("SwitchSeven$Move", "askDay", "I", true)
  | 4 => ("SwitchSeven$Move", "steps", "I", false)
  | 5 => ("SwitchSeven$Move", "lastStep", "I", false)
  | 6 => ("SwitchSeven$Move", "goesOn", "Z", false)
  | 7 => ("SwitchSeven$Move", "agreed", "Z", false)
  | 8 => ("SwitchSeven$Move", "why", "I", false)
  | 9 => ("SwitchSeven$Move", "faults", "I", false)
  | _ => ("SwitchSeven$Move", "firstFault", "LSwitchSeven$Bank;", false)
def tyX4 : Nat → FieldType := fun k => match k with
  | 0 => .object "SwitchSeven$Account"
  | 1 => .object "SwitchSeven$Account"
  | 2 => .boolean
  | 3 => .int
  | 4 => .int
  | 5 => .int
  | 6 => .boolean
  | 7 => .boolean
  | 8 => .int
  | 9 => .int
  | _ => .object "SwitchSeven$Bank"
abbrev wsX40 : List Cond := u_ws RX4 TX4 11
theorem nmX4 : ∀ a, a < 11 → ∀ b, b < 11 → a ≠ b → (TX4 a).2.1 ≠ (TX4 b).2.1 := by decide +kernel
theorem tyX4_ok : ∀ k, k < 11 → parseFieldDescriptor (TX4 k).2.2.1 = some (tyX4 k) := by decide +kernel
abbrev cX4_init : ByteArray := prog_6_method_1_code
def yX4_init : MethodName := ⟨RX4, "<init>", "(LSwitchSeven$Account;LSwitchSeven$Account;ZI)V"⟩
abbrev cX4_has : ByteArray := prog_6_method_2_code
def yX4_has : MethodName := ⟨RX4, "has", "(LSwitchSeven$Account;)Z"⟩
abbrev cX4_addFault : ByteArray := prog_6_method_3_code
def yX4_addFault : MethodName := ⟨RX4, "addFault", "(LSwitchSeven$Bank;)V"⟩
abbrev cX4_stop : ByteArray := prog_6_method_4_code
def yX4_stop : MethodName := ⟨RX4, "stop", "(I)V"⟩
def RX5 : String := "SwitchSeven$Rule"
def TX5 : u_T := fun k => match k with
  | 0 => ("SwitchSeven$Rule", "purpose", "I", true)
  | 1 => ("SwitchSeven$Rule", "fromDay", "I", true)
  | _ => ("SwitchSeven$Rule", "code", "[I", true)
def tyX5 : Nat → FieldType := fun k => match k with
  | 0 => .int
  | 1 => .int
  | _ => .array .int
abbrev wsX50 : List Cond := u_ws RX5 TX5 3
theorem nmX5 : ∀ a, a < 3 → ∀ b, b < 3 → a ≠ b → (TX5 a).2.1 ≠ (TX5 b).2.1 := by decide +kernel
theorem tyX5_ok : ∀ k, k < 3 → parseFieldDescriptor (TX5 k).2.2.1 = some (tyX5 k) := by decide +kernel
abbrev cX5_init : ByteArray := prog_7_method_1_code
def yX5_init : MethodName := ⟨RX5, "<init>", "(II[I)V"⟩
abbrev cX5_worth : ByteArray := prog_7_method_2_code
def yX5_worth : MethodName := ⟨RX5, "worth", "([J[J)J"⟩
abbrev cX5_join : ByteArray := prog_7_method_3_code
def yX5_join : MethodName := ⟨RX5, "join", "(IJJ)J"⟩
abbrev cX5_hold : ByteArray := prog_7_method_4_code
def yX5_hold : MethodName := ⟨RX5, "hold", "(J)J"⟩
def RX6 : String := "SwitchSeven$RuleBook"
def TX6 : u_T := fun k => match k with
  | 0 => ("SwitchSeven$RuleBook", "told", "Ljava/util/ArrayList;", true)
  | 1 => ("SwitchSeven$RuleBook", "letters", "[J", true)
  | _ => ("SwitchSeven$RuleBook", "stack", "[J", true)
def tyX6 : Nat → FieldType := fun k => match k with
  | 0 => .object "java/util/ArrayList"
  | 1 => .array .long
  | _ => .array .long
abbrev wsX60 : List Cond := u_ws RX6 TX6 3
theorem nmX6 : ∀ a, a < 3 → ∀ b, b < 3 → a ≠ b → (TX6 a).2.1 ≠ (TX6 b).2.1 := by decide +kernel
theorem tyX6_ok : ∀ k, k < 3 → parseFieldDescriptor (TX6 k).2.2.1 = some (tyX6 k) := by decide +kernel
abbrev cX6_init : ByteArray := prog_8_method_1_code
def yX6_init : MethodName := ⟨RX6, "<init>", "()V"⟩
abbrev cX6_size : ByteArray := prog_8_method_2_code
def yX6_size : MethodName := ⟨RX6, "size", "()I"⟩
abbrev cX6_add : ByteArray := prog_8_method_3_code
def yX6_add : MethodName := ⟨RX6, "add", "(LSwitchSeven$Rule;)I"⟩
abbrev cX6_inForce : ByteArray := prog_8_method_4_code
def yX6_inForce : MethodName := ⟨RX6, "inForce", "(II)LSwitchSeven$Rule;"⟩
abbrev cX6_freshLetters : ByteArray := prog_8_method_5_code
def yX6_freshLetters : MethodName := ⟨RX6, "freshLetters", "()[J"⟩
def RX7 : String := "SwitchSeven$Surge"
def TX7 : u_T := fun k => match k with
  | 0 => ("SwitchSeven$Surge", "came", "[I", true)
  | _ => ("SwitchSeven$Surge", "size", "I", false)
def tyX7 : Nat → FieldType := fun k => match k with
  | 0 => .array .int
  | _ => .int
abbrev wsX70 : List Cond := u_ws RX7 TX7 2
theorem nmX7 : ∀ a, a < 2 → ∀ b, b < 2 → a ≠ b → (TX7 a).2.1 ≠ (TX7 b).2.1 := by decide +kernel
theorem tyX7_ok : ∀ k, k < 2 → parseFieldDescriptor (TX7 k).2.2.1 = some (tyX7 k) := by decide +kernel
abbrev cX7_init : ByteArray := prog_9_method_1_code
def yX7_init : MethodName := ⟨RX7, "<init>", "()V"⟩
abbrev cX7_add : ByteArray := prog_9_method_2_code
def yX7_add : MethodName := ⟨RX7, "add", "(I)I"⟩
abbrev cX7_cameOn : ByteArray := prog_9_method_3_code
def yX7_cameOn : MethodName := ⟨RX7, "cameOn", "(I)I"⟩
abbrev cX7_leastCap : ByteArray := prog_9_method_4_code
def yX7_leastCap : MethodName := ⟨RX7, "leastCap", "()I"⟩
abbrev cX7_firstDayTooLate : ByteArray := prog_9_method_5_code
def yX7_firstDayTooLate : MethodName := ⟨RX7, "firstDayTooLate", "(I)I"⟩
def RX8 : String := "SwitchSeven$Tape"
def TX8 : u_T := fun k => match k with
  | 0 => ("SwitchSeven$Tape", "bytes", "[I", true)
  | 1 => ("SwitchSeven$Tape", "size", "I", false)
  | 2 => ("SwitchSeven$Tape", "place", "I", false)
  | 3 => ("SwitchSeven$Tape", "fault", "I", false)
  | 4 => ("SwitchSeven$Tape", "code", "[I", true)
  | _ => ("SwitchSeven$Tape", "codeSize", "I", false)
def tyX8 : Nat → FieldType := fun k => match k with
  | 0 => .array .int
  | 1 => .int
  | 2 => .int
  | 3 => .int
  | 4 => .array .int
  | _ => .int
abbrev wsX80 : List Cond := u_ws RX8 TX8 6
theorem nmX8 : ∀ a, a < 6 → ∀ b, b < 6 → a ≠ b → (TX8 a).2.1 ≠ (TX8 b).2.1 := by decide +kernel
theorem tyX8_ok : ∀ k, k < 6 → parseFieldDescriptor (TX8 k).2.2.1 = some (tyX8 k) := by decide +kernel
abbrev cX8_init : ByteArray := prog_10_method_1_code
def yX8_init : MethodName := ⟨RX8, "<init>", "()V"⟩
abbrev cX8_add : ByteArray := prog_10_method_2_code
def yX8_add : MethodName := ⟨RX8, "add", "(I)V"⟩
abbrev cX8_wipe : ByteArray := prog_10_method_3_code
def yX8_wipe : MethodName := ⟨RX8, "wipe", "()V"⟩
abbrev cX8_codeRead : ByteArray := prog_10_method_4_code
def yX8_codeRead : MethodName := ⟨RX8, "codeRead", "()[I"⟩
abbrev cX8_read : ByteArray := prog_10_method_5_code
def yX8_read : MethodName := ⟨RX8, "read", "()I"⟩
abbrev cX8_next : ByteArray := prog_10_method_6_code
def yX8_next : MethodName := ⟨RX8, "next", "()I"⟩
abbrev cX8_fail : ByteArray := prog_10_method_7_code
def yX8_fail : MethodName := ⟨RX8, "fail", "()V"⟩
abbrev cX8_emit : ByteArray := prog_10_method_8_code
def yX8_emit : MethodName := ⟨RX8, "emit", "(I)V"⟩
abbrev cX8_readSum : ByteArray := prog_10_method_9_code
def yX8_readSum : MethodName := ⟨RX8, "readSum", "(I)V"⟩
abbrev cX8_readTerm : ByteArray := prog_10_method_10_code
def yX8_readTerm : MethodName := ⟨RX8, "readTerm", "(I)V"⟩
abbrev cX8_readUnit : ByteArray := prog_10_method_11_code
def yX8_readUnit : MethodName := ⟨RX8, "readUnit", "(I)V"⟩
abbrev cX8_readNumber : ByteArray := prog_10_method_12_code
def yX8_readNumber : MethodName := ⟨RX8, "readNumber", "()V"⟩
abbrev cX8_readBracket : ByteArray := prog_10_method_13_code
def yX8_readBracket : MethodName := ⟨RX8, "readBracket", "(I)V"⟩
def RX9 : String := "SwitchSeven"
def TX9 : u_T := fun k => match k with
  | 0 => ("SwitchSeven", "calendar", "LSwitchSeven$Calendar;", true)
  | 1 => ("SwitchSeven", "banks", "[LSwitchSeven$Bank;", true)
  | 2 => ("SwitchSeven", "accounts", "Ljava/util/ArrayList;", true)
  | 3 => ("SwitchSeven", "lines", "Ljava/util/ArrayList;", true)
  | 4 => ("SwitchSeven", "moves", "Ljava/util/ArrayList;", true)
  | 5 => ("SwitchSeven", "rules", "LSwitchSeven$RuleBook;", true)
  | 6 => ("SwitchSeven", "tape", "LSwitchSeven$Tape;", true)
  | 7 => ("SwitchSeven", "asks", "LSwitchSeven$Surge;", true)
  | 8 => ("SwitchSeven", "row", "[J", true)
  | 9 => ("SwitchSeven", "rowSize", "I", false)
  | _ => ("SwitchSeven", "refusals", "[I", true)
def tyX9 : Nat → FieldType := fun k => match k with
  | 0 => .object "SwitchSeven$Calendar"
  | 1 => .array (.object "SwitchSeven$Bank")
  | 2 => .object "java/util/ArrayList"
  | 3 => .object "java/util/ArrayList"
  | 4 => .object "java/util/ArrayList"
  | 5 => .object "SwitchSeven$RuleBook"
  | 6 => .object "SwitchSeven$Tape"
  | 7 => .object "SwitchSeven$Surge"
  | 8 => .array .long
  | 9 => .int
  | _ => .array .int
abbrev wsX90 : List Cond := u_ws RX9 TX9 11
theorem nmX9 : ∀ a, a < 11 → ∀ b, b < 11 → a ≠ b → (TX9 a).2.1 ≠ (TX9 b).2.1 := by decide +kernel
theorem tyX9_ok : ∀ k, k < 11 → parseFieldDescriptor (TX9 k).2.2.1 = some (tyX9 k) := by decide +kernel
abbrev cX9_init : ByteArray := prog_1_method_1_code
def yX9_init : MethodName := ⟨RX9, "<init>", "()V"⟩
abbrev cX9_days : ByteArray := prog_1_method_2_code
def yX9_days : MethodName := ⟨RX9, "days", "(I)I"⟩
abbrev cX9_holiday : ByteArray := prog_1_method_3_code
def yX9_holiday : MethodName := ⟨RX9, "holiday", "(I)I"⟩
abbrev cX9_isWorking : ByteArray := prog_1_method_4_code
def yX9_isWorking : MethodName := ⟨RX9, "isWorking", "(I)I"⟩
abbrev cX9_bank : ByteArray := prog_1_method_5_code
def yX9_bank : MethodName := ⟨RX9, "bank", "(III)I"⟩
abbrev cX9_late : ByteArray := prog_1_method_6_code
def yX9_late : MethodName := ⟨RX9, "late", "(II)I"⟩
abbrev cX9_owes : ByteArray := prog_1_method_7_code
def yX9_owes : MethodName := ⟨RX9, "owes", "(I)I"⟩
abbrev cX9_net : ByteArray := prog_1_method_8_code
def yX9_net : MethodName := ⟨RX9, "net", "(I)J"⟩
abbrev cX9_account : ByteArray := prog_1_method_9_code
def yX9_account : MethodName := ⟨RX9, "account", "(III)I"⟩
abbrev cX9_put : ByteArray := prog_1_method_10_code
def yX9_put : MethodName := ⟨RX9, "put", "(II)J"⟩
abbrev cX9_over : ByteArray := prog_1_method_11_code
def yX9_over : MethodName := ⟨RX9, "over", "(II)I"⟩
abbrev cX9_close : ByteArray := prog_1_method_12_code
def yX9_close : MethodName := ⟨RX9, "close", "(I)I"⟩
abbrev cX9_sum : ByteArray := prog_1_method_13_code
def yX9_sum : MethodName := ⟨RX9, "sum", "(I)J"⟩
abbrev cX9_was : ByteArray := prog_1_method_14_code
def yX9_was : MethodName := ⟨RX9, "was", "(II)J"⟩
abbrev cX9_accountOf : ByteArray := prog_1_method_15_code
def yX9_accountOf : MethodName := ⟨RX9, "accountOf", "(II)I"⟩
abbrev cX9_sends : ByteArray := prog_1_method_16_code
def yX9_sends : MethodName := ⟨RX9, "sends", "(II)I"⟩
abbrev cX9_feed : ByteArray := prog_1_method_17_code
def yX9_feed : MethodName := ⟨RX9, "feed", "(IJ)I"⟩
abbrev cX9_rule : ByteArray := prog_1_method_18_code
def yX9_rule : MethodName := ⟨RX9, "rule", "(II)I"⟩
abbrev cX9_line : ByteArray := prog_1_method_19_code
def yX9_line : MethodName := ⟨RX9, "line", "(IIIIII)I"⟩
abbrev cX9_end : ByteArray := prog_1_method_20_code
def yX9_end : MethodName := ⟨RX9, "end", "(I)I"⟩
abbrev cX9_lineOf : ByteArray := prog_1_method_21_code
def yX9_lineOf : MethodName := ⟨RX9, "lineOf", "(II)I"⟩
abbrev cX9_ask : ByteArray := prog_1_method_22_code
def yX9_ask : MethodName := ⟨RX9, "ask", "(IIZ)I"⟩
abbrev cX9_agree : ByteArray := prog_1_method_23_code
def yX9_agree : MethodName := ⟨RX9, "agree", "(I)I"⟩
abbrev cX9_takeBack : ByteArray := prog_1_method_24_code
def yX9_takeBack : MethodName := ⟨RX9, "takeBack", "(I)I"⟩
abbrev cX9_moveOf : ByteArray := prog_1_method_25_code
def yX9_moveOf : MethodName := ⟨RX9, "moveOf", "(II)I"⟩
abbrev cX9_like : ByteArray := prog_1_method_26_code
def yX9_like : MethodName := ⟨RX9, "like", "(II)I"⟩
abbrev cX9_rivals : ByteArray := prog_1_method_27_code
def yX9_rivals : MethodName := ⟨RX9, "rivals", "(II)I"⟩
abbrev cX9_rival : ByteArray := prog_1_method_28_code
def yX9_rival : MethodName := ⟨RX9, "rival", "(III)I"⟩
abbrev cX9_tell : ByteArray := prog_1_method_29_code
def yX9_tell : MethodName := ⟨RX9, "tell", "(J)I"⟩
abbrev cX9_check : ByteArray := prog_1_method_30_code
def yX9_check : MethodName := ⟨RX9, "check", "()I"⟩
abbrev cX9_surge : ByteArray := prog_1_method_31_code
def yX9_surge : MethodName := ⟨RX9, "surge", "(I)I"⟩
abbrev cX9_least : ByteArray := prog_1_method_32_code
def yX9_least : MethodName := ⟨RX9, "least", "()I"⟩
abbrev cX9_tooLate : ByteArray := prog_1_method_33_code
def yX9_tooLate : MethodName := ⟨RX9, "tooLate", "(I)I"⟩
abbrev cX9_count : ByteArray := prog_1_method_34_code
def yX9_count : MethodName := ⟨RX9, "count", "(I)I"⟩
abbrev cX9_openAccounts : ByteArray := prog_1_method_35_code
def yX9_openAccounts : MethodName := ⟨RX9, "openAccounts", "()I"⟩
abbrev cX9_linesNotEnded : ByteArray := prog_1_method_36_code
def yX9_linesNotEnded : MethodName := ⟨RX9, "linesNotEnded", "(LSwitchSeven$Account;)I"⟩
abbrev cX9_movesThatGoOn : ByteArray := prog_1_method_37_code
def yX9_movesThatGoOn : MethodName := ⟨RX9, "movesThatGoOn", "()I"⟩
abbrev cX9_refusalsCounted : ByteArray := prog_1_method_38_code
def yX9_refusalsCounted : MethodName := ⟨RX9, "refusalsCounted", "(I)I"⟩
abbrev cX9_outside : ByteArray := prog_1_method_39_code
def yX9_outside : MethodName := ⟨RX9, "outside", "(III)I"⟩
abbrev cX9_refuse : ByteArray := prog_1_method_40_code
def yX9_refuse : MethodName := ⟨RX9, "refuse", "(I)I"⟩
abbrev cX9_refuseLong : ByteArray := prog_1_method_41_code
def yX9_refuseLong : MethodName := ⟨RX9, "refuseLong", "(I)J"⟩
abbrev cX9_bankAt : ByteArray := prog_1_method_42_code
def yX9_bankAt : MethodName := ⟨RX9, "bankAt", "(I)LSwitchSeven$Bank;"⟩
abbrev cX9_accountAt : ByteArray := prog_1_method_43_code
def yX9_accountAt : MethodName := ⟨RX9, "accountAt", "(I)LSwitchSeven$Account;"⟩
abbrev cX9_lineAt : ByteArray := prog_1_method_44_code
def yX9_lineAt : MethodName := ⟨RX9, "lineAt", "(I)LSwitchSeven$Line;"⟩
abbrev cX9_moveAt : ByteArray := prog_1_method_45_code
def yX9_moveAt : MethodName := ⟨RX9, "moveAt", "(I)LSwitchSeven$Move;"⟩
abbrev cX9_openAccount : ByteArray := prog_1_method_46_code
def yX9_openAccount : MethodName := ⟨RX9, "openAccount", "(LSwitchSeven$Bank;II)LSwitchSeven$Account;"⟩
abbrev cX9_isInMove : ByteArray := prog_1_method_47_code
def yX9_isInMove : MethodName := ⟨RX9, "isInMove", "(LSwitchSeven$Account;)Z"⟩
abbrev cX9_lastOf : ByteArray := prog_1_method_48_code
def yX9_lastOf : MethodName := ⟨RX9, "lastOf", "(LSwitchSeven$Account;)LSwitchSeven$Account;"⟩
abbrev cX9_findRoutes : ByteArray := prog_1_method_49_code
def yX9_findRoutes : MethodName := ⟨RX9, "findRoutes", "(I)V"⟩
abbrev cX9_isSentOn : ByteArray := prog_1_method_50_code
def yX9_isSentOn : MethodName := ⟨RX9, "isSentOn", "(LSwitchSeven$Account;LSwitchSeven$Account;ILSwitchSeven$Rule;)Z"⟩
abbrev cX9_greatestLikeness : ByteArray := prog_1_method_51_code
def yX9_greatestLikeness : MethodName := ⟨RX9, "greatestLikeness", "(LSwitchSeven$Bank;I)I"⟩
abbrev cX9_countRivals : ByteArray := prog_1_method_52_code
def yX9_countRivals : MethodName := ⟨RX9, "countRivals", "(LSwitchSeven$Bank;I)I"⟩
abbrev cX9_findRival : ByteArray := prog_1_method_53_code
def yX9_findRival : MethodName := ⟨RX9, "findRival", "(LSwitchSeven$Bank;II)I"⟩
abbrev cX9_beginNight : ByteArray := prog_1_method_54_code
def yX9_beginNight : MethodName := ⟨RX9, "beginNight", "()V"⟩
abbrev cX9_keepSums : ByteArray := prog_1_method_55_code
def yX9_keepSums : MethodName := ⟨RX9, "keepSums", "()V"⟩
abbrev cX9_doMoves : ByteArray := prog_1_method_56_code
def yX9_doMoves : MethodName := ⟨RX9, "doMoves", "()V"⟩
abbrev cX9_moveOn : ByteArray := prog_1_method_57_code
def yX9_moveOn : MethodName := ⟨RX9, "moveOn", "(LSwitchSeven$Move;)V"⟩
abbrev cX9_doStep : ByteArray := prog_1_method_58_code
def yX9_doStep : MethodName := ⟨RX9, "doStep", "(LSwitchSeven$Move;)V"⟩
abbrev cX9_moveLines : ByteArray := prog_1_method_59_code
def yX9_moveLines : MethodName := ⟨RX9, "moveLines", "(LSwitchSeven$Move;)V"⟩
abbrev cX9_mayLeave : ByteArray := prog_1_method_60_code
def yX9_mayLeave : MethodName := ⟨RX9, "mayLeave", "(LSwitchSeven$Account;LSwitchSeven$Bank;)Z"⟩
abbrev cX9_refusesOverdrawn : ByteArray := prog_1_method_61_code
def yX9_refusesOverdrawn : MethodName := ⟨RX9, "refusesOverdrawn", "(LSwitchSeven$Move;)Z"⟩
abbrev cX9_lettersOfLeaving : ByteArray := prog_1_method_62_code
def yX9_lettersOfLeaving : MethodName := ⟨RX9, "lettersOfLeaving", "(LSwitchSeven$Account;LSwitchSeven$Bank;)[J"⟩
abbrev cX9_carry : ByteArray := prog_1_method_63_code
def yX9_carry : MethodName := ⟨RX9, "carry", "(LSwitchSeven$Account;LSwitchSeven$Account;J)V"⟩
abbrev cX9_doLines : ByteArray := prog_1_method_64_code
def yX9_doLines : MethodName := ⟨RX9, "doLines", "()V"⟩
abbrev cX9_doLine : ByteArray := prog_1_method_65_code
def yX9_doLine : MethodName := ⟨RX9, "doLine", "(LSwitchSeven$Line;)V"⟩
abbrev cX9_whyBack : ByteArray := prog_1_method_66_code
def yX9_whyBack : MethodName := ⟨RX9, "whyBack", "(LSwitchSeven$Account;LSwitchSeven$Account;J)I"⟩
abbrev cX9_comeBack : ByteArray := prog_1_method_67_code
def yX9_comeBack : MethodName := ⟨RX9, "comeBack", "(LSwitchSeven$Account;JI)V"⟩
abbrev cX9_bankAtFault : ByteArray := prog_1_method_68_code
def yX9_bankAtFault : MethodName := ⟨RX9, "bankAtFault", "(LSwitchSeven$Account;)LSwitchSeven$Bank;"⟩
abbrev cX9_worthOfGood : ByteArray := prog_1_method_69_code
def yX9_worthOfGood : MethodName := ⟨RX9, "worthOfGood", "(LSwitchSeven$Bank;JI)J"⟩
def RX10 : String := "SwitchSevenModel"
def TX10 : u_T := fun k => match k with
  | 0 => ("SwitchSevenModel", "refusals", "[I", true)
  | 1 => ("SwitchSevenModel", "holiday", "[I", true)
  | 2 => ("SwitchSevenModel", "lateBank", "[I", true)
  | 3 => ("SwitchSevenModel", "lateDay", "[I", true)
  | 4 => ("SwitchSevenModel", "fee", "[I", true)
  | 5 => ("SwitchSevenModel", "cap", "[I", true)
  | 6 => ("SwitchSevenModel", "owed", "[I", true)
  | 7 => ("SwitchSevenModel", "did", "[I", true)
  | 8 => ("SwitchSevenModel", "nets", "[J", true)
  | 9 => ("SwitchSevenModel", "told", "[J", true)
  | 10 => ("SwitchSevenModel", "bank", "[I", true)
  | 11 => ("SwitchSevenModel", "name", "[I", true)
  | 12 => ("SwitchSevenModel", "joint", "[I", true)
  | 13 => ("SwitchSevenModel", "over", "[I", true)
  | 14 => ("SwitchSevenModel", "state", "[I", true)
  | 15 => ("SwitchSevenModel", "movedTo", "[I", true)
  | 16 => ("SwitchSevenModel", "movedOn", "[I", true)
  | 17 => ("SwitchSevenModel", "good", "[I", true)
  | 18 => ("SwitchSevenModel", "sum", "[J", true)
  | 19 => ("SwitchSevenModel", "history", "[J", true)
  | 20 => ("SwitchSevenModel", "kind", "[I", true)
  | 21 => ("SwitchSevenModel", "from", "[I", true)
  | 22 => ("SwitchSevenModel", "to", "[I", true)
  | 23 => ("SwitchSevenModel", "amount", "[I", true)
  | 24 => ("SwitchSevenModel", "first", "[I", true)
  | 25 => ("SwitchSevenModel", "every", "[I", true)
  | 26 => ("SwitchSevenModel", "endedOn", "[I", true)
  | 27 => ("SwitchSevenModel", "done", "[I", true)
  | 28 => ("SwitchSevenModel", "back", "[I", true)
  | 29 => ("SwitchSevenModel", "doneOn", "[I", true)
  | 30 => ("SwitchSevenModel", "oldOne", "[I", true)
  | 31 => ("SwitchSevenModel", "newOne", "[I", true)
  | 32 => ("SwitchSevenModel", "steps", "[I", true)
  | 33 => ("SwitchSevenModel", "why", "[I", true)
  | 34 => ("SwitchSevenModel", "faults", "[I", true)
  | 35 => ("SwitchSevenModel", "faultBank", "[I", true)
  | 36 => ("SwitchSevenModel", "askedOn", "[I", true)
  | 37 => ("SwitchSevenModel", "lastStep", "[I", true)
  | 38 => ("SwitchSevenModel", "goes", "[Z", true)
  | 39 => ("SwitchSevenModel", "agreed", "[Z", true)
  | 40 => ("SwitchSevenModel", "partly", "[Z", true)
  | 41 => ("SwitchSevenModel", "textSize", "[I", true)
  | 42 => ("SwitchSevenModel", "purpose", "[I", true)
  | 43 => ("SwitchSevenModel", "ruleFrom", "[I", true)
  | 44 => ("SwitchSevenModel", "text", "[I", true)
  | 45 => ("SwitchSevenModel", "surge", "[I", true)
  | 46 => ("SwitchSevenModel", "now", "I", false)
  | 47 => ("SwitchSevenModel", "holidays", "I", false)
  | 48 => ("SwitchSevenModel", "lates", "I", false)
  | 49 => ("SwitchSevenModel", "accounts", "I", false)
  | 50 => ("SwitchSevenModel", "lines", "I", false)
  | 51 => ("SwitchSevenModel", "moves", "I", false)
  | 52 => ("SwitchSevenModel", "rules", "I", false)
  | 53 => ("SwitchSevenModel", "nights", "I", false)
  | 54 => ("SwitchSevenModel", "lastNight", "I", false)
  | 55 => ("SwitchSevenModel", "tells", "I", false)
  | 56 => ("SwitchSevenModel", "surges", "I", false)
  | 57 => ("SwitchSevenModel", "tape", "[I", true)
  | 58 => ("SwitchSevenModel", "letters", "[I", true)
  | 59 => ("SwitchSevenModel", "taped", "I", false)
  | 60 => ("SwitchSevenModel", "at", "I", false)
  | 61 => ("SwitchSevenModel", "deep", "I", false)
  | 62 => ("SwitchSevenModel", "base", "I", false)
  | 63 => ("SwitchSevenModel", "size", "I", false)
  | _ => ("SwitchSevenModel", "isWell", "Z", false)
def tyX10 : Nat → FieldType := fun k => match k with
  | 0 => .array .int
  | 1 => .array .int
  | 2 => .array .int
  | 3 => .array .int
  | 4 => .array .int
  | 5 => .array .int
  | 6 => .array .int
  | 7 => .array .int
  | 8 => .array .long
  | 9 => .array .long
  | 10 => .array .int
  | 11 => .array .int
  | 12 => .array .int
  | 13 => .array .int
  | 14 => .array .int
  | 15 => .array .int
  | 16 => .array .int
  | 17 => .array .int
  | 18 => .array .long
  | 19 => .array .long
  | 20 => .array .int
  | 21 => .array .int
  | 22 => .array .int
  | 23 => .array .int
  | 24 => .array .int
  | 25 => .array .int
  | 26 => .array .int
  | 27 => .array .int
  | 28 => .array .int
  | 29 => .array .int
  | 30 => .array .int
  | 31 => .array .int
  | 32 => .array .int
  | 33 => .array .int
  | 34 => .array .int
  | 35 => .array .int
  | 36 => .array .int
  | 37 => .array .int
  | 38 => .array .boolean
  | 39 => .array .boolean
  | 40 => .array .boolean
  | 41 => .array .int
  | 42 => .array .int
  | 43 => .array .int
  | 44 => .array .int
  | 45 => .array .int
  | 46 => .int
  | 47 => .int
  | 48 => .int
  | 49 => .int
  | 50 => .int
  | 51 => .int
  | 52 => .int
  | 53 => .int
  | 54 => .int
  | 55 => .int
  | 56 => .int
  | 57 => .array .int
  | 58 => .array .int
  | 59 => .int
  | 60 => .int
  | 61 => .int
  | 62 => .int
  | 63 => .int
  | _ => .boolean
abbrev wsX100 : List Cond := u_ws RX10 TX10 65
theorem nmX10 : ∀ a, a < 65 → ∀ b, b < 65 → a ≠ b → (TX10 a).2.1 ≠ (TX10 b).2.1 := by decide +kernel
theorem tyX10_ok : ∀ k, k < 65 → parseFieldDescriptor (TX10 k).2.2.1 = some (tyX10 k) := by decide +kernel
abbrev cX10_init : ByteArray := prog_12_method_1_code
def yX10_init : MethodName := ⟨RX10, "<init>", "()V"⟩
abbrev cX10_refuse : ByteArray := prog_12_method_2_code
def yX10_refuse : MethodName := ⟨RX10, "refuse", "(I)I"⟩
abbrev cX10_refuseFar : ByteArray := prog_12_method_3_code
def yX10_refuseFar : MethodName := ⟨RX10, "refuseFar", "(I)J"⟩
abbrev cX10_isIn : ByteArray := prog_12_method_4_code
def yX10_isIn : MethodName := ⟨RX10, "isIn", "(II)Z"⟩
abbrev cX10_isBank : ByteArray := prog_12_method_5_code
def yX10_isBank : MethodName := ⟨RX10, "isBank", "(I)Z"⟩
abbrev cX10_isAccount : ByteArray := prog_12_method_6_code
def yX10_isAccount : MethodName := ⟨RX10, "isAccount", "(I)Z"⟩
abbrev cX10_within : ByteArray := prog_12_method_7_code
def yX10_within : MethodName := ⟨RX10, "within", "(III)I"⟩
abbrev cX10_works : ByteArray := prog_12_method_8_code
def yX10_works : MethodName := ⟨RX10, "works", "(I)Z"⟩
abbrev cX10_days : ByteArray := prog_12_method_9_code
def yX10_days : MethodName := ⟨RX10, "days", "(I)I"⟩
abbrev cX10_holiday : ByteArray := prog_12_method_10_code
def yX10_holiday : MethodName := ⟨RX10, "holiday", "(I)I"⟩
abbrev cX10_isWorking : ByteArray := prog_12_method_11_code
def yX10_isWorking : MethodName := ⟨RX10, "isWorking", "(I)I"⟩
abbrev cX10_bank : ByteArray := prog_12_method_12_code
def yX10_bank : MethodName := ⟨RX10, "bank", "(III)I"⟩
abbrev cX10_isLate : ByteArray := prog_12_method_13_code
def yX10_isLate : MethodName := ⟨RX10, "isLate", "(II)Z"⟩
abbrev cX10_late : ByteArray := prog_12_method_14_code
def yX10_late : MethodName := ⟨RX10, "late", "(II)I"⟩
abbrev cX10_opens : ByteArray := prog_12_method_15_code
def yX10_opens : MethodName := ⟨RX10, "opens", "(III)I"⟩
abbrev cX10_account : ByteArray := prog_12_method_16_code
def yX10_account : MethodName := ⟨RX10, "account", "(III)I"⟩
abbrev cX10_put : ByteArray := prog_12_method_17_code
def yX10_put : MethodName := ⟨RX10, "put", "(II)J"⟩
abbrev cX10_over : ByteArray := prog_12_method_18_code
def yX10_over : MethodName := ⟨RX10, "over", "(II)I"⟩
abbrev cX10_isMoving : ByteArray := prog_12_method_19_code
def yX10_isMoving : MethodName := ⟨RX10, "isMoving", "(I)Z"⟩
abbrev cX10_close : ByteArray := prog_12_method_20_code
def yX10_close : MethodName := ⟨RX10, "close", "(I)I"⟩
abbrev cX10_sum : ByteArray := prog_12_method_21_code
def yX10_sum : MethodName := ⟨RX10, "sum", "(I)J"⟩
abbrev cX10_was : ByteArray := prog_12_method_22_code
def yX10_was : MethodName := ⟨RX10, "was", "(II)J"⟩
abbrev cX10_lastOf : ByteArray := prog_12_method_23_code
def yX10_lastOf : MethodName := ⟨RX10, "lastOf", "(I)I"⟩
abbrev cX10_accountOf : ByteArray := prog_12_method_24_code
def yX10_accountOf : MethodName := ⟨RX10, "accountOf", "(II)I"⟩
abbrev cX10_sentOn : ByteArray := prog_12_method_25_code
def yX10_sentOn : MethodName := ⟨RX10, "sentOn", "(II)I"⟩
abbrev cX10_sends : ByteArray := prog_12_method_26_code
def yX10_sends : MethodName := ⟨RX10, "sends", "(II)I"⟩
abbrev cX10_feed : ByteArray := prog_12_method_27_code
def yX10_feed : MethodName := ⟨RX10, "feed", "(IJ)I"⟩
abbrev cX10_sign : ByteArray := prog_12_method_28_code
def yX10_sign : MethodName := ⟨RX10, "sign", "()I"⟩
abbrev cX10_held : ByteArray := prog_12_method_29_code
def yX10_held : MethodName := ⟨RX10, "held", "(J)I"⟩
abbrev cX10_takes : ByteArray := prog_12_method_30_code
def yX10_takes : MethodName := ⟨RX10, "takes", "(I)Z"⟩
abbrev cX10_isLetter : ByteArray := prog_12_method_31_code
def yX10_isLetter : MethodName := ⟨RX10, "isLetter", "(I)Z"⟩
abbrev cX10_sumOf : ByteArray := prog_12_method_32_code
def yX10_sumOf : MethodName := ⟨RX10, "sumOf", "()I"⟩
abbrev cX10_term : ByteArray := prog_12_method_33_code
def yX10_term : MethodName := ⟨RX10, "term", "()I"⟩
abbrev cX10_breaks : ByteArray := prog_12_method_34_code
def yX10_breaks : MethodName := ⟨RX10, "breaks", "()I"⟩
abbrev cX10_unit : ByteArray := prog_12_method_35_code
def yX10_unit : MethodName := ⟨RX10, "unit", "()I"⟩
abbrev cX10_goesThrough : ByteArray := prog_12_method_36_code
def yX10_goesThrough : MethodName := ⟨RX10, "goesThrough", "(II)I"⟩
abbrev cX10_rule : ByteArray := prog_12_method_37_code
def yX10_rule : MethodName := ⟨RX10, "rule", "(II)I"⟩
abbrev cX10_worth : ByteArray := prog_12_method_38_code
def yX10_worth : MethodName := ⟨RX10, "worth", "(II)I"⟩
abbrev cX10_bare : ByteArray := prog_12_method_39_code
def yX10_bare : MethodName := ⟨RX10, "bare", "()V"⟩
abbrev cX10_puts : ByteArray := prog_12_method_40_code
def yX10_puts : MethodName := ⟨RX10, "puts", "(III)V"⟩
abbrev cX10_line : ByteArray := prog_12_method_41_code
def yX10_line : MethodName := ⟨RX10, "line", "(IIIIII)I"⟩
abbrev cX10_isLine : ByteArray := prog_12_method_42_code
def yX10_isLine : MethodName := ⟨RX10, "isLine", "(I)Z"⟩
abbrev cX10_end : ByteArray := prog_12_method_43_code
def yX10_end : MethodName := ⟨RX10, "end", "(I)I"⟩
abbrev cX10_lineOf : ByteArray := prog_12_method_44_code
def yX10_lineOf : MethodName := ⟨RX10, "lineOf", "(II)I"⟩
abbrev cX10_isDue : ByteArray := prog_12_method_45_code
def yX10_isDue : MethodName := ⟨RX10, "isDue", "(II)Z"⟩
abbrev cX10_goesOut : ByteArray := prog_12_method_46_code
def yX10_goesOut : MethodName := ⟨RX10, "goesOut", "(I)V"⟩
abbrev cX10_ask : ByteArray := prog_12_method_47_code
def yX10_ask : MethodName := ⟨RX10, "ask", "(IIZ)I"⟩
abbrev cX10_isMove : ByteArray := prog_12_method_48_code
def yX10_isMove : MethodName := ⟨RX10, "isMove", "(I)Z"⟩
abbrev cX10_agree : ByteArray := prog_12_method_49_code
def yX10_agree : MethodName := ⟨RX10, "agree", "(I)I"⟩
abbrev cX10_refuses : ByteArray := prog_12_method_50_code
def yX10_refuses : MethodName := ⟨RX10, "refuses", "(II)V"⟩
abbrev cX10_takeBack : ByteArray := prog_12_method_51_code
def yX10_takeBack : MethodName := ⟨RX10, "takeBack", "(I)I"⟩
abbrev cX10_goesOn : ByteArray := prog_12_method_52_code
def yX10_goesOn : MethodName := ⟨RX10, "goesOn", "(I)V"⟩
abbrev cX10_moveOf : ByteArray := prog_12_method_53_code
def yX10_moveOf : MethodName := ⟨RX10, "moveOf", "(II)I"⟩
abbrev cX10_owes : ByteArray := prog_12_method_54_code
def yX10_owes : MethodName := ⟨RX10, "owes", "(I)I"⟩
abbrev cX10_night : ByteArray := prog_12_method_55_code
def yX10_night : MethodName := ⟨RX10, "night", "()V"⟩
abbrev cX10_likeOf : ByteArray := prog_12_method_56_code
def yX10_likeOf : MethodName := ⟨RX10, "likeOf", "(II)I"⟩
abbrev cX10_likes : ByteArray := prog_12_method_57_code
def yX10_likes : MethodName := ⟨RX10, "likes", "(II)I"⟩
abbrev cX10_like : ByteArray := prog_12_method_58_code
def yX10_like : MethodName := ⟨RX10, "like", "(II)I"⟩
abbrev cX10_rivalOf : ByteArray := prog_12_method_59_code
def yX10_rivalOf : MethodName := ⟨RX10, "rivalOf", "(III)I"⟩
abbrev cX10_rivals : ByteArray := prog_12_method_60_code
def yX10_rivals : MethodName := ⟨RX10, "rivals", "(II)I"⟩
abbrev cX10_rival : ByteArray := prog_12_method_61_code
def yX10_rival : MethodName := ⟨RX10, "rival", "(III)I"⟩
abbrev cX10_net : ByteArray := prog_12_method_62_code
def yX10_net : MethodName := ⟨RX10, "net", "(I)J"⟩
abbrev cX10_tell : ByteArray := prog_12_method_63_code
def yX10_tell : MethodName := ⟨RX10, "tell", "(J)I"⟩
abbrev cX10_check : ByteArray := prog_12_method_64_code
def yX10_check : MethodName := ⟨RX10, "check", "()I"⟩
abbrev cX10_surge : ByteArray := prog_12_method_65_code
def yX10_surge : MethodName := ⟨RX10, "surge", "(I)I"⟩
abbrev cX10_least : ByteArray := prog_12_method_66_code
def yX10_least : MethodName := ⟨RX10, "least", "()I"⟩
abbrev cX10_tooLate : ByteArray := prog_12_method_67_code
def yX10_tooLate : MethodName := ⟨RX10, "tooLate", "(I)I"⟩
abbrev cX10_count : ByteArray := prog_12_method_68_code
def yX10_count : MethodName := ⟨RX10, "count", "(I)I"⟩
def RJx145de : String := "java/io/Serializable"
def TJx145de : u_T := fun k => match k with
  | _ => ("", "", "", false)
def tyJx145de : Nat → FieldType := fun k => match k with
  | _ => .int
abbrev wsJx145de0 : List Cond := u_ws RJx145de TJx145de 0
theorem nmJx145de : ∀ a, a < 0 → ∀ b, b < 0 → a ≠ b → (TJx145de a).2.1 ≠ (TJx145de b).2.1 := by decide +kernel
theorem tyJx145de_ok : ∀ k, k < 0 → parseFieldDescriptor (TJx145de k).2.2.1 = some (tyJx145de k) := by decide +kernel
def RJx9f9b0 : String := "java/lang/CharSequence"
def TJx9f9b0 : u_T := fun k => match k with
  | _ => ("", "", "", false)
def tyJx9f9b0 : Nat → FieldType := fun k => match k with
  | _ => .int
abbrev wsJx9f9b00 : List Cond := u_ws RJx9f9b0 TJx9f9b0 0
theorem nmJx9f9b0 : ∀ a, a < 0 → ∀ b, b < 0 → a ≠ b → (TJx9f9b0 a).2.1 ≠ (TJx9f9b0 b).2.1 := by decide +kernel
theorem tyJx9f9b0_ok : ∀ k, k < 0 → parseFieldDescriptor (TJx9f9b0 k).2.2.1 = some (tyJx9f9b0 k) := by decide +kernel
def RJ11 : String := "java/lang/Character"
def TJ11 : u_T := fun k => match k with
  | _ => ("", "", "", false)
def tyJ11 : Nat → FieldType := fun k => match k with
  | _ => .int
abbrev wsJ110 : List Cond := u_ws RJ11 TJ11 0
theorem nmJ11 : ∀ a, a < 0 → ∀ b, b < 0 → a ≠ b → (TJ11 a).2.1 ≠ (TJ11 b).2.1 := by decide +kernel
theorem tyJ11_ok : ∀ k, k < 0 → parseFieldDescriptor (TJ11 k).2.2.1 = some (tyJ11 k) := by decide +kernel
abbrev cJ11_isValidCodePoint_9a6ad : ByteArray := prog_15_method_11_code
def yJ11_isValidCodePoint_9a6ad : MethodName := ⟨RJ11, "isValidCodePoint", "(I)Z"⟩
abbrev cJ11_highSurrogate_5068e : ByteArray := prog_15_method_28_code
def yJ11_highSurrogate_5068e : MethodName := ⟨RJ11, "highSurrogate", "(I)C"⟩
abbrev cJ11_lowSurrogate_5068e : ByteArray := prog_15_method_29_code
def yJ11_lowSurrogate_5068e : MethodName := ⟨RJ11, "lowSurrogate", "(I)C"⟩
def RJx8e188 : String := "java/lang/Cloneable"
def TJx8e188 : u_T := fun k => match k with
  | _ => ("", "", "", false)
def tyJx8e188 : Nat → FieldType := fun k => match k with
  | _ => .int
abbrev wsJx8e1880 : List Cond := u_ws RJx8e188 TJx8e188 0
theorem nmJx8e188 : ∀ a, a < 0 → ∀ b, b < 0 → a ≠ b → (TJx8e188 a).2.1 ≠ (TJx8e188 b).2.1 := by decide +kernel
theorem tyJx8e188_ok : ∀ k, k < 0 → parseFieldDescriptor (TJx8e188 k).2.2.1 = some (tyJx8e188 k) := by decide +kernel
def RJxb160c : String := "java/lang/Comparable"
def TJxb160c : u_T := fun k => match k with
  | _ => ("", "", "", false)
def tyJxb160c : Nat → FieldType := fun k => match k with
  | _ => .int
abbrev wsJxb160c0 : List Cond := u_ws RJxb160c TJxb160c 0
theorem nmJxb160c : ∀ a, a < 0 → ∀ b, b < 0 → a ≠ b → (TJxb160c a).2.1 ≠ (TJxb160c b).2.1 := by decide +kernel
theorem tyJxb160c_ok : ∀ k, k < 0 → parseFieldDescriptor (TJxb160c k).2.2.1 = some (tyJxb160c k) := by decide +kernel
def RJxab1ab : String := "java/lang/Iterable"
def TJxab1ab : u_T := fun k => match k with
  | _ => ("", "", "", false)
def tyJxab1ab : Nat → FieldType := fun k => match k with
  | _ => .int
abbrev wsJxab1ab0 : List Cond := u_ws RJxab1ab TJxab1ab 0
theorem nmJxab1ab : ∀ a, a < 0 → ∀ b, b < 0 → a ≠ b → (TJxab1ab a).2.1 ≠ (TJxab1ab b).2.1 := by decide +kernel
theorem tyJxab1ab_ok : ∀ k, k < 0 → parseFieldDescriptor (TJxab1ab k).2.2.1 = some (tyJxab1ab k) := by decide +kernel
def RJ9 : String := "java/lang/Math"
def TJ9 : u_T := fun k => match k with
  | _ => ("", "", "", false)
def tyJ9 : Nat → FieldType := fun k => match k with
  | _ => .int
abbrev wsJ90 : List Cond := u_ws RJ9 TJ9 0
theorem nmJ9 : ∀ a, a < 0 → ∀ b, b < 0 → a ≠ b → (TJ9 a).2.1 ≠ (TJ9 b).2.1 := by decide +kernel
theorem tyJ9_ok : ∀ k, k < 0 → parseFieldDescriptor (TJ9 k).2.2.1 = some (tyJ9 k) := by decide +kernel
abbrev cJ9_max_7cf53 : ByteArray := prog_19_method_65_code
def yJ9_max_7cf53 : MethodName := ⟨RJ9, "max", "(II)I"⟩
abbrev cJ9_max_f86c9 : ByteArray := prog_19_method_66_code
def yJ9_max_f86c9 : MethodName := ⟨RJ9, "max", "(JJ)J"⟩
abbrev cJ9_min_7cf53 : ByteArray := prog_19_method_69_code
def yJ9_min_7cf53 : MethodName := ⟨RJ9, "min", "(II)I"⟩
abbrev cJ9_min_f86c9 : ByteArray := prog_19_method_70_code
def yJ9_min_f86c9 : MethodName := ⟨RJ9, "min", "(JJ)J"⟩
def RJ0 : String := "java/lang/String"
def TJ0 : u_T := fun k => match k with
  | _ => ("", "", "", false)
def tyJ0 : Nat → FieldType := fun k => match k with
  | _ => .int
abbrev wsJ00 : List Cond := u_ws RJ0 TJ0 0
theorem nmJ0 : ∀ a, a < 0 → ∀ b, b < 0 → a ≠ b → (TJ0 a).2.1 ≠ (TJ0 b).2.1 := by decide +kernel
theorem tyJ0_ok : ∀ k, k < 0 → parseFieldDescriptor (TJ0 k).2.2.1 = some (tyJ0 k) := by decide +kernel
abbrev cJ0_length_8abf5 : ByteArray := prog_20_method_54_code
def yJ0_length_8abf5 : MethodName := ⟨RJ0, "length", "()I"⟩
abbrev cJ0_indexOf_0f7a4 : ByteArray := prog_20_method_79_code
def yJ0_indexOf_0f7a4 : MethodName := ⟨RJ0, "indexOf", "(I)I"⟩
abbrev cJ0_indexOf_7cf53 : ByteArray := prog_20_method_80_code
def yJ0_indexOf_7cf53 : MethodName := ⟨RJ0, "indexOf", "(II)I"⟩
abbrev cJ0_coder_7d493 : ByteArray := prog_20_method_152_code
def yJ0_coder_7d493 : MethodName := ⟨RJ0, "coder", "()B"⟩
abbrev cJ0_isLatin1_aae02 : ByteArray := prog_20_method_154_code
def yJ0_isLatin1_aae02 : MethodName := ⟨RJ0, "isLatin1", "()Z"⟩
abbrev cJ0_checkBoundsBeginEnd_23922 : ByteArray := prog_20_method_158_code
def yJ0_checkBoundsBeginEnd_23922 : MethodName := ⟨RJ0, "checkBoundsBeginEnd", "(III)V"⟩
def RJ1 : String := "java/lang/StringLatin1"
def TJ1 : u_T := fun k => match k with
  | _ => ("", "", "", false)
def tyJ1 : Nat → FieldType := fun k => match k with
  | _ => .int
abbrev wsJ10 : List Cond := u_ws RJ1 TJ1 0
theorem nmJ1 : ∀ a, a < 0 → ∀ b, b < 0 → a ≠ b → (TJ1 a).2.1 ≠ (TJ1 b).2.1 := by decide +kernel
theorem tyJ1_ok : ∀ k, k < 0 → parseFieldDescriptor (TJ1 k).2.2.1 = some (tyJ1 k) := by decide +kernel
abbrev cJ1_canEncode_9a6ad : ByteArray := prog_21_method_4_code
def yJ1_canEncode_9a6ad : MethodName := ⟨RJ1, "canEncode", "(I)Z"⟩
abbrev cJ1_indexOf_4cfef : ByteArray := prog_21_method_22_code
def yJ1_indexOf_4cfef : MethodName := ⟨RJ1, "indexOf", "([BIII)I"⟩
abbrev cJ1_indexOfChar_4cfef : ByteArray := prog_21_method_23_code
def yJ1_indexOfChar_4cfef : MethodName := ⟨RJ1, "indexOfChar", "([BIII)I"⟩
def RJ2 : String := "java/lang/StringUTF16"
def TJ2 : u_T := fun k => match k with
  | _ => ("", "", "", false)
def tyJ2 : Nat → FieldType := fun k => match k with
  | _ => .int
abbrev wsJ20 : List Cond := u_ws RJ2 TJ2 0
theorem nmJ2 : ∀ a, a < 0 → ∀ b, b < 0 → a ≠ b → (TJ2 a).2.1 ≠ (TJ2 b).2.1 := by decide +kernel
theorem tyJ2_ok : ∀ k, k < 0 → parseFieldDescriptor (TJ2 k).2.2.1 = some (tyJ2 k) := by decide +kernel
abbrev cJ2_getChar_3b067 : ByteArray := prog_22_method_5_code
def yJ2_getChar_3b067 : MethodName := ⟨RJ2, "getChar", "([BI)C"⟩
abbrev cJ2_length_9d52b : ByteArray := prog_22_method_6_code
def yJ2_length_9d52b : MethodName := ⟨RJ2, "length", "([B)I"⟩
abbrev cJ2_indexOf_4cfef : ByteArray := prog_22_method_40_code
def yJ2_indexOf_4cfef : MethodName := ⟨RJ2, "indexOf", "([BIII)I"⟩
abbrev cJ2_indexOfChar_4cfef : ByteArray := prog_22_method_47_code
def yJ2_indexOfChar_4cfef : MethodName := ⟨RJ2, "indexOfChar", "([BIII)I"⟩
abbrev cJ2_indexOfCharUnsafe_4cfef : ByteArray := prog_22_method_48_code
def yJ2_indexOfCharUnsafe_4cfef : MethodName := ⟨RJ2, "indexOfCharUnsafe", "([BIII)I"⟩
abbrev cJ2_indexOfSupplementary_4cfef : ByteArray := prog_22_method_49_code
def yJ2_indexOfSupplementary_4cfef : MethodName := ⟨RJ2, "indexOfSupplementary", "([BIII)I"⟩
abbrev cJ2_checkBoundsBeginEnd_d044e : ByteArray := prog_22_method_93_code
def yJ2_checkBoundsBeginEnd_d044e : MethodName := ⟨RJ2, "checkBoundsBeginEnd", "(II[B)V"⟩
def RJ10 : String := "java/lang/System"
def TJ10 : u_T := fun k => match k with
  | _ => ("", "", "", false)
def tyJ10 : Nat → FieldType := fun k => match k with
  | _ => .int
abbrev wsJ100 : List Cond := u_ws RJ10 TJ10 0
theorem nmJ10 : ∀ a, a < 0 → ∀ b, b < 0 → a ≠ b → (TJ10 a).2.1 ≠ (TJ10 b).2.1 := by decide +kernel
theorem tyJ10_ok : ∀ k, k < 0 → parseFieldDescriptor (TJ10 k).2.2.1 = some (tyJ10 k) := by decide +kernel
def RJxfd54e : String := "java/lang/constant/Constable"
def TJxfd54e : u_T := fun k => match k with
  | _ => ("", "", "", false)
def tyJxfd54e : Nat → FieldType := fun k => match k with
  | _ => .int
abbrev wsJxfd54e0 : List Cond := u_ws RJxfd54e TJxfd54e 0
theorem nmJxfd54e : ∀ a, a < 0 → ∀ b, b < 0 → a ≠ b → (TJxfd54e a).2.1 ≠ (TJxfd54e b).2.1 := by decide +kernel
theorem tyJxfd54e_ok : ∀ k, k < 0 → parseFieldDescriptor (TJxfd54e k).2.2.1 = some (tyJxfd54e k) := by decide +kernel
def RJx3cf43 : String := "java/lang/constant/ConstantDesc"
def TJx3cf43 : u_T := fun k => match k with
  | _ => ("", "", "", false)
def tyJx3cf43 : Nat → FieldType := fun k => match k with
  | _ => .int
abbrev wsJx3cf430 : List Cond := u_ws RJx3cf43 TJx3cf43 0
theorem nmJx3cf43 : ∀ a, a < 0 → ∀ b, b < 0 → a ≠ b → (TJx3cf43 a).2.1 ≠ (TJx3cf43 b).2.1 := by decide +kernel
theorem tyJx3cf43_ok : ∀ k, k < 0 → parseFieldDescriptor (TJx3cf43 k).2.2.1 = some (tyJx3cf43 k) := by decide +kernel
def RJxa1e45 : String := "java/util/AbstractCollection"
def TJxa1e45 : u_T := fun k => match k with
  | _ => ("", "", "", false)
def tyJxa1e45 : Nat → FieldType := fun k => match k with
  | _ => .int
abbrev wsJxa1e450 : List Cond := u_ws RJxa1e45 TJxa1e45 0
theorem nmJxa1e45 : ∀ a, a < 0 → ∀ b, b < 0 → a ≠ b → (TJxa1e45 a).2.1 ≠ (TJxa1e45 b).2.1 := by decide +kernel
theorem tyJxa1e45_ok : ∀ k, k < 0 → parseFieldDescriptor (TJxa1e45 k).2.2.1 = some (tyJxa1e45 k) := by decide +kernel
abbrev cJxa1e45_init_da8c8 : ByteArray := prog_26_method_1_code
def yJxa1e45_init_da8c8 : MethodName := ⟨RJxa1e45, "<init>", "()V"⟩
def RJxc12de : String := "java/util/AbstractList"
def TJxc12de : u_T := fun k => match k with
  | _ => ("", "", "", false)
def tyJxc12de : Nat → FieldType := fun k => match k with
  | _ => .int
abbrev wsJxc12de0 : List Cond := u_ws RJxc12de TJxc12de 0
theorem nmJxc12de : ∀ a, a < 0 → ∀ b, b < 0 → a ≠ b → (TJxc12de a).2.1 ≠ (TJxc12de b).2.1 := by decide +kernel
theorem tyJxc12de_ok : ∀ k, k < 0 → parseFieldDescriptor (TJxc12de k).2.2.1 = some (tyJxc12de k) := by decide +kernel
abbrev cJxc12de_init_da8c8 : ByteArray := prog_27_method_1_code
def yJxc12de_init_da8c8 : MethodName := ⟨RJxc12de, "<init>", "()V"⟩
def RJx4a65c : String := "java/util/ArrayList"
def TJx4a65c : u_T := fun k => match k with
  | 0 => ("java/util/AbstractList", "modCount", "I", false)
  | 1 => ("java/util/ArrayList", "elementData", "[Ljava/lang/Object;", false)
  | _ => ("java/util/ArrayList", "size", "I", false)
def tyJx4a65c : Nat → FieldType := fun k => match k with
  | 0 => .int
  | 1 => .array (.object "java/lang/Object")
  | _ => .int
abbrev wsJx4a65c0 : List Cond := u_ws RJx4a65c TJx4a65c 3
theorem nmJx4a65c : ∀ a, a < 3 → ∀ b, b < 3 → a ≠ b → (TJx4a65c a).2.1 ≠ (TJx4a65c b).2.1 := by decide +kernel
theorem tyJx4a65c_ok : ∀ k, k < 3 → parseFieldDescriptor (TJx4a65c k).2.2.1 = some (tyJx4a65c k) := by decide +kernel
abbrev cJx4a65c_init_da8c8 : ByteArray := prog_28_method_2_code
def yJx4a65c_init_da8c8 : MethodName := ⟨RJx4a65c, "<init>", "()V"⟩
abbrev cJx4a65c_grow_92f84 : ByteArray := prog_28_method_6_code
def yJx4a65c_grow_92f84 : MethodName := ⟨RJx4a65c, "grow", "(I)[Ljava/lang/Object;"⟩
abbrev cJx4a65c_grow_d5877 : ByteArray := prog_28_method_7_code
def yJx4a65c_grow_d5877 : MethodName := ⟨RJx4a65c, "grow", "()[Ljava/lang/Object;"⟩
abbrev cJx4a65c_size_8abf5 : ByteArray := prog_28_method_8_code
def yJx4a65c_size_8abf5 : MethodName := ⟨RJx4a65c, "size", "()I"⟩
abbrev cJx4a65c_elementData_915e3 : ByteArray := prog_28_method_18_code
def yJx4a65c_elementData_915e3 : MethodName := ⟨RJx4a65c, "elementData", "(I)Ljava/lang/Object;"⟩
abbrev cJx4a65c_get_915e3 : ByteArray := prog_28_method_20_code
def yJx4a65c_get_915e3 : MethodName := ⟨RJx4a65c, "get", "(I)Ljava/lang/Object;"⟩
abbrev cJx4a65c_add_72be8 : ByteArray := prog_28_method_24_code
def yJx4a65c_add_72be8 : MethodName := ⟨RJx4a65c, "add", "(Ljava/lang/Object;[Ljava/lang/Object;I)V"⟩
abbrev cJx4a65c_add_9ea2d : ByteArray := prog_28_method_25_code
def yJx4a65c_add_9ea2d : MethodName := ⟨RJx4a65c, "add", "(Ljava/lang/Object;)Z"⟩
def RJ7 : String := "java/util/Arrays"
def TJ7 : u_T := fun k => match k with
  | _ => ("", "", "", false)
def tyJ7 : Nat → FieldType := fun k => match k with
  | _ => .int
abbrev wsJ70 : List Cond := u_ws RJ7 TJ7 0
theorem nmJ7 : ∀ a, a < 0 → ∀ b, b < 0 → a ≠ b → (TJ7 a).2.1 ≠ (TJ7 b).2.1 := by decide +kernel
theorem tyJ7_ok : ∀ k, k < 0 → parseFieldDescriptor (TJ7 k).2.2.1 = some (tyJ7 k) := by decide +kernel
abbrev cJ7_fill_d0a16 : ByteArray := prog_29_method_101_code
def yJ7_fill_d0a16 : MethodName := ⟨RJ7, "fill", "([JJ)V"⟩
abbrev cJ7_copyOf_1904c : ByteArray := prog_29_method_119_code
def yJ7_copyOf_1904c : MethodName := ⟨RJ7, "copyOf", "([Ljava/lang/Object;I)[Ljava/lang/Object;"⟩
abbrev cJ7_copyOf_6403c : ByteArray := prog_29_method_120_code
def yJ7_copyOf_6403c : MethodName := ⟨RJ7, "copyOf", "([Ljava/lang/Object;ILjava/lang/Class;)[Ljava/lang/Object;"⟩
abbrev cJ7_copyOf_59c91 : ByteArray := prog_29_method_123_code
def yJ7_copyOf_59c91 : MethodName := ⟨RJ7, "copyOf", "([II)[I"⟩
def RJx5ef63 : String := "java/util/Collection"
def TJx5ef63 : u_T := fun k => match k with
  | _ => ("", "", "", false)
def tyJx5ef63 : Nat → FieldType := fun k => match k with
  | _ => .int
abbrev wsJx5ef630 : List Cond := u_ws RJx5ef63 TJx5ef63 0
theorem nmJx5ef63 : ∀ a, a < 0 → ∀ b, b < 0 → a ≠ b → (TJx5ef63 a).2.1 ≠ (TJx5ef63 b).2.1 := by decide +kernel
theorem tyJx5ef63_ok : ∀ k, k < 0 → parseFieldDescriptor (TJx5ef63 k).2.2.1 = some (tyJx5ef63 k) := by decide +kernel
def RJxbd725 : String := "java/util/List"
def TJxbd725 : u_T := fun k => match k with
  | _ => ("", "", "", false)
def tyJxbd725 : Nat → FieldType := fun k => match k with
  | _ => .int
abbrev wsJxbd7250 : List Cond := u_ws RJxbd725 TJxbd725 0
theorem nmJxbd725 : ∀ a, a < 0 → ∀ b, b < 0 → a ≠ b → (TJxbd725 a).2.1 ≠ (TJxbd725 b).2.1 := by decide +kernel
theorem tyJxbd725_ok : ∀ k, k < 0 → parseFieldDescriptor (TJxbd725 k).2.2.1 = some (tyJxbd725 k) := by decide +kernel
def RJ15 : String := "java/util/Objects"
def TJ15 : u_T := fun k => match k with
  | _ => ("", "", "", false)
def tyJ15 : Nat → FieldType := fun k => match k with
  | _ => .int
abbrev wsJ150 : List Cond := u_ws RJ15 TJ15 0
theorem nmJ15 : ∀ a, a < 0 → ∀ b, b < 0 → a ≠ b → (TJ15 a).2.1 ≠ (TJ15 b).2.1 := by decide +kernel
theorem tyJ15_ok : ∀ k, k < 0 → parseFieldDescriptor (TJ15 k).2.2.1 = some (tyJ15 k) := by decide +kernel
abbrev cJ15_checkIndex_7cf53 : ByteArray := prog_32_method_17_code
def yJ15_checkIndex_7cf53 : MethodName := ⟨RJ15, "checkIndex", "(II)I"⟩
def RJxf0a74 : String := "java/util/RandomAccess"
def TJxf0a74 : u_T := fun k => match k with
  | _ => ("", "", "", false)
def tyJxf0a74 : Nat → FieldType := fun k => match k with
  | _ => .int
abbrev wsJxf0a740 : List Cond := u_ws RJxf0a74 TJxf0a74 0
theorem nmJxf0a74 : ∀ a, a < 0 → ∀ b, b < 0 → a ≠ b → (TJxf0a74 a).2.1 ≠ (TJxf0a74 b).2.1 := by decide +kernel
theorem tyJxf0a74_ok : ∀ k, k < 0 → parseFieldDescriptor (TJxf0a74 k).2.2.1 = some (tyJxf0a74 k) := by decide +kernel
def RJxa66e6 : String := "java/util/SequencedCollection"
def TJxa66e6 : u_T := fun k => match k with
  | _ => ("", "", "", false)
def tyJxa66e6 : Nat → FieldType := fun k => match k with
  | _ => .int
abbrev wsJxa66e60 : List Cond := u_ws RJxa66e6 TJxa66e6 0
theorem nmJxa66e6 : ∀ a, a < 0 → ∀ b, b < 0 → a ≠ b → (TJxa66e6 a).2.1 ≠ (TJxa66e6 b).2.1 := by decide +kernel
theorem tyJxa66e6_ok : ∀ k, k < 0 → parseFieldDescriptor (TJxa66e6 k).2.2.1 = some (tyJxa66e6 k) := by decide +kernel
def RJ8 : String := "jdk/internal/util/ArraysSupport"
def TJ8 : u_T := fun k => match k with
  | _ => ("", "", "", false)
def tyJ8 : Nat → FieldType := fun k => match k with
  | _ => .int
abbrev wsJ80 : List Cond := u_ws RJ8 TJ8 0
theorem nmJ8 : ∀ a, a < 0 → ∀ b, b < 0 → a ≠ b → (TJ8 a).2.1 ≠ (TJ8 b).2.1 := by decide +kernel
theorem tyJ8_ok : ∀ k, k < 0 → parseFieldDescriptor (TJ8 k).2.2.1 = some (tyJ8 k) := by decide +kernel
abbrev cJ8_newLength_cabcc : ByteArray := prog_35_method_27_code
def yJ8_newLength_cabcc : MethodName := ⟨RJ8, "newLength", "(III)I"⟩
abbrev cJ8_hugeLength_7cf53 : ByteArray := prog_35_method_28_code
def yJ8_hugeLength_7cf53 : MethodName := ⟨RJ8, "hugeLength", "(II)I"⟩
def RJ3 : String := "jdk/internal/util/Preconditions"
def TJ3 : u_T := fun k => match k with
  | _ => ("", "", "", false)
def tyJ3 : Nat → FieldType := fun k => match k with
  | _ => .int
abbrev wsJ30 : List Cond := u_ws RJ3 TJ3 0
theorem nmJ3 : ∀ a, a < 0 → ∀ b, b < 0 → a ≠ b → (TJ3 a).2.1 ≠ (TJ3 b).2.1 := by decide +kernel
theorem tyJ3_ok : ∀ k, k < 0 → parseFieldDescriptor (TJ3 k).2.2.1 = some (tyJ3 k) := by decide +kernel
abbrev cJ3_checkIndex_8e157 : ByteArray := prog_36_method_11_code
def yJ3_checkIndex_8e157 : MethodName := ⟨RJ3, "checkIndex", "(IILjava/util/function/BiFunction;)I"⟩
abbrev cJ3_checkFromToIndex_8c36e : ByteArray := prog_36_method_12_code
def yJ3_checkFromToIndex_8c36e : MethodName := ⟨RJ3, "checkFromToIndex", "(IIILjava/util/function/BiFunction;)I"⟩
def RL : String := "SwitchSevenLaw"
abbrev cL_law : ByteArray := code
def yL_law : MethodName := ⟨RL, "law", "([I)Z"⟩
