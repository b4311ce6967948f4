def RX0 : String := "PrecedentHall$Bot"
def TX0 : u_T := fun k => match k with
  | 0 => ("PrecedentHall$Bot", "kind", "I", true)
  | _ => ("PrecedentHall$Bot", "threshold", "I", false)
def tyX0 : Nat → FieldType := fun k => match k with
  | 0 => .int
  | _ => .int
abbrev wsX00 : List Cond := u_ws RX0 TX0 2
theorem nmX0 : ∀ a, a < 2 → ∀ b, b < 2 → a ≠ b → (TX0 a).2.1 ≠ (TX0 b).2.1 := by decide +kernel
theorem tyX0_ok : ∀ k, k < 2 → parseFieldDescriptor (TX0 k).2.2.1 = some (tyX0 k) := by decide +kernel
abbrev cX0_init : ByteArray := prog_2_method_1_code
def yX0_init : MethodName := ⟨RX0, "<init>", "(II)V"⟩
abbrev cX0_learn : ByteArray := prog_2_method_2_code
def yX0_learn : MethodName := ⟨RX0, "learn", "(Z)V"⟩
def RX1 : String := "PrecedentHall$Entry"
def TX1 : u_T := fun k => match k with
  | 0 => ("PrecedentHall$Entry", "report", "LPrecedentHall$Report;", true)
  | 1 => ("PrecedentHall$Entry", "isAppeal", "Z", true)
  | 2 => ("PrecedentHall$Entry", "sumFor", "I", true)
  | _ => ("PrecedentHall$Entry", "sumAgainst", "I", true)
def tyX1 : Nat → FieldType := fun k => match k with
  | 0 => .object "PrecedentHall$Report"
  | 1 => .boolean
  | 2 => .int
  | _ => .int
abbrev wsX10 : List Cond := u_ws RX1 TX1 4
theorem nmX1 : ∀ a, a < 4 → ∀ b, b < 4 → a ≠ b → (TX1 a).2.1 ≠ (TX1 b).2.1 := by decide +kernel
theorem tyX1_ok : ∀ k, k < 4 → parseFieldDescriptor (TX1 k).2.2.1 = some (tyX1 k) := by decide +kernel
abbrev cX1_init : ByteArray := prog_3_method_1_code
def yX1_init : MethodName := ⟨RX1, "<init>", "(LPrecedentHall$Report;ZII)V"⟩
def RX2 : String := "PrecedentHall$Report"
def TX2 : u_T := fun k => match k with
  | 0 => ("PrecedentHall$Report", "number", "I", true)
  | 1 => ("PrecedentHall$Report", "reporter", "LPrecedentHall$User;", true)
  | 2 => ("PrecedentHall$Report", "accused", "LPrecedentHall$User;", true)
  | 3 => ("PrecedentHall$Report", "facts", "I", true)
  | 4 => ("PrecedentHall$Report", "evidence", "I", true)
  | 5 => ("PrecedentHall$Report", "day", "I", true)
  | 6 => ("PrecedentHall$Report", "votes", "[I", true)
  | 7 => ("PrecedentHall$Report", "state", "C", false)
  | 8 => ("PrecedentHall$Report", "bot", "LPrecedentHall$Bot;", false)
  | 9 => ("PrecedentHall$Report", "sanction", "LPrecedentHall$Sanction;", false)
  | 10 => ("PrecedentHall$Report", "wasAppealed", "Z", false)
  | 11 => ("PrecedentHall$Report", "earlierOutcome", "C", false)
  | _ => ("PrecedentHall$Report", "isReversed", "Z", false)
def tyX2 : Nat → FieldType := fun k => match k with
  | 0 => .int
  | 1 => .object "PrecedentHall$User"
  | 2 => .object "PrecedentHall$User"
  | 3 => .int
  | 4 => .int
  | 5 => .int
  | 6 => .array .int
  | 7 => .char
  | 8 => .object "PrecedentHall$Bot"
  | 9 => .object "PrecedentHall$Sanction"
  | 10 => .boolean
  | 11 => .char
  | _ => .boolean
abbrev wsX20 : List Cond := u_ws RX2 TX2 13
theorem nmX2 : ∀ a, a < 13 → ∀ b, b < 13 → a ≠ b → (TX2 a).2.1 ≠ (TX2 b).2.1 := by decide +kernel
theorem tyX2_ok : ∀ k, k < 13 → parseFieldDescriptor (TX2 k).2.2.1 = some (tyX2 k) := by decide +kernel
abbrev cX2_init : ByteArray := prog_4_method_1_code
def yX2_init : MethodName := ⟨RX2, "<init>", "(ILPrecedentHall$User;LPrecedentHall$User;III)V"⟩
abbrev cX2_tells : ByteArray := prog_4_method_2_code
def yX2_tells : MethodName := ⟨RX2, "tells", "(I)Z"⟩
abbrev cX2_enterVote : ByteArray := prog_4_method_3_code
def yX2_enterVote : MethodName := ⟨RX2, "enterVote", "(II)V"⟩
abbrev cX2_sumFor : ByteArray := prog_4_method_4_code
def yX2_sumFor : MethodName := ⟨RX2, "sumFor", "()I"⟩
abbrev cX2_sumAgainst : ByteArray := prog_4_method_5_code
def yX2_sumAgainst : MethodName := ⟨RX2, "sumAgainst", "()I"⟩
abbrev cX2_hasNewDecision : ByteArray := prog_4_method_6_code
def yX2_hasNewDecision : MethodName := ⟨RX2, "hasNewDecision", "()Z"⟩
abbrev cX2_standsByBot : ByteArray := prog_4_method_7_code
def yX2_standsByBot : MethodName := ⟨RX2, "standsByBot", "()Z"⟩
def RX3 : String := "PrecedentHall$Rule"
def TX3 : u_T := fun k => match k with
  | 0 => ("PrecedentHall$Rule", "kind", "I", true)
  | 1 => ("PrecedentHall$Rule", "isForbidding", "Z", true)
  | 2 => ("PrecedentHall$Rule", "rank", "I", true)
  | 3 => ("PrecedentHall$Rule", "days", "I", true)
  | 4 => ("PrecedentHall$Rule", "first", "I", true)
  | _ => ("PrecedentHall$Rule", "end", "I", false)
def tyX3 : Nat → FieldType := fun k => match k with
  | 0 => .int
  | 1 => .boolean
  | 2 => .int
  | 3 => .int
  | 4 => .int
  | _ => .int
abbrev wsX30 : List Cond := u_ws RX3 TX3 6
theorem nmX3 : ∀ a, a < 6 → ∀ b, b < 6 → a ≠ b → (TX3 a).2.1 ≠ (TX3 b).2.1 := by decide +kernel
theorem tyX3_ok : ∀ k, k < 6 → parseFieldDescriptor (TX3 k).2.2.1 = some (tyX3 k) := by decide +kernel
abbrev cX3_init : ByteArray := prog_5_method_1_code
def yX3_init : MethodName := ⟨RX3, "<init>", "(IZIII)V"⟩
abbrev cX3_holdsOn : ByteArray := prog_5_method_2_code
def yX3_holdsOn : MethodName := ⟨RX3, "holdsOn", "(I)Z"⟩
abbrev cX3_isRepealed : ByteArray := prog_5_method_3_code
def yX3_isRepealed : MethodName := ⟨RX3, "isRepealed", "()Z"⟩
def RX4 : String := "PrecedentHall$Sanction"
def TX4 : u_T := fun k => match k with
  | 0 => ("PrecedentHall$Sanction", "user", "LPrecedentHall$User;", true)
  | 1 => ("PrecedentHall$Sanction", "start", "I", true)
  | _ => ("PrecedentHall$Sanction", "end", "I", false)
def tyX4 : Nat → FieldType := fun k => match k with
  | 0 => .object "PrecedentHall$User"
  | 1 => .int
  | _ => .int
abbrev wsX40 : List Cond := u_ws RX4 TX4 3
theorem nmX4 : ∀ a, a < 3 → ∀ b, b < 3 → a ≠ b → (TX4 a).2.1 ≠ (TX4 b).2.1 := by decide +kernel
theorem tyX4_ok : ∀ k, k < 3 → parseFieldDescriptor (TX4 k).2.2.1 = some (tyX4 k) := by decide +kernel
abbrev cX4_init : ByteArray := prog_6_method_1_code
def yX4_init : MethodName := ⟨RX4, "<init>", "(LPrecedentHall$User;II)V"⟩
abbrev cX4_includes : ByteArray := prog_6_method_2_code
def yX4_includes : MethodName := ⟨RX4, "includes", "(I)Z"⟩
abbrev cX4_cutAt : ByteArray := prog_6_method_3_code
def yX4_cutAt : MethodName := ⟨RX4, "cutAt", "(I)V"⟩
abbrev cX4_daysBefore : ByteArray := prog_6_method_4_code
def yX4_daysBefore : MethodName := ⟨RX4, "daysBefore", "(I)I"⟩
def RX5 : String := "PrecedentHall$Standing"
def TX5 : u_T := fun k => match k with
  | 0 => ("PrecedentHall$Standing", "outcomes", "[C", true)
  | 1 => ("PrecedentHall$Standing", "turns", "[I", true)
  | _ => ("PrecedentHall$Standing", "made", "I", false)
def tyX5 : Nat → FieldType := fun k => match k with
  | 0 => .array .char
  | 1 => .array .int
  | _ => .int
abbrev wsX50 : List Cond := u_ws RX5 TX5 3
theorem nmX5 : ∀ a, a < 3 → ∀ b, b < 3 → a ≠ b → (TX5 a).2.1 ≠ (TX5 b).2.1 := by decide +kernel
theorem tyX5_ok : ∀ k, k < 3 → parseFieldDescriptor (TX5 k).2.2.1 = some (tyX5 k) := by decide +kernel
abbrev cX5_init : ByteArray := prog_7_method_1_code
def yX5_init : MethodName := ⟨RX5, "<init>", "()V"⟩
abbrev cX5_wipe : ByteArray := prog_7_method_2_code
def yX5_wipe : MethodName := ⟨RX5, "wipe", "()V"⟩
abbrev cX5_enter : ByteArray := prog_7_method_3_code
def yX5_enter : MethodName := ⟨RX5, "enter", "(IC)V"⟩
abbrev cX5_lift : ByteArray := prog_7_method_4_code
def yX5_lift : MethodName := ⟨RX5, "lift", "(I)V"⟩
abbrev cX5_outcomeOf : ByteArray := prog_7_method_5_code
def yX5_outcomeOf : MethodName := ⟨RX5, "outcomeOf", "(I)C"⟩
abbrev cX5_turnOf : ByteArray := prog_7_method_6_code
def yX5_turnOf : MethodName := ⟨RX5, "turnOf", "(I)I"⟩
abbrev cX5_isGuiltyOrInnocent : ByteArray := prog_7_method_7_code
def yX5_isGuiltyOrInnocent : MethodName := ⟨RX5, "isGuiltyOrInnocent", "(I)Z"⟩
abbrev cX5_isWithin : ByteArray := prog_7_method_8_code
def yX5_isWithin : MethodName := ⟨RX5, "isWithin", "(I)Z"⟩
def RX6 : String := "PrecedentHall$User"
def TX6 : u_T := fun k => match k with
  | _ => ("PrecedentHall$User", "weight", "I", false)
def tyX6 : Nat → FieldType := fun k => match k with
  | _ => .int
abbrev wsX60 : List Cond := u_ws RX6 TX6 1
theorem nmX6 : ∀ a, a < 1 → ∀ b, b < 1 → a ≠ b → (TX6 a).2.1 ≠ (TX6 b).2.1 := by decide +kernel
theorem tyX6_ok : ∀ k, k < 1 → parseFieldDescriptor (TX6 k).2.2.1 = some (tyX6 k) := by decide +kernel
abbrev cX6_init : ByteArray := prog_8_method_1_code
def yX6_init : MethodName := ⟨RX6, "<init>", "(I)V"⟩
def RX7 : String := "PrecedentHall"
def TX7 : u_T := fun k => match k with
  | 0 => ("PrecedentHall", "rules", "Ljava/util/ArrayList;", true)
  | 1 => ("PrecedentHall", "users", "Ljava/util/ArrayList;", true)
  | 2 => ("PrecedentHall", "bots", "Ljava/util/ArrayList;", true)
  | 3 => ("PrecedentHall", "reports", "Ljava/util/ArrayList;", true)
  | 4 => ("PrecedentHall", "sanctionsMade", "Ljava/util/ArrayList;", true)
  | 5 => ("PrecedentHall", "minutes", "Ljava/util/ArrayList;", true)
  | 6 => ("PrecedentHall", "asDecided", "LPrecedentHall$Standing;", true)
  | 7 => ("PrecedentHall", "foundAnew", "LPrecedentHall$Standing;", true)
  | 8 => ("PrecedentHall", "presentDay", "I", false)
  | _ => ("PrecedentHall", "quorum", "I", false)
def tyX7 : Nat → FieldType := fun k => match k with
  | 0 => .object "java/util/ArrayList"
  | 1 => .object "java/util/ArrayList"
  | 2 => .object "java/util/ArrayList"
  | 3 => .object "java/util/ArrayList"
  | 4 => .object "java/util/ArrayList"
  | 5 => .object "java/util/ArrayList"
  | 6 => .object "PrecedentHall$Standing"
  | 7 => .object "PrecedentHall$Standing"
  | 8 => .int
  | _ => .int
abbrev wsX70 : List Cond := u_ws RX7 TX7 10
theorem nmX7 : ∀ a, a < 10 → ∀ b, b < 10 → a ≠ b → (TX7 a).2.1 ≠ (TX7 b).2.1 := by decide +kernel
theorem tyX7_ok : ∀ k, k < 10 → parseFieldDescriptor (TX7 k).2.2.1 = some (tyX7 k) := by decide +kernel
abbrev cX7_init : ByteArray := prog_1_method_1_code
def yX7_init : MethodName := ⟨RX7, "<init>", "()V"⟩
abbrev cX7_addRule : ByteArray := prog_1_method_2_code
def yX7_addRule : MethodName := ⟨RX7, "addRule", "(IZIII)I"⟩
abbrev cX7_repeal : ByteArray := prog_1_method_3_code
def yX7_repeal : MethodName := ⟨RX7, "repeal", "(II)I"⟩
abbrev cX7_isInForce : ByteArray := prog_1_method_4_code
def yX7_isInForce : MethodName := ⟨RX7, "isInForce", "(II)Z"⟩
abbrev cX7_applying : ByteArray := prog_1_method_5_code
def yX7_applying : MethodName := ⟨RX7, "applying", "(I)I"⟩
abbrev cX7_conflicts : ByteArray := prog_1_method_6_code
def yX7_conflicts : MethodName := ⟨RX7, "conflicts", "(I)I"⟩
abbrev cX7_addUser : ByteArray := prog_1_method_7_code
def yX7_addUser : MethodName := ⟨RX7, "addUser", "(I)I"⟩
abbrev cX7_setWeight : ByteArray := prog_1_method_8_code
def yX7_setWeight : MethodName := ⟨RX7, "setWeight", "(II)I"⟩
abbrev cX7_sanctions : ByteArray := prog_1_method_9_code
def yX7_sanctions : MethodName := ⟨RX7, "sanctions", "(I)I"⟩
abbrev cX7_sanctionedUntil : ByteArray := prog_1_method_10_code
def yX7_sanctionedUntil : MethodName := ⟨RX7, "sanctionedUntil", "(I)I"⟩
abbrev cX7_addBot : ByteArray := prog_1_method_11_code
def yX7_addBot : MethodName := ⟨RX7, "addBot", "(II)I"⟩
abbrev cX7_threshold : ByteArray := prog_1_method_12_code
def yX7_threshold : MethodName := ⟨RX7, "threshold", "(I)I"⟩
abbrev cX7_file : ByteArray := prog_1_method_13_code
def yX7_file : MethodName := ⟨RX7, "file", "(IIII)I"⟩
abbrev cX7_state : ByteArray := prog_1_method_14_code
def yX7_state : MethodName := ⟨RX7, "state", "(I)C"⟩
abbrev cX7_vote : ByteArray := prog_1_method_15_code
def yX7_vote : MethodName := ⟨RX7, "vote", "(IIZ)I"⟩
abbrev cX7_weightFor : ByteArray := prog_1_method_16_code
def yX7_weightFor : MethodName := ⟨RX7, "weightFor", "(I)I"⟩
abbrev cX7_weightAgainst : ByteArray := prog_1_method_17_code
def yX7_weightAgainst : MethodName := ⟨RX7, "weightAgainst", "(I)I"⟩
abbrev cX7_setQuorum : ByteArray := prog_1_method_18_code
def yX7_setQuorum : MethodName := ⟨RX7, "setQuorum", "(I)I"⟩
abbrev cX7_precedent : ByteArray := prog_1_method_19_code
def yX7_precedent : MethodName := ⟨RX7, "precedent", "(I)I"⟩
abbrev cX7_decide : ByteArray := prog_1_method_20_code
def yX7_decide : MethodName := ⟨RX7, "decide", "(I)C"⟩
abbrev cX7_outcome : ByteArray := prog_1_method_21_code
def yX7_outcome : MethodName := ⟨RX7, "outcome", "(I)C"⟩
abbrev cX7_outcomeAnew : ByteArray := prog_1_method_22_code
def yX7_outcomeAnew : MethodName := ⟨RX7, "outcomeAnew", "(I)C"⟩
abbrev cX7_isByBot : ByteArray := prog_1_method_23_code
def yX7_isByBot : MethodName := ⟨RX7, "isByBot", "(I)Z"⟩
abbrev cX7_appeal : ByteArray := prog_1_method_24_code
def yX7_appeal : MethodName := ⟨RX7, "appeal", "(I)I"⟩
abbrev cX7_wasReversed : ByteArray := prog_1_method_25_code
def yX7_wasReversed : MethodName := ⟨RX7, "wasReversed", "(I)Z"⟩
abbrev cX7_today : ByteArray := prog_1_method_26_code
def yX7_today : MethodName := ⟨RX7, "today", "()I"⟩
abbrev cX7_pass : ByteArray := prog_1_method_27_code
def yX7_pass : MethodName := ⟨RX7, "pass", "(I)I"⟩
abbrev cX7_decisions : ByteArray := prog_1_method_28_code
def yX7_decisions : MethodName := ⟨RX7, "decisions", "()I"⟩
abbrev cX7_likeness : ByteArray := prog_1_method_29_code
def yX7_likeness : MethodName := ⟨RX7, "likeness", "(II)I"⟩
abbrev cX7_count : ByteArray := prog_1_method_30_code
def yX7_count : MethodName := ⟨RX7, "count", "(C)I"⟩
abbrev cX7_meanEvidence : ByteArray := prog_1_method_31_code
def yX7_meanEvidence : MethodName := ⟨RX7, "meanEvidence", "()D"⟩
abbrev cX7_reversedShare : ByteArray := prog_1_method_32_code
def yX7_reversedShare : MethodName := ⟨RX7, "reversedShare", "()F"⟩
abbrev cX7_sanctionDays : ByteArray := prog_1_method_33_code
def yX7_sanctionDays : MethodName := ⟨RX7, "sanctionDays", "()J"⟩
abbrev cX7_isConsistent : ByteArray := prog_1_method_34_code
def yX7_isConsistent : MethodName := ⟨RX7, "isConsistent", "()Z"⟩
abbrev cX7_requireWithin : ByteArray := prog_1_method_35_code
def yX7_requireWithin : MethodName := ⟨RX7, "requireWithin", "(III)V"⟩
abbrev cX7_requireRoom : ByteArray := prog_1_method_36_code
def yX7_requireRoom : MethodName := ⟨RX7, "requireRoom", "(II)V"⟩
abbrev cX7_requireIndex : ByteArray := prog_1_method_37_code
def yX7_requireIndex : MethodName := ⟨RX7, "requireIndex", "(II)V"⟩
abbrev cX7_requireUndecided : ByteArray := prog_1_method_38_code
def yX7_requireUndecided : MethodName := ⟨RX7, "requireUndecided", "(LPrecedentHall$Report;)V"⟩
abbrev cX7_requireStanding : ByteArray := prog_1_method_39_code
def yX7_requireStanding : MethodName := ⟨RX7, "requireStanding", "(LPrecedentHall$Report;)V"⟩
abbrev cX7_ruleAt : ByteArray := prog_1_method_40_code
def yX7_ruleAt : MethodName := ⟨RX7, "ruleAt", "(I)LPrecedentHall$Rule;"⟩
abbrev cX7_userAt : ByteArray := prog_1_method_41_code
def yX7_userAt : MethodName := ⟨RX7, "userAt", "(I)LPrecedentHall$User;"⟩
abbrev cX7_reportAt : ByteArray := prog_1_method_42_code
def yX7_reportAt : MethodName := ⟨RX7, "reportAt", "(I)LPrecedentHall$Report;"⟩
abbrev cX7_rulesInForce : ByteArray := prog_1_method_43_code
def yX7_rulesInForce : MethodName := ⟨RX7, "rulesInForce", "(I)I"⟩
abbrev cX7_areInConflict : ByteArray := prog_1_method_44_code
def yX7_areInConflict : MethodName := ⟨RX7, "areInConflict", "(LPrecedentHall$Rule;LPrecedentHall$Rule;I)Z"⟩
abbrev cX7_ruleFor : ByteArray := prog_1_method_45_code
def yX7_ruleFor : MethodName := ⟨RX7, "ruleFor", "(LPrecedentHall$Report;)I"⟩
abbrev cX7_botFor : ByteArray := prog_1_method_46_code
def yX7_botFor : MethodName := ⟨RX7, "botFor", "(LPrecedentHall$Report;)LPrecedentHall$Bot;"⟩
abbrev cX7_commonKinds : ByteArray := prog_1_method_47_code
def yX7_commonKinds : MethodName := ⟨RX7, "commonKinds", "(LPrecedentHall$Report;LPrecedentHall$Report;)I"⟩
abbrev cX7_precedentFor : ByteArray := prog_1_method_48_code
def yX7_precedentFor : MethodName := ⟨RX7, "precedentFor", "(LPrecedentHall$Report;LPrecedentHall$Standing;)I"⟩
abbrev cX7_findOutcome : ByteArray := prog_1_method_49_code
def yX7_findOutcome : MethodName := ⟨RX7, "findOutcome", "(LPrecedentHall$Report;IILPrecedentHall$Standing;)C"⟩
abbrev cX7_settle : ByteArray := prog_1_method_50_code
def yX7_settle : MethodName := ⟨RX7, "settle", "(LPrecedentHall$Report;II)C"⟩
abbrev cX7_sanctionAccused : ByteArray := prog_1_method_51_code
def yX7_sanctionAccused : MethodName := ⟨RX7, "sanctionAccused", "(LPrecedentHall$Report;)V"⟩
abbrev cX7_closeAppeal : ByteArray := prog_1_method_52_code
def yX7_closeAppeal : MethodName := ⟨RX7, "closeAppeal", "(LPrecedentHall$Report;C)V"⟩
abbrev cX7_settleAllAnew : ByteArray := prog_1_method_53_code
def yX7_settleAllAnew : MethodName := ⟨RX7, "settleAllAnew", "()V"⟩
abbrev cX7_presentSanctions : ByteArray := prog_1_method_54_code
def yX7_presentSanctions : MethodName := ⟨RX7, "presentSanctions", "(LPrecedentHall$User;)I"⟩
abbrev cX7_reportsInState : ByteArray := prog_1_method_55_code
def yX7_reportsInState : MethodName := ⟨RX7, "reportsInState", "(C)I"⟩
abbrev cX7_guiltyReports : ByteArray := prog_1_method_56_code
def yX7_guiltyReports : MethodName := ⟨RX7, "guiltyReports", "()I"⟩
abbrev cX7_reportsByBots : ByteArray := prog_1_method_57_code
def yX7_reportsByBots : MethodName := ⟨RX7, "reportsByBots", "()I"⟩
abbrev cX7_reversedReports : ByteArray := prog_1_method_58_code
def yX7_reversedReports : MethodName := ⟨RX7, "reversedReports", "()I"⟩
def RX8 : String := "PrecedentHallModel"
def TX8 : u_T := fun k => match k with
  | 0 => ("PrecedentHallModel", "thrown", "I", false)
  | 1 => ("PrecedentHallModel", "kinds", "[I", true)
  | 2 => ("PrecedentHallModel", "ranks", "[I", true)
  | 3 => ("PrecedentHallModel", "lengths", "[I", true)
  | 4 => ("PrecedentHallModel", "firsts", "[I", true)
  | 5 => ("PrecedentHallModel", "repeals", "[I", true)
  | 6 => ("PrecedentHallModel", "weights", "[I", true)
  | 7 => ("PrecedentHallModel", "botKinds", "[I", true)
  | 8 => ("PrecedentHallModel", "thresholds", "[I", true)
  | 9 => ("PrecedentHallModel", "isForbidding", "[Z", true)
  | 10 => ("PrecedentHallModel", "rules", "I", false)
  | 11 => ("PrecedentHallModel", "users", "I", false)
  | 12 => ("PrecedentHallModel", "bots", "I", false)
  | 13 => ("PrecedentHallModel", "quorum", "I", false)
  | 14 => ("PrecedentHallModel", "today", "I", false)
  | 15 => ("PrecedentHallModel", "reporters", "[I", true)
  | 16 => ("PrecedentHallModel", "accused", "[I", true)
  | 17 => ("PrecedentHallModel", "facts", "[I", true)
  | 18 => ("PrecedentHallModel", "evidence", "[I", true)
  | 19 => ("PrecedentHallModel", "filed", "[I", true)
  | 20 => ("PrecedentHallModel", "orders", "[I", true)
  | 21 => ("PrecedentHallModel", "byBots", "[I", true)
  | 22 => ("PrecedentHallModel", "from", "[I", true)
  | 23 => ("PrecedentHallModel", "until", "[I", true)
  | 24 => ("PrecedentHallModel", "states", "[C", true)
  | 25 => ("PrecedentHallModel", "outcomes", "[C", true)
  | 26 => ("PrecedentHallModel", "earlier", "[C", true)
  | 27 => ("PrecedentHallModel", "votes", "[[I", true)
  | 28 => ("PrecedentHallModel", "reports", "I", false)
  | 29 => ("PrecedentHallModel", "decisions", "I", false)
  | 30 => ("PrecedentHallModel", "appealed", "I", false)
  | 31 => ("PrecedentHallModel", "reversed", "I", false)
  | _ => ("PrecedentHallModel", "sanctionDays", "J", false)
def tyX8 : Nat → FieldType := fun k => match k with
  | 0 => .int
  | 1 => .array .int
  | 2 => .array .int
  | 3 => .array .int
  | 4 => .array .int
  | 5 => .array .int
  | 6 => .array .int
  | 7 => .array .int
  | 8 => .array .int
  | 9 => .array .boolean
  | 10 => .int
  | 11 => .int
  | 12 => .int
  | 13 => .int
  | 14 => .int
  | 15 => .array .int
  | 16 => .array .int
  | 17 => .array .int
  | 18 => .array .int
  | 19 => .array .int
  | 20 => .array .int
  | 21 => .array .int
  | 22 => .array .int
  | 23 => .array .int
  | 24 => .array .char
  | 25 => .array .char
  | 26 => .array .char
  | 27 => .array (.array .int)
  | 28 => .int
  | 29 => .int
  | 30 => .int
  | 31 => .int
  | _ => .long
abbrev wsX80 : List Cond := u_ws RX8 TX8 33
theorem nmX8 : ∀ a, a < 33 → ∀ b, b < 33 → a ≠ b → (TX8 a).2.1 ≠ (TX8 b).2.1 := by decide +kernel
theorem tyX8_ok : ∀ k, k < 33 → parseFieldDescriptor (TX8 k).2.2.1 = some (tyX8 k) := by decide +kernel
abbrev cX8_init : ByteArray := prog_10_method_1_code
def yX8_init : MethodName := ⟨RX8, "<init>", "()V"⟩
abbrev cX8_thrown : ByteArray := prog_10_method_2_code
def yX8_thrown : MethodName := ⟨RX8, "thrown", "()I"⟩
abbrev cX8_fails : ByteArray := prog_10_method_3_code
def yX8_fails : MethodName := ⟨RX8, "fails", "(I)I"⟩
abbrev cX8_isBetween : ByteArray := prog_10_method_5_code
def yX8_isBetween : MethodName := ⟨RX8, "isBetween", "(III)Z"⟩
abbrev cX8_isRule : ByteArray := prog_10_method_6_code
def yX8_isRule : MethodName := ⟨RX8, "isRule", "(I)Z"⟩
abbrev cX8_isUser : ByteArray := prog_10_method_7_code
def yX8_isUser : MethodName := ⟨RX8, "isUser", "(I)Z"⟩
abbrev cX8_isReport : ByteArray := prog_10_method_8_code
def yX8_isReport : MethodName := ⟨RX8, "isReport", "(I)Z"⟩
abbrev cX8_addRule : ByteArray := prog_10_method_9_code
def yX8_addRule : MethodName := ⟨RX8, "addRule", "(IZIII)I"⟩
abbrev cX8_inForce : ByteArray := prog_10_method_10_code
def yX8_inForce : MethodName := ⟨RX8, "inForce", "(II)Z"⟩
abbrev cX8_repeal : ByteArray := prog_10_method_11_code
def yX8_repeal : MethodName := ⟨RX8, "repeal", "(II)I"⟩
abbrev cX8_isInForce : ByteArray := prog_10_method_12_code
def yX8_isInForce : MethodName := ⟨RX8, "isInForce", "(II)Z"⟩
abbrev cX8_rule : ByteArray := prog_10_method_13_code
def yX8_rule : MethodName := ⟨RX8, "rule", "(I)I"⟩
abbrev cX8_applying : ByteArray := prog_10_method_14_code
def yX8_applying : MethodName := ⟨RX8, "applying", "(I)I"⟩
abbrev cX8_conflicts : ByteArray := prog_10_method_15_code
def yX8_conflicts : MethodName := ⟨RX8, "conflicts", "(I)I"⟩
abbrev cX8_addUser : ByteArray := prog_10_method_16_code
def yX8_addUser : MethodName := ⟨RX8, "addUser", "(I)I"⟩
abbrev cX8_setWeight : ByteArray := prog_10_method_17_code
def yX8_setWeight : MethodName := ⟨RX8, "setWeight", "(II)I"⟩
abbrev cX8_stands : ByteArray := prog_10_method_18_code
def yX8_stands : MethodName := ⟨RX8, "stands", "(IC)Z"⟩
abbrev cX8_includes : ByteArray := prog_10_method_19_code
def yX8_includes : MethodName := ⟨RX8, "includes", "(II)Z"⟩
abbrev cX8_sanctionsOf : ByteArray := prog_10_method_20_code
def yX8_sanctionsOf : MethodName := ⟨RX8, "sanctionsOf", "(I)I"⟩
abbrev cX8_sanctions : ByteArray := prog_10_method_21_code
def yX8_sanctions : MethodName := ⟨RX8, "sanctions", "(I)I"⟩
abbrev cX8_sanctionedUntil : ByteArray := prog_10_method_22_code
def yX8_sanctionedUntil : MethodName := ⟨RX8, "sanctionedUntil", "(I)I"⟩
abbrev cX8_addBot : ByteArray := prog_10_method_23_code
def yX8_addBot : MethodName := ⟨RX8, "addBot", "(II)I"⟩
abbrev cX8_threshold : ByteArray := prog_10_method_24_code
def yX8_threshold : MethodName := ⟨RX8, "threshold", "(I)I"⟩
abbrev cX8_like : ByteArray := prog_10_method_25_code
def yX8_like : MethodName := ⟨RX8, "like", "(II)I"⟩
abbrev cX8_precedentOf : ByteArray := prog_10_method_26_code
def yX8_precedentOf : MethodName := ⟨RX8, "precedentOf", "(I)I"⟩
abbrev cX8_outcomeBy : ByteArray := prog_10_method_27_code
def yX8_outcomeBy : MethodName := ⟨RX8, "outcomeBy", "(III)C"⟩
abbrev cX8_decides : ByteArray := prog_10_method_28_code
def yX8_decides : MethodName := ⟨RX8, "decides", "(IIII)V"⟩
abbrev cX8_file : ByteArray := prog_10_method_29_code
def yX8_file : MethodName := ⟨RX8, "file", "(IIII)I"⟩
abbrev cX8_state : ByteArray := prog_10_method_30_code
def yX8_state : MethodName := ⟨RX8, "state", "(I)C"⟩
abbrev cX8_weight : ByteArray := prog_10_method_31_code
def yX8_weight : MethodName := ⟨RX8, "weight", "(II)I"⟩
abbrev cX8_vote : ByteArray := prog_10_method_32_code
def yX8_vote : MethodName := ⟨RX8, "vote", "(IIZ)I"⟩
abbrev cX8_isNone : ByteArray := prog_10_method_33_code
def yX8_isNone : MethodName := ⟨RX8, "isNone", "(I)Z"⟩
abbrev cX8_weightFor : ByteArray := prog_10_method_34_code
def yX8_weightFor : MethodName := ⟨RX8, "weightFor", "(I)I"⟩
abbrev cX8_weightAgainst : ByteArray := prog_10_method_35_code
def yX8_weightAgainst : MethodName := ⟨RX8, "weightAgainst", "(I)I"⟩
abbrev cX8_setQuorum : ByteArray := prog_10_method_36_code
def yX8_setQuorum : MethodName := ⟨RX8, "setQuorum", "(I)I"⟩
abbrev cX8_precedent : ByteArray := prog_10_method_37_code
def yX8_precedent : MethodName := ⟨RX8, "precedent", "(I)I"⟩
abbrev cX8_decide : ByteArray := prog_10_method_38_code
def yX8_decide : MethodName := ⟨RX8, "decide", "(I)C"⟩
abbrev cX8_isOpen : ByteArray := prog_10_method_39_code
def yX8_isOpen : MethodName := ⟨RX8, "isOpen", "(I)Z"⟩
abbrev cX8_outcome : ByteArray := prog_10_method_40_code
def yX8_outcome : MethodName := ⟨RX8, "outcome", "(I)C"⟩
abbrev cX8_outcomeAnew : ByteArray := prog_10_method_41_code
def yX8_outcomeAnew : MethodName := ⟨RX8, "outcomeAnew", "(I)C"⟩
abbrev cX8_isByBot : ByteArray := prog_10_method_42_code
def yX8_isByBot : MethodName := ⟨RX8, "isByBot", "(I)Z"⟩
abbrev cX8_appeal : ByteArray := prog_10_method_43_code
def yX8_appeal : MethodName := ⟨RX8, "appeal", "(I)I"⟩
abbrev cX8_isReversed : ByteArray := prog_10_method_44_code
def yX8_isReversed : MethodName := ⟨RX8, "isReversed", "(I)Z"⟩
abbrev cX8_wasReversed : ByteArray := prog_10_method_45_code
def yX8_wasReversed : MethodName := ⟨RX8, "wasReversed", "(I)Z"⟩
abbrev cX8_today : ByteArray := prog_10_method_46_code
def yX8_today : MethodName := ⟨RX8, "today", "()I"⟩
abbrev cX8_pass : ByteArray := prog_10_method_47_code
def yX8_pass : MethodName := ⟨RX8, "pass", "(I)I"⟩
abbrev cX8_decisions : ByteArray := prog_10_method_48_code
def yX8_decisions : MethodName := ⟨RX8, "decisions", "()I"⟩
abbrev cX8_likeness : ByteArray := prog_10_method_49_code
def yX8_likeness : MethodName := ⟨RX8, "likeness", "(II)I"⟩
abbrev cX8_isOf : ByteArray := prog_10_method_50_code
def yX8_isOf : MethodName := ⟨RX8, "isOf", "(IC)Z"⟩
abbrev cX8_count : ByteArray := prog_10_method_51_code
def yX8_count : MethodName := ⟨RX8, "count", "(C)I"⟩
abbrev cX8_meanEvidence : ByteArray := prog_10_method_52_code
def yX8_meanEvidence : MethodName := ⟨RX8, "meanEvidence", "()D"⟩
abbrev cX8_reversedShare : ByteArray := prog_10_method_53_code
def yX8_reversedShare : MethodName := ⟨RX8, "reversedShare", "()F"⟩
abbrev cX8_sanctionDays : ByteArray := prog_10_method_54_code
def yX8_sanctionDays : MethodName := ⟨RX8, "sanctionDays", "()J"⟩
abbrev cX8_isConsistent : ByteArray := prog_10_method_55_code
def yX8_isConsistent : MethodName := ⟨RX8, "isConsistent", "()Z"⟩
def RJx145de : String := "java/io/Serializable"
def TJx145de : u_T := fun k => match k with
  | _ => ("", "", "", false)
def tyJx145de : Nat → FieldType := fun k => match k with
  | _ => .int
abbrev wsJx145de0 : List Cond := u_ws RJx145de TJx145de 0
theorem nmJx145de : ∀ a, a < 0 → ∀ b, b < 0 → a ≠ b → (TJx145de a).2.1 ≠ (TJx145de b).2.1 := by decide +kernel
theorem tyJx145de_ok : ∀ k, k < 0 → parseFieldDescriptor (TJx145de k).2.2.1 = some (tyJx145de k) := by decide +kernel
def RJx00060 : String := "java/lang/ArrayIndexOutOfBoundsException"
def TJx00060 : u_T := fun k => match k with
  | 0 => ("java/lang/Throwable", "backtrace", "Ljava/lang/Object;", false)
  | 1 => ("java/lang/Throwable", "detailMessage", "Ljava/lang/String;", false)
  | 2 => ("java/lang/Throwable", "cause", "Ljava/lang/Throwable;", false)
  | 3 => ("java/lang/Throwable", "stackTrace", "[Ljava/lang/StackTraceElement;", false)
  | 4 => ("java/lang/Throwable", "depth", "I", false)
  | _ => ("java/lang/Throwable", "suppressedExceptions", "Ljava/util/List;", false)
def tyJx00060 : Nat → FieldType := fun k => match k with
  | 0 => .object "java/lang/Object"
  | 1 => .object "java/lang/String"
  | 2 => .object "java/lang/Throwable"
  | 3 => .array (.object "java/lang/StackTraceElement")
  | 4 => .int
  | _ => .object "java/util/List"
abbrev wsJx000600 : List Cond := u_ws RJx00060 TJx00060 6
theorem nmJx00060 : ∀ a, a < 6 → ∀ b, b < 6 → a ≠ b → (TJx00060 a).2.1 ≠ (TJx00060 b).2.1 := by decide +kernel
theorem tyJx00060_ok : ∀ k, k < 6 → parseFieldDescriptor (TJx00060 k).2.2.1 = some (tyJx00060 k) := by decide +kernel
abbrev cJx00060_init_a7421 : ByteArray := prog_13_method_2_code
def yJx00060_init_a7421 : MethodName := ⟨RJx00060, "<init>", "(Ljava/lang/String;)V"⟩
def RJx8e188 : String := "java/lang/Cloneable"
def TJx8e188 : u_T := fun k => match k with
  | _ => ("", "", "", false)
def tyJx8e188 : Nat → FieldType := fun k => match k with
  | _ => .int
abbrev wsJx8e1880 : List Cond := u_ws RJx8e188 TJx8e188 0
theorem nmJx8e188 : ∀ a, a < 0 → ∀ b, b < 0 → a ≠ b → (TJx8e188 a).2.1 ≠ (TJx8e188 b).2.1 := by decide +kernel
theorem tyJx8e188_ok : ∀ k, k < 0 → parseFieldDescriptor (TJx8e188 k).2.2.1 = some (tyJx8e188 k) := by decide +kernel
def RJ6 : String := "java/lang/Integer"
def TJ6 : u_T := fun k => match k with
  | _ => ("", "", "", false)
def tyJ6 : Nat → FieldType := fun k => match k with
  | _ => .int
abbrev wsJ60 : List Cond := u_ws RJ6 TJ6 0
theorem nmJ6 : ∀ a, a < 0 → ∀ b, b < 0 → a ≠ b → (TJ6 a).2.1 ≠ (TJ6 b).2.1 := by decide +kernel
theorem tyJ6_ok : ∀ k, k < 0 → parseFieldDescriptor (TJ6 k).2.2.1 = some (tyJ6 k) := by decide +kernel
abbrev cJ6_bitCount_0f7a4 : ByteArray := prog_19_method_49_code
def yJ6_bitCount_0f7a4 : MethodName := ⟨RJ6, "bitCount", "(I)I"⟩
def RJxab1ab : String := "java/lang/Iterable"
def TJxab1ab : u_T := fun k => match k with
  | _ => ("", "", "", false)
def tyJxab1ab : Nat → FieldType := fun k => match k with
  | _ => .int
abbrev wsJxab1ab0 : List Cond := u_ws RJxab1ab TJxab1ab 0
theorem nmJxab1ab : ∀ a, a < 0 → ∀ b, b < 0 → a ≠ b → (TJxab1ab a).2.1 ≠ (TJxab1ab b).2.1 := by decide +kernel
theorem tyJxab1ab_ok : ∀ k, k < 0 → parseFieldDescriptor (TJxab1ab k).2.2.1 = some (tyJxab1ab k) := by decide +kernel
def RJ9 : String := "java/lang/Math"
def TJ9 : u_T := fun k => match k with
  | _ => ("", "", "", false)
def tyJ9 : Nat → FieldType := fun k => match k with
  | _ => .int
abbrev wsJ90 : List Cond := u_ws RJ9 TJ9 0
theorem nmJ9 : ∀ a, a < 0 → ∀ b, b < 0 → a ≠ b → (TJ9 a).2.1 ≠ (TJ9 b).2.1 := by decide +kernel
theorem tyJ9_ok : ∀ k, k < 0 → parseFieldDescriptor (TJ9 k).2.2.1 = some (tyJ9 k) := by decide +kernel
abbrev cJ9_max_7cf53 : ByteArray := prog_21_method_65_code
def yJ9_max_7cf53 : MethodName := ⟨RJ9, "max", "(II)I"⟩
abbrev cJ9_min_7cf53 : ByteArray := prog_21_method_69_code
def yJ9_min_7cf53 : MethodName := ⟨RJ9, "min", "(II)I"⟩
def RJ0 : String := "java/lang/String"
def TJ0 : u_T := fun k => match k with
  | 0 => ("java/lang/String", "value", "[B", true)
  | _ => ("java/lang/String", "coder", "B", true)
def tyJ0 : Nat → FieldType := fun k => match k with
  | 0 => .array .byte
  | _ => .byte
abbrev wsJ00 : List Cond := u_ws RJ0 TJ0 2
theorem nmJ0 : ∀ a, a < 2 → ∀ b, b < 2 → a ≠ b → (TJ0 a).2.1 ≠ (TJ0 b).2.1 := by decide +kernel
theorem tyJ0_ok : ∀ k, k < 2 → parseFieldDescriptor (TJ0 k).2.2.1 = some (tyJ0 k) := by decide +kernel
def RJ10 : String := "java/lang/System"
def TJ10 : u_T := fun k => match k with
  | _ => ("", "", "", false)
def tyJ10 : Nat → FieldType := fun k => match k with
  | _ => .int
abbrev wsJ100 : List Cond := u_ws RJ10 TJ10 0
theorem nmJ10 : ∀ a, a < 0 → ∀ b, b < 0 → a ≠ b → (TJ10 a).2.1 ≠ (TJ10 b).2.1 := by decide +kernel
theorem tyJ10_ok : ∀ k, k < 0 → parseFieldDescriptor (TJ10 k).2.2.1 = some (tyJ10 k) := by decide +kernel
def RJxa1e45 : String := "java/util/AbstractCollection"
def TJxa1e45 : u_T := fun k => match k with
  | _ => ("", "", "", false)
def tyJxa1e45 : Nat → FieldType := fun k => match k with
  | _ => .int
abbrev wsJxa1e450 : List Cond := u_ws RJxa1e45 TJxa1e45 0
theorem nmJxa1e45 : ∀ a, a < 0 → ∀ b, b < 0 → a ≠ b → (TJxa1e45 a).2.1 ≠ (TJxa1e45 b).2.1 := by decide +kernel
theorem tyJxa1e45_ok : ∀ k, k < 0 → parseFieldDescriptor (TJxa1e45 k).2.2.1 = some (tyJxa1e45 k) := by decide +kernel
abbrev cJxa1e45_init_da8c8 : ByteArray := prog_27_method_1_code
def yJxa1e45_init_da8c8 : MethodName := ⟨RJxa1e45, "<init>", "()V"⟩
def RJxc12de : String := "java/util/AbstractList"
def TJxc12de : u_T := fun k => match k with
  | _ => ("", "", "", false)
def tyJxc12de : Nat → FieldType := fun k => match k with
  | _ => .int
abbrev wsJxc12de0 : List Cond := u_ws RJxc12de TJxc12de 0
theorem nmJxc12de : ∀ a, a < 0 → ∀ b, b < 0 → a ≠ b → (TJxc12de a).2.1 ≠ (TJxc12de b).2.1 := by decide +kernel
theorem tyJxc12de_ok : ∀ k, k < 0 → parseFieldDescriptor (TJxc12de k).2.2.1 = some (tyJxc12de k) := by decide +kernel
abbrev cJxc12de_init_da8c8 : ByteArray := prog_28_method_1_code
def yJxc12de_init_da8c8 : MethodName := ⟨RJxc12de, "<init>", "()V"⟩
def RJx4a65c : String := "java/util/ArrayList"
def TJx4a65c : u_T := fun k => match k with
  | 0 => ("java/util/AbstractList", "modCount", "I", false)
  | 1 => ("java/util/ArrayList", "elementData", "[Ljava/lang/Object;", false)
  | _ => ("java/util/ArrayList", "size", "I", false)
def tyJx4a65c : Nat → FieldType := fun k => match k with
  | 0 => .int
  | 1 => .array (.object "java/lang/Object")
  | _ => .int
abbrev wsJx4a65c0 : List Cond := u_ws RJx4a65c TJx4a65c 3
theorem nmJx4a65c : ∀ a, a < 3 → ∀ b, b < 3 → a ≠ b → (TJx4a65c a).2.1 ≠ (TJx4a65c b).2.1 := by decide +kernel
theorem tyJx4a65c_ok : ∀ k, k < 3 → parseFieldDescriptor (TJx4a65c k).2.2.1 = some (tyJx4a65c k) := by decide +kernel
abbrev cJx4a65c_init_da8c8 : ByteArray := prog_29_method_2_code
def yJx4a65c_init_da8c8 : MethodName := ⟨RJx4a65c, "<init>", "()V"⟩
abbrev cJx4a65c_grow_92f84 : ByteArray := prog_29_method_6_code
def yJx4a65c_grow_92f84 : MethodName := ⟨RJx4a65c, "grow", "(I)[Ljava/lang/Object;"⟩
abbrev cJx4a65c_grow_d5877 : ByteArray := prog_29_method_7_code
def yJx4a65c_grow_d5877 : MethodName := ⟨RJx4a65c, "grow", "()[Ljava/lang/Object;"⟩
abbrev cJx4a65c_size_8abf5 : ByteArray := prog_29_method_8_code
def yJx4a65c_size_8abf5 : MethodName := ⟨RJx4a65c, "size", "()I"⟩
abbrev cJx4a65c_elementData_915e3 : ByteArray := prog_29_method_18_code
def yJx4a65c_elementData_915e3 : MethodName := ⟨RJx4a65c, "elementData", "(I)Ljava/lang/Object;"⟩
abbrev cJx4a65c_get_915e3 : ByteArray := prog_29_method_20_code
def yJx4a65c_get_915e3 : MethodName := ⟨RJx4a65c, "get", "(I)Ljava/lang/Object;"⟩
abbrev cJx4a65c_add_72be8 : ByteArray := prog_29_method_24_code
def yJx4a65c_add_72be8 : MethodName := ⟨RJx4a65c, "add", "(Ljava/lang/Object;[Ljava/lang/Object;I)V"⟩
abbrev cJx4a65c_add_9ea2d : ByteArray := prog_29_method_25_code
def yJx4a65c_add_9ea2d : MethodName := ⟨RJx4a65c, "add", "(Ljava/lang/Object;)Z"⟩
def RJ7 : String := "java/util/Arrays"
def TJ7 : u_T := fun k => match k with
  | _ => ("", "", "", false)
def tyJ7 : Nat → FieldType := fun k => match k with
  | _ => .int
abbrev wsJ70 : List Cond := u_ws RJ7 TJ7 0
theorem nmJ7 : ∀ a, a < 0 → ∀ b, b < 0 → a ≠ b → (TJ7 a).2.1 ≠ (TJ7 b).2.1 := by decide +kernel
theorem tyJ7_ok : ∀ k, k < 0 → parseFieldDescriptor (TJ7 k).2.2.1 = some (tyJ7 k) := by decide +kernel
abbrev cJ7_copyOf_1904c : ByteArray := prog_30_method_119_code
def yJ7_copyOf_1904c : MethodName := ⟨RJ7, "copyOf", "([Ljava/lang/Object;I)[Ljava/lang/Object;"⟩
abbrev cJ7_copyOf_6403c : ByteArray := prog_30_method_120_code
def yJ7_copyOf_6403c : MethodName := ⟨RJ7, "copyOf", "([Ljava/lang/Object;ILjava/lang/Class;)[Ljava/lang/Object;"⟩
def RJx5ef63 : String := "java/util/Collection"
def TJx5ef63 : u_T := fun k => match k with
  | _ => ("", "", "", false)
def tyJx5ef63 : Nat → FieldType := fun k => match k with
  | _ => .int
abbrev wsJx5ef630 : List Cond := u_ws RJx5ef63 TJx5ef63 0
theorem nmJx5ef63 : ∀ a, a < 0 → ∀ b, b < 0 → a ≠ b → (TJx5ef63 a).2.1 ≠ (TJx5ef63 b).2.1 := by decide +kernel
theorem tyJx5ef63_ok : ∀ k, k < 0 → parseFieldDescriptor (TJx5ef63 k).2.2.1 = some (tyJx5ef63 k) := by decide +kernel
def RJxbd725 : String := "java/util/List"
def TJxbd725 : u_T := fun k => match k with
  | _ => ("", "", "", false)
def tyJxbd725 : Nat → FieldType := fun k => match k with
  | _ => .int
abbrev wsJxbd7250 : List Cond := u_ws RJxbd725 TJxbd725 0
theorem nmJxbd725 : ∀ a, a < 0 → ∀ b, b < 0 → a ≠ b → (TJxbd725 a).2.1 ≠ (TJxbd725 b).2.1 := by decide +kernel
theorem tyJxbd725_ok : ∀ k, k < 0 → parseFieldDescriptor (TJxbd725 k).2.2.1 = some (tyJxbd725 k) := by decide +kernel
def RJ15 : String := "java/util/Objects"
def TJ15 : u_T := fun k => match k with
  | _ => ("", "", "", false)
def tyJ15 : Nat → FieldType := fun k => match k with
  | _ => .int
abbrev wsJ150 : List Cond := u_ws RJ15 TJ15 0
theorem nmJ15 : ∀ a, a < 0 → ∀ b, b < 0 → a ≠ b → (TJ15 a).2.1 ≠ (TJ15 b).2.1 := by decide +kernel
theorem tyJ15_ok : ∀ k, k < 0 → parseFieldDescriptor (TJ15 k).2.2.1 = some (tyJ15 k) := by decide +kernel
abbrev cJ15_checkIndex_7cf53 : ByteArray := prog_34_method_17_code
def yJ15_checkIndex_7cf53 : MethodName := ⟨RJ15, "checkIndex", "(II)I"⟩
def RJxf0a74 : String := "java/util/RandomAccess"
def TJxf0a74 : u_T := fun k => match k with
  | _ => ("", "", "", false)
def tyJxf0a74 : Nat → FieldType := fun k => match k with
  | _ => .int
abbrev wsJxf0a740 : List Cond := u_ws RJxf0a74 TJxf0a74 0
theorem nmJxf0a74 : ∀ a, a < 0 → ∀ b, b < 0 → a ≠ b → (TJxf0a74 a).2.1 ≠ (TJxf0a74 b).2.1 := by decide +kernel
theorem tyJxf0a74_ok : ∀ k, k < 0 → parseFieldDescriptor (TJxf0a74 k).2.2.1 = some (tyJxf0a74 k) := by decide +kernel
def RJxa66e6 : String := "java/util/SequencedCollection"
def TJxa66e6 : u_T := fun k => match k with
  | _ => ("", "", "", false)
def tyJxa66e6 : Nat → FieldType := fun k => match k with
  | _ => .int
abbrev wsJxa66e60 : List Cond := u_ws RJxa66e6 TJxa66e6 0
theorem nmJxa66e6 : ∀ a, a < 0 → ∀ b, b < 0 → a ≠ b → (TJxa66e6 a).2.1 ≠ (TJxa66e6 b).2.1 := by decide +kernel
theorem tyJxa66e6_ok : ∀ k, k < 0 → parseFieldDescriptor (TJxa66e6 k).2.2.1 = some (tyJxa66e6 k) := by decide +kernel
def RJ8 : String := "jdk/internal/util/ArraysSupport"
def TJ8 : u_T := fun k => match k with
  | _ => ("", "", "", false)
def tyJ8 : Nat → FieldType := fun k => match k with
  | _ => .int
abbrev wsJ80 : List Cond := u_ws RJ8 TJ8 0
theorem nmJ8 : ∀ a, a < 0 → ∀ b, b < 0 → a ≠ b → (TJ8 a).2.1 ≠ (TJ8 b).2.1 := by decide +kernel
theorem tyJ8_ok : ∀ k, k < 0 → parseFieldDescriptor (TJ8 k).2.2.1 = some (tyJ8 k) := by decide +kernel
abbrev cJ8_newLength_cabcc : ByteArray := prog_37_method_27_code
def yJ8_newLength_cabcc : MethodName := ⟨RJ8, "newLength", "(III)I"⟩
abbrev cJ8_hugeLength_7cf53 : ByteArray := prog_37_method_28_code
def yJ8_hugeLength_7cf53 : MethodName := ⟨RJ8, "hugeLength", "(II)I"⟩
def RJ3 : String := "jdk/internal/util/Preconditions"
def TJ3 : u_T := fun k => match k with
  | _ => ("", "", "", false)
def tyJ3 : Nat → FieldType := fun k => match k with
  | _ => .int
abbrev wsJ30 : List Cond := u_ws RJ3 TJ3 0
theorem nmJ3 : ∀ a, a < 0 → ∀ b, b < 0 → a ≠ b → (TJ3 a).2.1 ≠ (TJ3 b).2.1 := by decide +kernel
theorem tyJ3_ok : ∀ k, k < 0 → parseFieldDescriptor (TJ3 k).2.2.1 = some (tyJ3 k) := by decide +kernel
abbrev cJ3_checkIndex_8e157 : ByteArray := prog_38_method_11_code
def yJ3_checkIndex_8e157 : MethodName := ⟨RJ3, "checkIndex", "(IILjava/util/function/BiFunction;)I"⟩
def RL : String := "PrecedentHallLaw"
abbrev cL_addRule : ByteArray := method_3_code
def yL_addRule : MethodName := ⟨RL, "addRule", "(LPrecedentHall;IZIII[J)I"⟩
abbrev cL_repeal : ByteArray := method_4_code
def yL_repeal : MethodName := ⟨RL, "repeal", "(LPrecedentHall;II[J)I"⟩
abbrev cL_isInForce : ByteArray := method_5_code
def yL_isInForce : MethodName := ⟨RL, "isInForce", "(LPrecedentHall;II[J)I"⟩
abbrev cL_applying : ByteArray := method_6_code
def yL_applying : MethodName := ⟨RL, "applying", "(LPrecedentHall;I[J)I"⟩
abbrev cL_conflicts : ByteArray := method_7_code
def yL_conflicts : MethodName := ⟨RL, "conflicts", "(LPrecedentHall;I[J)I"⟩
abbrev cL_addUser : ByteArray := method_8_code
def yL_addUser : MethodName := ⟨RL, "addUser", "(LPrecedentHall;I[J)I"⟩
abbrev cL_setWeight : ByteArray := method_9_code
def yL_setWeight : MethodName := ⟨RL, "setWeight", "(LPrecedentHall;II[J)I"⟩
abbrev cL_sanctions : ByteArray := method_10_code
def yL_sanctions : MethodName := ⟨RL, "sanctions", "(LPrecedentHall;I[J)I"⟩
abbrev cL_sanctionedUntil : ByteArray := method_11_code
def yL_sanctionedUntil : MethodName := ⟨RL, "sanctionedUntil", "(LPrecedentHall;I[J)I"⟩
abbrev cL_addBot : ByteArray := method_12_code
def yL_addBot : MethodName := ⟨RL, "addBot", "(LPrecedentHall;II[J)I"⟩
abbrev cL_threshold : ByteArray := method_13_code
def yL_threshold : MethodName := ⟨RL, "threshold", "(LPrecedentHall;I[J)I"⟩
abbrev cL_file : ByteArray := method_14_code
def yL_file : MethodName := ⟨RL, "file", "(LPrecedentHall;IIII[J)I"⟩
abbrev cL_state : ByteArray := method_15_code
def yL_state : MethodName := ⟨RL, "state", "(LPrecedentHall;I[J)I"⟩
abbrev cL_vote : ByteArray := method_16_code
def yL_vote : MethodName := ⟨RL, "vote", "(LPrecedentHall;IIZ[J)I"⟩
abbrev cL_weightFor : ByteArray := method_17_code
def yL_weightFor : MethodName := ⟨RL, "weightFor", "(LPrecedentHall;I[J)I"⟩
abbrev cL_weightAgainst : ByteArray := method_18_code
def yL_weightAgainst : MethodName := ⟨RL, "weightAgainst", "(LPrecedentHall;I[J)I"⟩
abbrev cL_setQuorum : ByteArray := method_19_code
def yL_setQuorum : MethodName := ⟨RL, "setQuorum", "(LPrecedentHall;I[J)I"⟩
abbrev cL_precedent : ByteArray := method_20_code
def yL_precedent : MethodName := ⟨RL, "precedent", "(LPrecedentHall;I[J)I"⟩
abbrev cL_decide : ByteArray := method_21_code
def yL_decide : MethodName := ⟨RL, "decide", "(LPrecedentHall;I[J)I"⟩
abbrev cL_outcome : ByteArray := method_22_code
def yL_outcome : MethodName := ⟨RL, "outcome", "(LPrecedentHall;I[J)I"⟩
abbrev cL_outcomeAnew : ByteArray := method_23_code
def yL_outcomeAnew : MethodName := ⟨RL, "outcomeAnew", "(LPrecedentHall;I[J)I"⟩
abbrev cL_isByBot : ByteArray := method_24_code
def yL_isByBot : MethodName := ⟨RL, "isByBot", "(LPrecedentHall;I[J)I"⟩
abbrev cL_appeal : ByteArray := method_25_code
def yL_appeal : MethodName := ⟨RL, "appeal", "(LPrecedentHall;I[J)I"⟩
abbrev cL_wasReversed : ByteArray := method_26_code
def yL_wasReversed : MethodName := ⟨RL, "wasReversed", "(LPrecedentHall;I[J)I"⟩
abbrev cL_pass : ByteArray := method_27_code
def yL_pass : MethodName := ⟨RL, "pass", "(LPrecedentHall;I[J)I"⟩
abbrev cL_likeness : ByteArray := method_28_code
def yL_likeness : MethodName := ⟨RL, "likeness", "(LPrecedentHall;II[J)I"⟩
abbrev cL_count : ByteArray := method_29_code
def yL_count : MethodName := ⟨RL, "count", "(LPrecedentHall;C[J)I"⟩
abbrev cL_meanEvidence : ByteArray := method_30_code
def yL_meanEvidence : MethodName := ⟨RL, "meanEvidence", "(LPrecedentHall;[D)I"⟩
abbrev cL_reversedShare : ByteArray := method_31_code
def yL_reversedShare : MethodName := ⟨RL, "reversedShare", "(LPrecedentHall;[D)I"⟩
abbrev cL_law : ByteArray := code
def yL_law : MethodName := ⟨RL, "law", "([I)Z"⟩
