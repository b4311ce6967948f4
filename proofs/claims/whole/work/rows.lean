section
-- ===== PART A: goes FIRST, ahead of the names: the tables' words, and 'selects' of the private methods out of them =====
/-- a private method of a class that the tables say can be made, by its rows of tables_1 -/
def lw_okq (q : MethodName × Nat) : Prop := (q.1.cls ≠ "java/lang/invoke/MethodHandle" ∧ q.1.cls ≠ "java/lang/invoke/VarHandle") ∧ Cond.instantiable q.1.cls q.2 ∈ tables_1 ∧ Cond.privateMethod q.1 ∈ tables_1 ∧ Cond.instanceMethod q.1 ∈ tables_1
theorem lw_p0 : lw_okq (⟨"PrecedentHall", "settleAllAnew", "()V"⟩, 10) := ⟨⟨by decide +kernel, by decide +kernel⟩, List.mem_of_getElem? (i := 32) (by decide +kernel), List.mem_of_getElem? (i := 162) (by decide +kernel), List.mem_of_getElem? (i := 163) (by decide +kernel)⟩
theorem lw_p1 : lw_okq (⟨"PrecedentHall$Standing", "isWithin", "(I)Z"⟩, 3) := ⟨⟨by decide +kernel, by decide +kernel⟩, List.mem_of_getElem? (i := 66) (by decide +kernel), List.mem_of_getElem? (i := 172) (by decide +kernel), List.mem_of_getElem? (i := 173) (by decide +kernel)⟩
theorem lw_p2 : lw_okq (⟨"PrecedentHall", "findOutcome", "(LPrecedentHall$Report;IILPrecedentHall$Standing;)C"⟩, 10) := ⟨⟨by decide +kernel, by decide +kernel⟩, List.mem_of_getElem? (i := 32) (by decide +kernel), List.mem_of_getElem? (i := 176) (by decide +kernel), List.mem_of_getElem? (i := 177) (by decide +kernel)⟩
theorem lw_p3 : lw_okq (⟨"PrecedentHall", "ruleFor", "(LPrecedentHall$Report;)I"⟩, 10) := ⟨⟨by decide +kernel, by decide +kernel⟩, List.mem_of_getElem? (i := 32) (by decide +kernel), List.mem_of_getElem? (i := 180) (by decide +kernel), List.mem_of_getElem? (i := 181) (by decide +kernel)⟩
theorem lw_p4 : lw_okq (⟨"PrecedentHall", "precedentFor", "(LPrecedentHall$Report;LPrecedentHall$Standing;)I"⟩, 10) := ⟨⟨by decide +kernel, by decide +kernel⟩, List.mem_of_getElem? (i := 32) (by decide +kernel), List.mem_of_getElem? (i := 193) (by decide +kernel), List.mem_of_getElem? (i := 194) (by decide +kernel)⟩
theorem lw_p5 : lw_okq (⟨"java/lang/Throwable", "fillInStackTrace", "(I)Ljava/lang/Throwable;"⟩, 6) := ⟨⟨by decide +kernel, by decide +kernel⟩, List.mem_of_getElem? (i := 279) (by decide +kernel), List.mem_of_getElem? (i := 277) (by decide +kernel), List.mem_of_getElem? (i := 278) (by decide +kernel)⟩
theorem lw_p6 : lw_okq (⟨"java/util/ArrayList", "add", "(Ljava/lang/Object;[Ljava/lang/Object;I)V"⟩, 3) := ⟨⟨by decide +kernel, by decide +kernel⟩, List.mem_of_getElem? (i := 40) (by decide +kernel), List.mem_of_getElem? (i := 362) (by decide +kernel), List.mem_of_getElem? (i := 363) (by decide +kernel)⟩
theorem lw_p7 : lw_okq (⟨"java/util/ArrayList", "grow", "()[Ljava/lang/Object;"⟩, 3) := ⟨⟨by decide +kernel, by decide +kernel⟩, List.mem_of_getElem? (i := 40) (by decide +kernel), List.mem_of_getElem? (i := 366) (by decide +kernel), List.mem_of_getElem? (i := 367) (by decide +kernel)⟩
theorem lw_p8 : lw_okq (⟨"java/util/ArrayList", "grow", "(I)[Ljava/lang/Object;"⟩, 3) := ⟨⟨by decide +kernel, by decide +kernel⟩, List.mem_of_getElem? (i := 40) (by decide +kernel), List.mem_of_getElem? (i := 370) (by decide +kernel), List.mem_of_getElem? (i := 371) (by decide +kernel)⟩
theorem lw_p9 : lw_okq (⟨"PrecedentHall", "ruleAt", "(I)LPrecedentHall$Rule;"⟩, 10) := ⟨⟨by decide +kernel, by decide +kernel⟩, List.mem_of_getElem? (i := 32) (by decide +kernel), List.mem_of_getElem? (i := 451) (by decide +kernel), List.mem_of_getElem? (i := 452) (by decide +kernel)⟩
theorem lw_p10 : lw_okq (⟨"PrecedentHall", "rulesInForce", "(I)I"⟩, 10) := ⟨⟨by decide +kernel, by decide +kernel⟩, List.mem_of_getElem? (i := 32) (by decide +kernel), List.mem_of_getElem? (i := 477) (by decide +kernel), List.mem_of_getElem? (i := 478) (by decide +kernel)⟩
theorem lw_p11 : lw_okq (⟨"PrecedentHall", "reportAt", "(I)LPrecedentHall$Report;"⟩, 10) := ⟨⟨by decide +kernel, by decide +kernel⟩, List.mem_of_getElem? (i := 32) (by decide +kernel), List.mem_of_getElem? (i := 496) (by decide +kernel), List.mem_of_getElem? (i := 497) (by decide +kernel)⟩
theorem lw_p12 : lw_okq (⟨"PrecedentHall", "userAt", "(I)LPrecedentHall$User;"⟩, 10) := ⟨⟨by decide +kernel, by decide +kernel⟩, List.mem_of_getElem? (i := 32) (by decide +kernel), List.mem_of_getElem? (i := 551) (by decide +kernel), List.mem_of_getElem? (i := 552) (by decide +kernel)⟩
theorem lw_p13 : lw_okq (⟨"PrecedentHall", "presentSanctions", "(LPrecedentHall$User;)I"⟩, 10) := ⟨⟨by decide +kernel, by decide +kernel⟩, List.mem_of_getElem? (i := 32) (by decide +kernel), List.mem_of_getElem? (i := 562) (by decide +kernel), List.mem_of_getElem? (i := 563) (by decide +kernel)⟩
theorem lw_p14 : lw_okq (⟨"PrecedentHall", "botFor", "(LPrecedentHall$Report;)LPrecedentHall$Bot;"⟩, 10) := ⟨⟨by decide +kernel, by decide +kernel⟩, List.mem_of_getElem? (i := 32) (by decide +kernel), List.mem_of_getElem? (i := 669) (by decide +kernel), List.mem_of_getElem? (i := 670) (by decide +kernel)⟩
theorem lw_p15 : lw_okq (⟨"PrecedentHall", "settle", "(LPrecedentHall$Report;II)C"⟩, 10) := ⟨⟨by decide +kernel, by decide +kernel⟩, List.mem_of_getElem? (i := 32) (by decide +kernel), List.mem_of_getElem? (i := 673) (by decide +kernel), List.mem_of_getElem? (i := 674) (by decide +kernel)⟩
def lw_privs_1 : List (MethodName × Nat) := [(⟨"PrecedentHall", "settleAllAnew", "()V"⟩, 10), (⟨"PrecedentHall$Standing", "isWithin", "(I)Z"⟩, 3), (⟨"PrecedentHall", "findOutcome", "(LPrecedentHall$Report;IILPrecedentHall$Standing;)C"⟩, 10), (⟨"PrecedentHall", "ruleFor", "(LPrecedentHall$Report;)I"⟩, 10), (⟨"PrecedentHall", "precedentFor", "(LPrecedentHall$Report;LPrecedentHall$Standing;)I"⟩, 10), (⟨"java/lang/Throwable", "fillInStackTrace", "(I)Ljava/lang/Throwable;"⟩, 6), (⟨"java/util/ArrayList", "add", "(Ljava/lang/Object;[Ljava/lang/Object;I)V"⟩, 3), (⟨"java/util/ArrayList", "grow", "()[Ljava/lang/Object;"⟩, 3), (⟨"java/util/ArrayList", "grow", "(I)[Ljava/lang/Object;"⟩, 3), (⟨"PrecedentHall", "ruleAt", "(I)LPrecedentHall$Rule;"⟩, 10), (⟨"PrecedentHall", "rulesInForce", "(I)I"⟩, 10), (⟨"PrecedentHall", "reportAt", "(I)LPrecedentHall$Report;"⟩, 10), (⟨"PrecedentHall", "userAt", "(I)LPrecedentHall$User;"⟩, 10), (⟨"PrecedentHall", "presentSanctions", "(LPrecedentHall$User;)I"⟩, 10), (⟨"PrecedentHall", "botFor", "(LPrecedentHall$Report;)LPrecedentHall$Bot;"⟩, 10), (⟨"PrecedentHall", "settle", "(LPrecedentHall$Report;II)C"⟩, 10)]
theorem lw_r1 : ∀ q ∈ lw_privs_1, lw_okq q := List.forall_mem_cons.mpr ⟨lw_p0, List.forall_mem_cons.mpr ⟨lw_p1, List.forall_mem_cons.mpr ⟨lw_p2, List.forall_mem_cons.mpr ⟨lw_p3, List.forall_mem_cons.mpr ⟨lw_p4, List.forall_mem_cons.mpr ⟨lw_p5, List.forall_mem_cons.mpr ⟨lw_p6, List.forall_mem_cons.mpr ⟨lw_p7, List.forall_mem_cons.mpr ⟨lw_p8, List.forall_mem_cons.mpr ⟨lw_p9, List.forall_mem_cons.mpr ⟨lw_p10, List.forall_mem_cons.mpr ⟨lw_p11, List.forall_mem_cons.mpr ⟨lw_p12, List.forall_mem_cons.mpr ⟨lw_p13, List.forall_mem_cons.mpr ⟨lw_p14, List.forall_mem_cons.mpr ⟨lw_p15, fun _ h => absurd h List.not_mem_nil⟩⟩⟩⟩⟩⟩⟩⟩⟩⟩⟩⟩⟩⟩⟩⟩
theorem lw_p16 : lw_okq (⟨"PrecedentHall", "sanctionAccused", "(LPrecedentHall$Report;)V"⟩, 10) := ⟨⟨by decide +kernel, by decide +kernel⟩, List.mem_of_getElem? (i := 32) (by decide +kernel), List.mem_of_getElem? (i := 699) (by decide +kernel), List.mem_of_getElem? (i := 700) (by decide +kernel)⟩
theorem lw_p17 : lw_okq (⟨"PrecedentHall", "reportsInState", "(C)I"⟩, 10) := ⟨⟨by decide +kernel, by decide +kernel⟩, List.mem_of_getElem? (i := 32) (by decide +kernel), List.mem_of_getElem? (i := 857) (by decide +kernel), List.mem_of_getElem? (i := 858) (by decide +kernel)⟩
theorem lw_p18 : lw_okq (⟨"PrecedentHall", "guiltyReports", "()I"⟩, 10) := ⟨⟨by decide +kernel, by decide +kernel⟩, List.mem_of_getElem? (i := 32) (by decide +kernel), List.mem_of_getElem? (i := 890) (by decide +kernel), List.mem_of_getElem? (i := 891) (by decide +kernel)⟩
theorem lw_p19 : lw_okq (⟨"PrecedentHall", "reportsByBots", "()I"⟩, 10) := ⟨⟨by decide +kernel, by decide +kernel⟩, List.mem_of_getElem? (i := 32) (by decide +kernel), List.mem_of_getElem? (i := 894) (by decide +kernel), List.mem_of_getElem? (i := 895) (by decide +kernel)⟩
theorem lw_p20 : lw_okq (⟨"PrecedentHall", "reversedReports", "()I"⟩, 10) := ⟨⟨by decide +kernel, by decide +kernel⟩, List.mem_of_getElem? (i := 32) (by decide +kernel), List.mem_of_getElem? (i := 898) (by decide +kernel), List.mem_of_getElem? (i := 899) (by decide +kernel)⟩
theorem lw_p21 : lw_okq (⟨"PrecedentHallModel", "fails", "(I)I"⟩, 33) := ⟨⟨by decide +kernel, by decide +kernel⟩, List.mem_of_getElem? (i := 939) (by decide +kernel), List.mem_of_getElem? (i := 1059) (by decide +kernel), List.mem_of_getElem? (i := 1060) (by decide +kernel)⟩
theorem lw_p22 : lw_okq (⟨"PrecedentHallModel", "isRule", "(I)Z"⟩, 33) := ⟨⟨by decide +kernel, by decide +kernel⟩, List.mem_of_getElem? (i := 939) (by decide +kernel), List.mem_of_getElem? (i := 1068) (by decide +kernel), List.mem_of_getElem? (i := 1069) (by decide +kernel)⟩
theorem lw_p23 : lw_okq (⟨"PrecedentHallModel", "inForce", "(II)Z"⟩, 33) := ⟨⟨by decide +kernel, by decide +kernel⟩, List.mem_of_getElem? (i := 939) (by decide +kernel), List.mem_of_getElem? (i := 1073) (by decide +kernel), List.mem_of_getElem? (i := 1074) (by decide +kernel)⟩
theorem lw_p24 : lw_okq (⟨"PrecedentHallModel", "isReport", "(I)Z"⟩, 33) := ⟨⟨by decide +kernel, by decide +kernel⟩, List.mem_of_getElem? (i := 939) (by decide +kernel), List.mem_of_getElem? (i := 1085) (by decide +kernel), List.mem_of_getElem? (i := 1086) (by decide +kernel)⟩
theorem lw_p25 : lw_okq (⟨"PrecedentHallModel", "rule", "(I)I"⟩, 33) := ⟨⟨by decide +kernel, by decide +kernel⟩, List.mem_of_getElem? (i := 939) (by decide +kernel), List.mem_of_getElem? (i := 1089) (by decide +kernel), List.mem_of_getElem? (i := 1090) (by decide +kernel)⟩
theorem lw_p26 : lw_okq (⟨"PrecedentHallModel", "isUser", "(I)Z"⟩, 33) := ⟨⟨by decide +kernel, by decide +kernel⟩, List.mem_of_getElem? (i := 939) (by decide +kernel), List.mem_of_getElem? (i := 1105) (by decide +kernel), List.mem_of_getElem? (i := 1106) (by decide +kernel)⟩
theorem lw_p27 : lw_okq (⟨"PrecedentHallModel", "sanctionsOf", "(I)I"⟩, 33) := ⟨⟨by decide +kernel, by decide +kernel⟩, List.mem_of_getElem? (i := 939) (by decide +kernel), List.mem_of_getElem? (i := 1113) (by decide +kernel), List.mem_of_getElem? (i := 1114) (by decide +kernel)⟩
theorem lw_p28 : lw_okq (⟨"PrecedentHallModel", "includes", "(II)Z"⟩, 33) := ⟨⟨by decide +kernel, by decide +kernel⟩, List.mem_of_getElem? (i := 939) (by decide +kernel), List.mem_of_getElem? (i := 1117) (by decide +kernel), List.mem_of_getElem? (i := 1118) (by decide +kernel)⟩
theorem lw_p29 : lw_okq (⟨"PrecedentHallModel", "stands", "(IC)Z"⟩, 33) := ⟨⟨by decide +kernel, by decide +kernel⟩, List.mem_of_getElem? (i := 939) (by decide +kernel), List.mem_of_getElem? (i := 1121) (by decide +kernel), List.mem_of_getElem? (i := 1122) (by decide +kernel)⟩
theorem lw_p30 : lw_okq (⟨"PrecedentHallModel", "decides", "(IIII)V"⟩, 33) := ⟨⟨by decide +kernel, by decide +kernel⟩, List.mem_of_getElem? (i := 939) (by decide +kernel), List.mem_of_getElem? (i := 1141) (by decide +kernel), List.mem_of_getElem? (i := 1142) (by decide +kernel)⟩
theorem lw_p31 : lw_okq (⟨"PrecedentHallModel", "outcomeBy", "(III)C"⟩, 33) := ⟨⟨by decide +kernel, by decide +kernel⟩, List.mem_of_getElem? (i := 939) (by decide +kernel), List.mem_of_getElem? (i := 1145) (by decide +kernel), List.mem_of_getElem? (i := 1146) (by decide +kernel)⟩
def lw_privs_2 : List (MethodName × Nat) := [(⟨"PrecedentHall", "sanctionAccused", "(LPrecedentHall$Report;)V"⟩, 10), (⟨"PrecedentHall", "reportsInState", "(C)I"⟩, 10), (⟨"PrecedentHall", "guiltyReports", "()I"⟩, 10), (⟨"PrecedentHall", "reportsByBots", "()I"⟩, 10), (⟨"PrecedentHall", "reversedReports", "()I"⟩, 10), (⟨"PrecedentHallModel", "fails", "(I)I"⟩, 33), (⟨"PrecedentHallModel", "isRule", "(I)Z"⟩, 33), (⟨"PrecedentHallModel", "inForce", "(II)Z"⟩, 33), (⟨"PrecedentHallModel", "isReport", "(I)Z"⟩, 33), (⟨"PrecedentHallModel", "rule", "(I)I"⟩, 33), (⟨"PrecedentHallModel", "isUser", "(I)Z"⟩, 33), (⟨"PrecedentHallModel", "sanctionsOf", "(I)I"⟩, 33), (⟨"PrecedentHallModel", "includes", "(II)Z"⟩, 33), (⟨"PrecedentHallModel", "stands", "(IC)Z"⟩, 33), (⟨"PrecedentHallModel", "decides", "(IIII)V"⟩, 33), (⟨"PrecedentHallModel", "outcomeBy", "(III)C"⟩, 33)]
theorem lw_r2 : ∀ q ∈ lw_privs_2, lw_okq q := List.forall_mem_cons.mpr ⟨lw_p16, List.forall_mem_cons.mpr ⟨lw_p17, List.forall_mem_cons.mpr ⟨lw_p18, List.forall_mem_cons.mpr ⟨lw_p19, List.forall_mem_cons.mpr ⟨lw_p20, List.forall_mem_cons.mpr ⟨lw_p21, List.forall_mem_cons.mpr ⟨lw_p22, List.forall_mem_cons.mpr ⟨lw_p23, List.forall_mem_cons.mpr ⟨lw_p24, List.forall_mem_cons.mpr ⟨lw_p25, List.forall_mem_cons.mpr ⟨lw_p26, List.forall_mem_cons.mpr ⟨lw_p27, List.forall_mem_cons.mpr ⟨lw_p28, List.forall_mem_cons.mpr ⟨lw_p29, List.forall_mem_cons.mpr ⟨lw_p30, List.forall_mem_cons.mpr ⟨lw_p31, fun _ h => absurd h List.not_mem_nil⟩⟩⟩⟩⟩⟩⟩⟩⟩⟩⟩⟩⟩⟩⟩⟩
theorem lw_p32 : lw_okq (⟨"PrecedentHallModel", "precedentOf", "(I)I"⟩, 33) := ⟨⟨by decide +kernel, by decide +kernel⟩, List.mem_of_getElem? (i := 939) (by decide +kernel), List.mem_of_getElem? (i := 1149) (by decide +kernel), List.mem_of_getElem? (i := 1150) (by decide +kernel)⟩
theorem lw_p33 : lw_okq (⟨"PrecedentHallModel", "like", "(II)I"⟩, 33) := ⟨⟨by decide +kernel, by decide +kernel⟩, List.mem_of_getElem? (i := 939) (by decide +kernel), List.mem_of_getElem? (i := 1153) (by decide +kernel), List.mem_of_getElem? (i := 1154) (by decide +kernel)⟩
theorem lw_p34 : lw_okq (⟨"PrecedentHallModel", "weight", "(II)I"⟩, 33) := ⟨⟨by decide +kernel, by decide +kernel⟩, List.mem_of_getElem? (i := 939) (by decide +kernel), List.mem_of_getElem? (i := 1166) (by decide +kernel), List.mem_of_getElem? (i := 1167) (by decide +kernel)⟩
theorem lw_p35 : lw_okq (⟨"PrecedentHallModel", "isNone", "(I)Z"⟩, 33) := ⟨⟨by decide +kernel, by decide +kernel⟩, List.mem_of_getElem? (i := 939) (by decide +kernel), List.mem_of_getElem? (i := 1174) (by decide +kernel), List.mem_of_getElem? (i := 1175) (by decide +kernel)⟩
theorem lw_p36 : lw_okq (⟨"PrecedentHallModel", "isOpen", "(I)Z"⟩, 33) := ⟨⟨by decide +kernel, by decide +kernel⟩, List.mem_of_getElem? (i := 939) (by decide +kernel), List.mem_of_getElem? (i := 1199) (by decide +kernel), List.mem_of_getElem? (i := 1200) (by decide +kernel)⟩
theorem lw_p37 : lw_okq (⟨"PrecedentHallModel", "isReversed", "(I)Z"⟩, 33) := ⟨⟨by decide +kernel, by decide +kernel⟩, List.mem_of_getElem? (i := 939) (by decide +kernel), List.mem_of_getElem? (i := 1220) (by decide +kernel), List.mem_of_getElem? (i := 1221) (by decide +kernel)⟩
theorem lw_p38 : lw_okq (⟨"PrecedentHallModel", "isOf", "(IC)Z"⟩, 33) := ⟨⟨by decide +kernel, by decide +kernel⟩, List.mem_of_getElem? (i := 939) (by decide +kernel), List.mem_of_getElem? (i := 1244) (by decide +kernel), List.mem_of_getElem? (i := 1245) (by decide +kernel)⟩
def lw_privs_3 : List (MethodName × Nat) := [(⟨"PrecedentHallModel", "precedentOf", "(I)I"⟩, 33), (⟨"PrecedentHallModel", "like", "(II)I"⟩, 33), (⟨"PrecedentHallModel", "weight", "(II)I"⟩, 33), (⟨"PrecedentHallModel", "isNone", "(I)Z"⟩, 33), (⟨"PrecedentHallModel", "isOpen", "(I)Z"⟩, 33), (⟨"PrecedentHallModel", "isReversed", "(I)Z"⟩, 33), (⟨"PrecedentHallModel", "isOf", "(IC)Z"⟩, 33)]
theorem lw_r3 : ∀ q ∈ lw_privs_3, lw_okq q := List.forall_mem_cons.mpr ⟨lw_p32, List.forall_mem_cons.mpr ⟨lw_p33, List.forall_mem_cons.mpr ⟨lw_p34, List.forall_mem_cons.mpr ⟨lw_p35, List.forall_mem_cons.mpr ⟨lw_p36, List.forall_mem_cons.mpr ⟨lw_p37, List.forall_mem_cons.mpr ⟨lw_p38, fun _ h => absurd h List.not_mem_nil⟩⟩⟩⟩⟩⟩⟩
def lw_privs : List (MethodName × Nat) := lw_privs_1 ++ (lw_privs_2 ++ (lw_privs_3))
def lw_tbl : List Cond := k2_sels lw_privs ++ tables_1
theorem lw_privs_ok : ∀ q ∈ lw_privs, lw_okq q := by
  show ∀ q ∈ lw_privs_1 ++ (lw_privs_2 ++ (lw_privs_3)), lw_okq q
  exact List.forall_mem_append.mpr ⟨lw_r1, List.forall_mem_append.mpr ⟨lw_r2, lw_r3⟩⟩
/-- the streams that the claim lets the run draw from -/
abbrev lw_cs : List Choice := [Jvm.Choice.named "NaN.bits"]
theorem lw_bits : nanBits ∈ lw_cs := by first | decide | exact List.mem_cons_self | simp [lw_cs, nanBits]
-- ===== end of PART A; then your names; then what follows =====
end
section
/-! ===== BEGIN words of one list among another's, by their places ===== -/
theorem goodIn_r {big : List Cond} (ws : List Cond) (ps : List Nat) (hp : ws = ps.filterMap (fun i => big[i]?)) (h : ws.all goodWord = true) : GoodIn big ws := by
  intro w hw
  have h1 := List.all_eq_true.mp h w hw
  rw [hp] at hw
  obtain ⟨i, -, hi⟩ := List.mem_filterMap.mp hw
  have hm : w ∈ big := by first | exact List.mem_of_getElem? hi | exact List.getElem?_mem hi
  exact ⟨hm, good_of_word h1⟩
theorem goodIn_app {big a b : List Cond} (ha : GoodIn big a) (hb : GoodIn big b) : GoodIn big (a ++ b) := fun w h => (List.mem_append.mp h).elim (ha w) (hb w)
theorem goodIn_ca {big a b : List Cond} {c : Cond} (ha : GoodIn big (c :: a)) (hb : GoodIn big b) : GoodIn big (c :: (a ++ b)) := fun w h => (List.mem_cons.mp h).elim (fun e => ha w (List.mem_cons.mpr (Or.inl e))) (fun h => (List.mem_append.mp h).elim (fun h => ha w (List.mem_cons.mpr (Or.inr h))) (hb w))
theorem goodIn_sub {big ws : List Cond} (hm : ∀ w ∈ ws, w ∈ big) (h : ws.all goodWord = true) : GoodIn big ws := fun w hw => ⟨hm w hw, good_of_word (List.all_eq_true.mp h w hw)⟩
/-! ===== END ===== -/
/-! ===== BEGIN exceptions that leave a method, and their catching by the caller (launches without stack traces) ===== -/
section VXA
/-! The laws vx_back, vx_callV, vx_callS, vx_callSW, vx_throw0, vx_throwS follow proofs of the library, with one case more: JvmDerived/Free/Laws.lean (Back.of_free), Shelf42/LK1.lean (callV, callS), Shelf/KitTraced.lean (throwNew0V, throwNewS). -/
/-- where a method has thrown q: the class by its name, the cell, what was written, the world -/
def vx_T (XC : String → State → State → Prop) (st : State) (q : Addr) (t : State) (mc ms : Nat) (free : Addr → Prop) : Prop :=
  ∃ (E : String) (ce : Cell) (L : List Loc), XC E st t ∧ t.heap[q]? = some ce ∧ ce.vm = .none ∧ st.vm.findClass E = some ce.cls ∧ st.WarmedH t.vm ∧ st.sameButNew ({ t with vm := st.vm } : State) L mc ms ∧ ∀ z ∈ L, free z.base
def vx_Q (Qc : Array Value → State → Outcome → State → Prop) (XC : String → State → State → Prop) (mc ms : Nat) (free : Addr → Prop) : Array Value → State → Outcome → State → Prop := fun a st o t =>
  (Qc a st o t ∧ ∃ L, FrameEnd st o t L mc ms ∧ ∀ q ∈ L, free q.base) ∨ ∃ q, o = .threw q ∧ vx_T XC st q t mc ms free
/-- a callee that returns or throws -/
def vx_Met (l : Launch) (y : MethodName) (ws : List Cond) (rm : Room) (Pc : Array Value → State → Prop) (Qc : Array Value → State → Outcome → State → Prop) (XC : String → State → State → Prop) (mc ms : Nat) (free : Addr → Prop) : Prop :=
  MetFree l y (headSpec ws rm) Pc (fun _ _ _ _ _ => True) (vx_Q Qc XC mc ms free)
def vx_Post (XC : String → State → State → Prop) (mc ms : Nat) (free : Addr → Prop) : Pt → Array Value → Addr → Pt → Prop := fun A a q B =>
  ∃ (g : JFrame) (mk : MethodId) (t : State) (L : List Loc) (E : String) (ce : Cell), B.U.heap = t.heap ∧ B.U.vm = t.vm ∧ XC E (A.U.calling g mk a) t ∧ t.heap[q]? = some ce ∧ ce.vm = .none ∧ A.U.vm.findClass E = some ce.cls ∧ B.locs = A.locs ++ L ∧ (∀ z ∈ L, free z.base) ∧ B.cells = A.cells + mc ∧ B.slots = A.slots + ms
def vx_Back (l : Launch) (R : Room) (p : Program) (e : Env) (below : List Frame) (s : State) (sargs : Array Value) (y : MethodName) (len W9 : Nat)
    (Pre : Pt → Array Value → Prop) (Post : Pt → Array Value → Option Value → Pt → Prop) (PostX : Pt → Array Value → Addr → Pt → Prop) : Prop :=
  ∀ (m : MethodId) (meth : Method) (c : Code) (A : Pt) (g : JFrame) (ig : Instr) (mk : MethodId) (a : Array Value),
    Stand p l e R s m sargs below meth c A.U A.locs A.cells A.slots → g.method = m → g.locals.size = c.maxLocals → decode c.code g.pc = .ok (ig, len) →
    2 * g.monitorRoom + (g.stack.map fun v => v.category).sum ≤ W9 → A.U.methodNamed? y = some mk → Pre A a →
    (∃ (v : Option Value) (B : Pt), Stand p l e R s m sargs below meth c B.U B.locs B.cells B.slots ∧ Post A a v B ∧
      Steps p.tables e below (doInvoke e (A.U.setTop g) [] mk a).1 (B.U.setTop { g with pc := g.pc + len, stack := v.toList ++ g.stack })) ∨
    (∃ (q : Addr) (B : Pt), Stand p l e R s m sargs below meth c B.U B.locs B.cells B.slots ∧ PostX A a q B ∧
      Steps p.tables e below (doInvoke e (A.U.setTop g) [] mk a).1 ((B.U.setTop g).pushFrame (.throwing q)))
section Payer
variable {l : Launch} {R : Room} {p : Program} {e : Env} {below : List Frame} {s : State} {sargs : Array Value} {y : MethodName} {len W9 : Nat}
theorem vx_back {ws : List Cond} {rm : Room} {Pc : Array Value → State → Prop} {Qc : Array Value → State → Outcome → State → Prop} {XC : String → State → State → Prop} {mc ms : Nat} {free : Addr → Prop} {bytes : ByteArray} {maxL : Nat} {ret : Option FieldType}
    (hM : vx_Met l y ws rm Pc Qc XC mc ms free) (hblind : FrameBlind Pc) (hrc : rm.cells = mc) (hrs : rm.slots = ms)
    (hframes : rm.frames + 1 ≤ R.frames) (hlocals : W9 + (maxL + 11) + rm.locals ≤ R.locals)
    (hws : ∀ w ∈ ws, ∀ a' U, s.WarmedH U.vm → w.before a' U = true) (hcode : Cond.code y bytes maxL ret ∈ ws) (hinit : ∀ a' U, s.WarmedH U.vm → (Cond.initialized y.cls).before a' U = true) :
    vx_Back l R p e below s sargs y len W9 (PreOf R mc ms Pc) (PostOf Qc mc ms free) (vx_Post XC mc ms free) := by
  intro m meth c A g ig mk a X hg hsize hdg hW hn hp
  have h1 : (headSpec ws rm).pre.before a A.U = true := atoms_intro fun w hw => hws w hw _ _ X.warmed
  have h2 : (Cond.code y bytes maxL ret).before a A.U = true := hws _ hcode _ _ X.warmed
  have h3 : (Cond.initialized y.cls).before a A.U = true := hinit _ _ X.warmed
  have h4 : A.cells + (headSpec ws rm).room.cells ≤ R.cells := by rw [show (headSpec ws rm).room.cells = mc from hrc]; exact hp.1
  have h5 : A.slots + (headSpec ws rm).room.slots ≤ R.slots := by rw [show (headSpec ws rm).room.slots = ms from hrs]; exact hp.2.1
  have hPc : Pc a (A.U.calling g mk a) := hblind _ _ _ _ hp.2.2
  obtain ⟨U, Ls, c0, s0⟩ := A
  dsimp only [Pt.U, Pt.locs, Pt.cells, Pt.slots] at h1 h2 h3 h4 h5 X hn hPc ⊢
  obtain ⟨methY, cY, hmY, hcY, -, hlY, -, -, -, -⟩ := Cond.code_spec hn h2
  obtain ⟨kY, hkY, -⟩ := className_of_methodNamed hn
  have hinitY : kY.init = .initialized := Cond.initialized_spec (findClass_of_methodNamed hn) hkY h3
  have h : At U g.method c below := by rw [hg]; exact X.here
  have hlocals9 : W9 + (maxL + 11) + (headSpec ws rm).room.locals ≤ R.locals := hlocals
  have happ : (headSpec ws rm).appliesLoose y e.platform (U.calling g mk a) = true :=
    Spec.appliesLoose_calling (g := g) h hdg hn hkY hinitY
      (X.room_calling (g := g) (R' := (headSpec ws rm).room) hsize hmY hcY hframes (by rw [hlY]; omega) h4 h5) h1
  obtain ⟨mid, hmid⟩ := h.above
  have hfr : (U.setTop g).frames = (.java g :: mid) ++ below := by rw [State.frames_setTop' g h.top, hmid]; rfl
  obtain ⟨o, s₂, hsteps, -, hend, hq⟩ := Steps.callFree hM p X.admits X.cas X.clock (acts := []) hfr happ hPc trivial
  have hq' : vx_Q Qc XC mc ms free a (U.calling g mk a) o s₂ := hq
  rw [State.frames_setTop' g h.top] at hend
  obtain ⟨g₀, hg0⟩ := Option.isSome_iff_exists.mp h.top
  obtain ⟨r, hr⟩ := State.topJava?_eq_some.mp hg0
  have hr' : (({ U with heap := s₂.heap, slotsUsed := s₂.slotsUsed } : State).setVm s₂.vm).frames = .java g₀ :: r := hr
  rcases hq' with ⟨hqc, L, hfe, hL⟩ | ⟨q, rfl, E, ce, L, hx, hce, hcv, hcl, hW₂, hsm, hL⟩
  · obtain ⟨⟨v, rfl⟩, hW₂, e2, q2, q3, q4, q5, q6⟩ := id hfe
    have e3 : s₂ = ({ (U.calling g mk a).setFrames s₂.frames with heap := s₂.heap, slotsUsed := s₂.slotsUsed } : State).setVm s₂.vm := by
      have : s₂ = ({ s₂ with vm := (U.calling g mk a).vm } : State).setVm s₂.vm := rfl
      rw [e2] at this
      exact this
    obtain ⟨c₂, i₂, len₂, hc₂, hd₂, hf₂⟩ := hend
    have hW' : U.WarmedH s₂.vm := hW₂
    have hcc : c₂ = c := by
      have h1 : s₂.code? g.method = U.code? g.method := by
        rw [State.code?_eq, State.code?_eq, hW'.alike.method?]
      exact Option.some.inj (hc₂.symm.trans (h1.trans h.code))
    subst hcc
    have hlen : len₂ = len := by rw [hdg] at hd₂; cases hd₂; rfl
    subst hlen
    have hs₂ : s₂ = (({ U with heap := s₂.heap, slotsUsed := s₂.slotsUsed } : State).setVm s₂.vm).setTop { g with pc := g.pc + len₂, stack := v.toList ++ g.stack } := by
      refine e3.trans ?_
      rw [hf₂, State.calling_eq h.top, State.setFrames_setFrames, State.setTop_of_frames _ hr', hr]
      rfl
    have hsame : U.sameButNew ({ U with heap := s₂.heap, slotsUsed := s₂.slotsUsed } : State) L mc ms := by
      refine ⟨?_, q2, q3, q4, q5, q6⟩
      obtain ⟨t, ht, -⟩ := State.frames_cons hr
      show ({ U with heap := s₂.heap, slotsUsed := s₂.slotsUsed } : State) = { U.setFrames U.frames with heap := s₂.heap, slotsUsed := s₂.slotsUsed }
      rw [State.setFrames_self ht]
    subst hg
    refine Or.inl ⟨v, ⟨(({ U with heap := s₂.heap, slotsUsed := s₂.slotsUsed } : State).setVm s₂.vm), Ls ++ L, c0 + mc, s0 + ms⟩,
      ⟨X.admits, X.cas, X.clock, X.frames, X.room, X.hears, X.method, X.code, (X.here.setHeapUsed s₂.heap s₂.slotsUsed).setVm hW'.alike, X.tail, State.WarmedH.trans X.warmed hW', X.limits, X.bytes, X.same.trans (hsame.setVm s.vm)⟩,
      ⟨g, mk, s₂, L, rfl, rfl, hqc, rfl, hL, rfl, rfl⟩, ?_⟩
    show Steps p.tables e below _ ((({ U with heap := s₂.heap, slotsUsed := s₂.slotsUsed } : State).setVm s₂.vm).setTop { g with pc := g.pc + len₂, stack := v.toList ++ g.stack })
    rw [← hs₂]
    exact hsteps
  · obtain ⟨e2, q2, q3, q4, q5, q6⟩ := id hsm
    have e3 : s₂ = ({ (U.calling g mk a).setFrames s₂.frames with heap := s₂.heap, slotsUsed := s₂.slotsUsed } : State).setVm s₂.vm := by
      have : s₂ = ({ s₂ with vm := (U.calling g mk a).vm } : State).setVm s₂.vm := rfl
      rw [e2] at this
      exact this
    have hf₂ : s₂.frames = .throwing q :: .java g :: U.frames.tail := hend
    have hW' : U.WarmedH s₂.vm := hW₂
    have hs₂ : s₂ = ((({ U with heap := s₂.heap, slotsUsed := s₂.slotsUsed } : State).setVm s₂.vm).setTop g).pushFrame (.throwing q) := by
      refine e3.trans ?_
      rw [hf₂, State.calling_eq h.top, State.setFrames_setFrames, State.pushFrame, State.frames_setTop _ hr', State.setTop_of_frames _ hr', State.setFrames_setFrames, hr]
      rfl
    have hsame : U.sameButNew ({ U with heap := s₂.heap, slotsUsed := s₂.slotsUsed } : State) L mc ms := by
      refine ⟨?_, q2, q3, q4, q5, q6⟩
      obtain ⟨t, ht, -⟩ := State.frames_cons hr
      show ({ U with heap := s₂.heap, slotsUsed := s₂.slotsUsed } : State) = { U.setFrames U.frames with heap := s₂.heap, slotsUsed := s₂.slotsUsed }
      rw [State.setFrames_self ht]
    subst hg
    refine Or.inr ⟨q, ⟨(({ U with heap := s₂.heap, slotsUsed := s₂.slotsUsed } : State).setVm s₂.vm), Ls ++ L, c0 + mc, s0 + ms⟩,
      ⟨X.admits, X.cas, X.clock, X.frames, X.room, X.hears, X.method, X.code, (X.here.setHeapUsed s₂.heap s₂.slotsUsed).setVm hW'.alike, X.tail, State.WarmedH.trans X.warmed hW', X.limits, X.bytes, X.same.trans (hsame.setVm s.vm)⟩,
      ⟨g, mk, s₂, L, E, ce, rfl, rfl, hx, hce, hcv, hcl, rfl, hL, rfl, rfl⟩, ?_⟩
    show Steps p.tables e below _ (((({ U with heap := s₂.heap, slotsUsed := s₂.slotsUsed } : State).setVm s₂.vm).setTop g).pushFrame (.throwing q))
    rw [← hs₂]
    exact hsteps
end Payer
section Calls
variable {p : Program} {l : Launch} {e : Env} {R : Room} {s : State} {m : MethodId} {args : Array Value} {below : List Frame} {meth : Method} {c : Code} {T : State} {locs : List Loc} {cells slots : Nat}
theorem vx_callV (X : Stand p l e R s m args below meth c T locs cells slots) (hexec : p.tables.exec = Jvm.exec) {own C : String} {index : Nat} {y : MethodName} {bytes : ByteArray} {maxL : Nat} {ret : Option FieldType}
    (hown : s.vm.findClass own = some m.cls) (hlink : (Cond.methodLink own index y).before args s = true) (hinst : (Cond.instanceMethod y).before args s = true) (hsel : (Cond.selects C y y).before args s = true)
    (hcode : (Cond.code y bytes maxL ret).before args s = true) (hy : y.cls ≠ "java/lang/invoke/MethodHandle" ∧ y.cls ≠ "java/lang/invoke/VarHandle")
    {W9 : Nat} {Pre : Pt → Array Value → Prop} {Post : Pt → Array Value → Option Value → Pt → Prop} {PostX : Pt → Array Value → Addr → Pt → Prop} (hK : vx_Back l R p e below s args y 3 W9 Pre Post PostX)
    {b : Addr} {cellB : Cell} (hcell : T.heap[b]? = some cellB) (hobj : cellB.vm.isStatics = false) (hcls : s.vm.findClass C = some cellB.cls)
    {g : JFrame} (hg : g.method = m) (hsize : g.locals.size = c.maxLocals) {argsL rest : List Value} (hlen : ∀ sig, parseMethodDescriptor y.desc = some sig → argsL.length = sig.parameters.length)
    (hstack : g.stack = argsL.reverse ++ .ref b :: rest) (hW : 2 * g.monitorRoom + (rest.map fun v => v.category).sum ≤ W9) (hdg : decode c.code g.pc = .ok (.invokevirtual index, 3))
    (hpre : ∀ vm₁, s.WarmedH vm₁ → Pre ⟨T.setVm vm₁, locs, cells, slots⟩ (Value.ref b :: argsL).toArray) :
    (∃ (v : Option Value) (vm₁ : Vm) (B : Pt), s.WarmedH vm₁ ∧ Stand p l e R s m args below meth c B.U B.locs B.cells B.slots ∧ Post ⟨T.setVm vm₁, locs, cells, slots⟩ (Value.ref b :: argsL).toArray v B ∧
      ∀ target, Steps p.tables e below (B.U.setTop { g with pc := g.pc + 3, stack := v.toList ++ rest }) target → Steps p.tables e below (T.setTop g) target) ∨
    (∃ (q : Addr) (vm₁ : Vm) (B : Pt), s.WarmedH vm₁ ∧ Stand p l e R s m args below meth c B.U B.locs B.cells B.slots ∧ PostX ⟨T.setVm vm₁, locs, cells, slots⟩ (Value.ref b :: argsL).toArray q B ∧
      Steps p.tables e below (T.setTop g) ((B.U.setTop { g with stack := rest }).pushFrame (.throwing q))) := by
  obtain ⟨mk, methM, hnamed, hmethM, hstM, habM⟩ := Cond.instanceMethod_spec hinst
  obtain ⟨methM', cM, hmethM', -, -, -, -, -, -, hsigM⟩ := Cond.code_spec hnamed hcode
  cases hmethM.symm.trans hmethM'
  obtain ⟨c2, r2, m2, q1, q2, q3, q4, kP, hkP, hkPi⟩ := Cond.selects_spec hsel
  cases hcls.symm.trans q1
  cases (State.methodFound?_of_named hnamed hy).symm.trans q2
  cases hnamed.symm.trans q3
  have hselP : selectMethod e.platform s.vm cellB.cls mk = .method mk := by rw [Launch.admits_selectMethod X.admits]; exact q4
  obtain ⟨vm₁, X₁, hstep₁⟩ := X.invokevirtual hexec hown hlink hnamed hmethM hstM hkP hkPi hy (a := b) (cell := cellB) hcell
    (fun z h => by rw [h] at hobj; cases hobj) hselP hmethM habM hkP hkPi (g := g) hg (argsL := argsL) (rest := rest) (hlen _ hsigM) hstack hdg
  rcases hK m meth c ⟨T.setVm vm₁, locs, cells, slots⟩ { g with stack := rest } (.invokevirtual index) mk (Value.ref b :: argsL).toArray X₁ hg hsize hdg hW (X₁.named hnamed) (hpre vm₁ X₁.warmed) with ⟨v, B, X', hpost, hsteps⟩ | ⟨q, B, X', hpost, hsteps⟩
  · exact Or.inl ⟨v, vm₁, B, X₁.warmed, X', hpost, fun target h => hstep₁ _ fun acts => by rw [doInvoke_state]; exact hsteps.trans h⟩
  · exact Or.inr ⟨q, vm₁, B, X₁.warmed, X', hpost, hstep₁ _ fun acts => by rw [doInvoke_state]; exact hsteps⟩
theorem vx_callS (X : Stand p l e R s m args below meth c T locs cells slots) (hexec : p.tables.exec = Jvm.exec) {own : String} {index : Nat} {y : MethodName} {bytes : ByteArray} {maxL : Nat} {ret : Option FieldType}
    (hown : s.vm.findClass own = some m.cls) (hlink : (Cond.methodLink own index y).before args s = true) (hstat : (Cond.static y).before args s = true) (hinit : (Cond.initialized y.cls).before args s = true)
    (hcode : (Cond.code y bytes maxL ret).before args s = true) (hy : y.cls ≠ "java/lang/invoke/MethodHandle" ∧ y.cls ≠ "java/lang/invoke/VarHandle")
    {W9 : Nat} {Pre : Pt → Array Value → Prop} {Post : Pt → Array Value → Option Value → Pt → Prop} {PostX : Pt → Array Value → Addr → Pt → Prop} (hK : vx_Back l R p e below s args y 3 W9 Pre Post PostX)
    {g : JFrame} (hg : g.method = m) (hsize : g.locals.size = c.maxLocals) {argsL rest : List Value} (hlen : ∀ sig, parseMethodDescriptor y.desc = some sig → argsL.length = sig.parameters.length)
    (hstack : g.stack = argsL.reverse ++ rest) (hW : 2 * g.monitorRoom + (rest.map fun v => v.category).sum ≤ W9) (hdg : decode c.code g.pc = .ok (.invokestatic index, 3))
    (hpre : ∀ vm₁, s.WarmedH vm₁ → Pre ⟨T.setVm vm₁, locs, cells, slots⟩ argsL.toArray) :
    (∃ (v : Option Value) (vm₁ : Vm) (B : Pt), s.WarmedH vm₁ ∧ Stand p l e R s m args below meth c B.U B.locs B.cells B.slots ∧ Post ⟨T.setVm vm₁, locs, cells, slots⟩ argsL.toArray v B ∧
      ∀ target, Steps p.tables e below (B.U.setTop { g with pc := g.pc + 3, stack := v.toList ++ rest }) target → Steps p.tables e below (T.setTop g) target) ∨
    (∃ (q : Addr) (vm₁ : Vm) (B : Pt), s.WarmedH vm₁ ∧ Stand p l e R s m args below meth c B.U B.locs B.cells B.slots ∧ PostX ⟨T.setVm vm₁, locs, cells, slots⟩ argsL.toArray q B ∧
      Steps p.tables e below (T.setTop g) ((B.U.setTop { g with stack := rest }).pushFrame (.throwing q))) := by
  obtain ⟨mk, hnamed⟩ := Cond.code_named hcode
  obtain ⟨methM, cM, hmethM, -, -, -, -, -, -, hsigM⟩ := Cond.code_spec hnamed hcode
  have hstatic : methM.isStatic = true := Cond.static_spec hnamed hmethM hstat
  obtain ⟨kP, hkP, -⟩ := className_of_methodNamed hnamed
  have hinitP : kP.init = .initialized := Cond.initialized_spec (findClass_of_methodNamed hnamed) hkP hinit
  obtain ⟨vm₁, X₁, hstep₁⟩ := X.invokestatic hexec hown hlink hnamed hmethM hstatic hkP hinitP hy (g := g) hg (argsL := argsL) (rest := rest) (hlen _ hsigM) hstack hdg
  rcases hK m meth c ⟨T.setVm vm₁, locs, cells, slots⟩ { g with stack := rest } (.invokestatic index) mk argsL.toArray X₁ hg hsize hdg hW (X₁.named hnamed) (hpre vm₁ X₁.warmed) with ⟨v, B, X', hpost, hsteps⟩ | ⟨q, B, X', hpost, hsteps⟩
  · exact Or.inl ⟨v, vm₁, B, X₁.warmed, X', hpost, fun target h => hstep₁ _ fun acts => by rw [doInvoke_state]; exact hsteps.trans h⟩
  · exact Or.inr ⟨q, vm₁, B, X₁.warmed, X', hpost, hstep₁ _ fun acts => by rw [doInvoke_state]; exact hsteps⟩
end Calls
theorem vx_cls {s : State} {T : State} {vm₁ : Vm} {E : String} {k : ClassId} (hW : s.WarmedH vm₁) (h : (T.setVm vm₁).vm.findClass E = some k) : s.vm.findClass E = some k := by
  have h1 : vm₁.findClass E = some k := h
  rw [hW.alike.findClass] at h1
  exact h1
/-- the method's frame g, with q thrown over it -/
def vx_W (p : Program) (l : Launch) (e : Env) (R : Room) (s : State) (m : MethodId) (args : Array Value) (below : List Frame) (meth : Method) (c : Code) (H : Heap) (locs : List Loc) (cells slots : Nat) (Q : State → Prop) (g : JFrame) (q : Addr) : Prop :=
  ∀ T : State, T.heap = H → Stand p l e R s m args below meth c T locs cells slots → ∃ t, Steps p.tables e below ((T.setTop g).pushFrame (.throwing q)) t ∧ Q t
def vx_Run (p : Program) (l : Launch) (e : Env) (R : Room) (s : State) (m : MethodId) (args : Array Value) (below : List Frame) (meth : Method) (c : Code) (H : Heap) (locs : List Loc) (cells slots mc ms : Nat) (g : JFrame) (rest : List Value) (Qa : State → Outcome → State → Prop) (XC : String → State → State → Prop) (free : Addr → Prop) : Prop :=
  ∀ T : State, T.heap = H → Stand p l e R s m args below meth c T locs cells slots →
    (∃ (v : Option Value) (st₀ t T' : State) (L : List Loc), st₀.heap = H ∧ Stand p l e R s m args below meth c T' (locs ++ L) (cells + mc) (slots + ms) ∧ (∀ q ∈ L, free q.base) ∧ T'.heap = t.heap ∧ T'.vm = t.vm ∧ Qa st₀ (.returned v) t ∧
      Goes p e below T g T' { g with pc := g.pc + 3, stack := v.toList ++ rest }) ∨
    (∃ (q : Addr) (st₀ t T' : State) (L : List Loc) (E : String) (ce : Cell), st₀.heap = H ∧ Stand p l e R s m args below meth c T' (locs ++ L) (cells + mc) (slots + ms) ∧ (∀ z ∈ L, free z.base) ∧ T'.heap = t.heap ∧ T'.vm = t.vm ∧ XC E st₀ t ∧ t.heap[q]? = some ce ∧ ce.vm = .none ∧ s.vm.findClass E = some ce.cls ∧
      Steps p.tables e below (T.setTop g) ((T'.setTop { g with stack := rest }).pushFrame (.throwing q)))
def vx_X {S : Type} (px : S → Prop) (B : String → S → State → Prop) (A : Nat → Prop) : String → State → State → Prop := fun E st t => ∃ u : S, px u ∧ B E u t ∧ va_F A st t
section Runs
variable {p : Program} {l : Launch} {e : Env} {R : Room} {s : State} {m : MethodId} {args : Array Value} {below : List Frame} {meth : Method} {c : Code} {H : Heap} {locs : List Loc} {cells slots : Nat}
variable {y : MethodName} {bytes cc : ByteArray} {maxL nL mc ms n index : Nat} {ret : Option FieldType} {ws : List Cond} {rm : Room} {Pc : Array Value → State → Prop} {Qc : Array Value → State → Outcome → State → Prop} {XC : String → State → State → Prop} {free : Addr → Prop} {Ts : List Cond} {own C : String} {b : Addr} {As rest : List Value} {g : JFrame}
theorem vx_callBack (cb : CallB R s args own index y bytes maxL ret ws rm mc ms n) (hM : vx_Met l y ws rm Pc Qc XC mc ms free) (hbl : FrameBlind Pc) : vx_Back l R p e below s args y 3 8 (PreOf R mc ms Pc) (PostOf Qc mc ms free) (vx_Post XC mc ms free) := by
  obtain ⟨hrc, hrs, hfr, hlo, hws, hcw, -, hini, -⟩ := cb
  exact vx_back (bytes := bytes) (maxL := maxL) (ret := ret) hM hbl hrc hrs hfr hlo hws hcw (fun a' U hW => word_at hW (Or.inl (by first | rfl | simp [Cond.onTables, Cond.keeps, Cond.steady])) hini)
theorem vx_runV (S : CallFix p m c cc nL s args Ts own) (hM : vx_Met l y ws rm Pc Qc XC mc ms free) (cw : CallW R s args own C index y bytes maxL ret ws rm mc ms n) (hp : PreV s H C b Pc As)
    (hg : g.method = m) (hn : As.length = n) (hsize : g.locals.size = nL) (hstack : g.stack = As.reverse ++ .ref b :: rest) (hW : 2 * g.monitorRoom + (rest.map fun v => v.category).sum ≤ 8) (hdg : decode cc g.pc = .ok (.invokevirtual index, 3)) (hf : cells + mc ≤ R.cells ∧ slots + ms ≤ R.slots) :
    vx_Run p l e R s m args below meth c H locs cells slots mc ms g rest (Qc (Value.ref b :: As).toArray) XC free := by
  have hK : vx_Back l R p e below s args y 3 8 (PreOf R mc ms Pc) (PostOf Qc mc ms free) (vx_Post XC mc ms free) := vx_callBack cw.1 hM hp.1
  obtain ⟨⟨-, -, -, -, -, -, hcode, -, hy, hlen, hl⟩, hin, hse⟩ := cw
  obtain ⟨hx, hb, hml, ho, -⟩ := S
  obtain ⟨-, ⟨cellB, hcB, hoB, hclB⟩, hPc⟩ := hp
  intro T hT X
  rcases vx_callV X hx (C := C) (bytes := bytes) (maxL := maxL) (ret := ret) ho hl hin hse hcode hy hK (by rw [hT]; exact hcB) hoB hclB hg (hsize.trans hml.symm) (argsL := As) (rest := rest) (fun sig h => hn.trans (hlen sig h)) hstack hW (by rw [hb]; exact hdg)
    (fun vm₁ hW₁ => ⟨hf.1, hf.2, hPc (T.setVm vm₁) hT hW₁⟩) with ⟨v, vm₁, ⟨U', l2, c2, s2⟩, hW₁, X', ⟨g', mk, t, L, e1, e2, hq, h1, hL, h2, h3⟩, st⟩ | ⟨q, vm₁, ⟨U', l2, c2, s2⟩, hW₁, X', ⟨g', mk, t, L, E, ce, e1, e2, hq, hce, hcv, hcl, h1, hL, h2, h3⟩, st⟩
  · dsimp only [Pt.U, Pt.locs, Pt.cells, Pt.slots] at X' e1 e2 h1 h2 h3 st
    subst h1; subst h2; subst h3
    exact Or.inl ⟨v, (T.setVm vm₁).calling g' mk (Value.ref b :: As).toArray, t, U', L, hT, X', hL, e1, e2, hq, st⟩
  · dsimp only [Pt.U, Pt.locs, Pt.cells, Pt.slots] at X' e1 e2 h1 h2 h3 st hcl
    subst h1; subst h2; subst h3
    exact Or.inr ⟨q, (T.setVm vm₁).calling g' mk (Value.ref b :: As).toArray, t, U', L, E, ce, hT, X', hL, e1, e2, hq, hce, hcv, vx_cls hW₁ hcl, st⟩
theorem vx_runS (S : CallFix p m c cc nL s args Ts own) (hM : vx_Met l y ws rm Pc Qc XC mc ms free) (cw : CallB R s args own index y bytes maxL ret ws rm mc ms n ∧ (Cond.static y).before args s = true) (hp : PreS s H Pc As)
    (hg : g.method = m) (hn : As.length = n) (hsize : g.locals.size = nL) (hstack : g.stack = As.reverse ++ rest) (hW : 2 * g.monitorRoom + (rest.map fun v => v.category).sum ≤ 8) (hdg : decode cc g.pc = .ok (.invokestatic index, 3)) (hf : cells + mc ≤ R.cells ∧ slots + ms ≤ R.slots) :
    vx_Run p l e R s m args below meth c H locs cells slots mc ms g rest (Qc As.toArray) XC free := by
  have hK : vx_Back l R p e below s args y 3 8 (PreOf R mc ms Pc) (PostOf Qc mc ms free) (vx_Post XC mc ms free) := vx_callBack cw.1 hM hp.1
  obtain ⟨⟨-, -, -, -, -, -, hcode, hini, hy, hlen, hl⟩, hstt⟩ := cw
  obtain ⟨hx, hb, hml, ho, -⟩ := S
  intro T hT X
  rcases vx_callS X hx (bytes := bytes) (maxL := maxL) (ret := ret) ho hl hstt hini hcode hy hK hg (hsize.trans hml.symm) (argsL := As) (rest := rest) (fun sig h => hn.trans (hlen sig h)) hstack hW (by rw [hb]; exact hdg)
    (fun vm₁ hW₁ => ⟨hf.1, hf.2, hp.2 (T.setVm vm₁) hT hW₁⟩) with ⟨v, vm₁, ⟨U', l2, c2, s2⟩, hW₁, X', ⟨g', mk, t, L, e1, e2, hq, h1, hL, h2, h3⟩, st⟩ | ⟨q, vm₁, ⟨U', l2, c2, s2⟩, hW₁, X', ⟨g', mk, t, L, E, ce, e1, e2, hq, hce, hcv, hcl, h1, hL, h2, h3⟩, st⟩
  · dsimp only [Pt.U, Pt.locs, Pt.cells, Pt.slots] at X' e1 e2 h1 h2 h3 st
    subst h1; subst h2; subst h3
    exact Or.inl ⟨v, (T.setVm vm₁).calling g' mk As.toArray, t, U', L, hT, X', hL, e1, e2, hq, st⟩
  · dsimp only [Pt.U, Pt.locs, Pt.cells, Pt.slots] at X' e1 e2 h1 h2 h3 st hcl
    subst h1; subst h2; subst h3
    exact Or.inr ⟨q, (T.setVm vm₁).calling g' mk As.toArray, t, U', L, E, ce, hT, X', hL, e1, e2, hq, hce, hcv, vx_cls hW₁ hcl, st⟩
end Runs
section Rows
variable {p : Program} {l : Launch} {e : Env} {R : Room} {s : State} {m : MethodId} {args : Array Value} {below : List Frame} {meth : Method} {c : Code} {H : Heap} {locs : List Loc} {cells slots : Nat} {Q : State → Prop}
variable {mc ms : Nat} {free : Addr → Prop} {A0 A1 : Nat → Prop} {H0 : Heap} {a : Array Value} {pc : Nat} {ls : Array Slot} {st0 rest : List Value}
theorem vx_keep {st₀ t T' : State} {L : List Loc} (h0 : st₀.heap = H) (e1 : T'.heap = t.heap) (hS : va_S A0 H0 H locs) (hA : ∀ q, q < H.size → A1 q → A0 q) (hf : ∀ q, free q → A0 q) (hL : ∀ q ∈ L, free q.base) (hF : va_F A1 st₀ t) :
    H.size ≤ T'.heap.size ∧ (∀ q : Nat, q < H.size → ¬ A1 q → T'.heap[q]? = H[q]?) ∧ va_S A0 H0 T'.heap (locs ++ L) := by
  obtain ⟨hz, hk⟩ := hF
  rw [h0] at hz hk
  exact ⟨by rw [e1]; exact hz, fun q h1 h2 => by rw [e1]; exact hk q h1 h2,
    ⟨Nat.le_trans hS.1 (by rw [e1]; exact hz), fun q h1 h2 => by rw [e1, hk q (Nat.lt_of_lt_of_le h1 hS.1) (fun z => h2 (hA q (Nat.lt_of_lt_of_le h1 hS.1) z))]; exact hS.2.1 q h1 h2, fun q hq => by
      rcases List.mem_append.mp hq with h | h
      · exact hS.2.2 q h
      · exact hf _ (hL q h)⟩⟩
theorem vx_calli {S SX : Type} {post : Int32 → S → Prop} {px : SX → Prop} {B : S → State → Prop} {BX : String → SX → State → Prop} {AX : Nat → Prop} (hr : vx_Run p l e R s m args below meth c H locs cells slots mc ms (F0 m pc ls st0) rest (va_Qi post B A1 a) (vx_X px BX AX) free) (hS : va_S A0 H0 H locs) (hA : ∀ q, q < H.size → A1 q → A0 q) (hf : ∀ q, free q → A0 q) (hAX : ∀ q, q < H.size → AX q → A0 q)
    (kx : ∀ (E : String) (ce : Cell) (q9 : Addr) (u : SX) (t : State) (H1 : Heap) (locs1 : List Loc), t.heap = H1 → s.vm.Alike t.vm → px u → BX E u t → H.size ≤ H1.size → (∀ q : Nat, q < H.size → ¬ AX q → H1[q]? = H[q]?) → va_S A0 H0 H1 locs1 → H1[q9]? = some ce → ce.vm = .none → s.vm.findClass E = some ce.cls → vx_W p l e R s m args below meth c H1 locs1 (cells + mc) (slots + ms) Q (F0 m pc ls rest) q9)
    (kk : ∀ (r : Int32) (u : S) (t : State) (H1 : Heap) (locs1 : List Loc), t.heap = H1 → s.vm.Alike t.vm → post r u → B u t → H.size ≤ H1.size → (∀ q : Nat, q < H.size → ¬ A1 q → H1[q]? = H[q]?) → va_S A0 H0 H1 locs1 → W p l e R s m args below meth c H1 locs1 (cells + mc) (slots + ms) Q (F0 m (pc + 3) ls (.int r :: rest))) : W p l e R s m args below meth c H locs cells slots Q (F0 m pc ls st0) := by
  intro T hT X
  rcases hr T hT X with ⟨v, st₀, t, T', L, h0, X', hL, e1, e2, ⟨⟨r, u, hv, hp, hb⟩, hF⟩, st⟩ | ⟨q, st₀, t, T', L, E, ce, h0, X', hL, e1, e2, ⟨u, hp, hb, hF⟩, hce, hcv, hcl, st⟩
  · cases hv
    obtain ⟨k1, k2, k3⟩ := vx_keep h0 e1 hS hA hf hL hF
    obtain ⟨t2, a1, b1⟩ := kk r u t T'.heap (locs ++ L) e1.symm (by rw [← e2]; exact X'.warmed.alike) hp hb k1 k2 k3 T' rfl X'
    exact ⟨t2, st t2 a1, b1⟩
  · obtain ⟨k1, k2, k3⟩ := vx_keep h0 e1 hS hAX hf hL hF
    obtain ⟨t2, a1, b1⟩ := kx E ce q u t T'.heap (locs ++ L) e1.symm (by rw [← e2]; exact X'.warmed.alike) hp hb k1 k2 k3 (by rw [e1]; exact hce) hcv hcl T' rfl X'
    exact ⟨t2, st.trans a1, b1⟩
theorem vx_calll {S SX : Type} {post : Int64 → S → Prop} {px : SX → Prop} {B : S → State → Prop} {BX : String → SX → State → Prop} {AX : Nat → Prop} (hr : vx_Run p l e R s m args below meth c H locs cells slots mc ms (F0 m pc ls st0) rest (va_Ql post B A1 a) (vx_X px BX AX) free) (hS : va_S A0 H0 H locs) (hA : ∀ q, q < H.size → A1 q → A0 q) (hf : ∀ q, free q → A0 q) (hAX : ∀ q, q < H.size → AX q → A0 q)
    (kx : ∀ (E : String) (ce : Cell) (q9 : Addr) (u : SX) (t : State) (H1 : Heap) (locs1 : List Loc), t.heap = H1 → s.vm.Alike t.vm → px u → BX E u t → H.size ≤ H1.size → (∀ q : Nat, q < H.size → ¬ AX q → H1[q]? = H[q]?) → va_S A0 H0 H1 locs1 → H1[q9]? = some ce → ce.vm = .none → s.vm.findClass E = some ce.cls → vx_W p l e R s m args below meth c H1 locs1 (cells + mc) (slots + ms) Q (F0 m pc ls rest) q9)
    (kk : ∀ (r : Int64) (u : S) (t : State) (H1 : Heap) (locs1 : List Loc), t.heap = H1 → s.vm.Alike t.vm → post r u → B u t → H.size ≤ H1.size → (∀ q : Nat, q < H.size → ¬ A1 q → H1[q]? = H[q]?) → va_S A0 H0 H1 locs1 → W p l e R s m args below meth c H1 locs1 (cells + mc) (slots + ms) Q (F0 m (pc + 3) ls (.long r :: rest))) : W p l e R s m args below meth c H locs cells slots Q (F0 m pc ls st0) := by
  intro T hT X
  rcases hr T hT X with ⟨v, st₀, t, T', L, h0, X', hL, e1, e2, ⟨⟨r, u, hv, hp, hb⟩, hF⟩, st⟩ | ⟨q, st₀, t, T', L, E, ce, h0, X', hL, e1, e2, ⟨u, hp, hb, hF⟩, hce, hcv, hcl, st⟩
  · cases hv
    obtain ⟨k1, k2, k3⟩ := vx_keep h0 e1 hS hA hf hL hF
    obtain ⟨t2, a1, b1⟩ := kk r u t T'.heap (locs ++ L) e1.symm (by rw [← e2]; exact X'.warmed.alike) hp hb k1 k2 k3 T' rfl X'
    exact ⟨t2, st t2 a1, b1⟩
  · obtain ⟨k1, k2, k3⟩ := vx_keep h0 e1 hS hAX hf hL hF
    obtain ⟨t2, a1, b1⟩ := kx E ce q u t T'.heap (locs ++ L) e1.symm (by rw [← e2]; exact X'.warmed.alike) hp hb k1 k2 k3 (by rw [e1]; exact hce) hcv hcl T' rfl X'
    exact ⟨t2, st.trans a1, b1⟩
theorem vx_callf {S SX : Type} {post : UInt32 → S → Prop} {px : SX → Prop} {B : S → State → Prop} {BX : String → SX → State → Prop} {AX : Nat → Prop} (hr : vx_Run p l e R s m args below meth c H locs cells slots mc ms (F0 m pc ls st0) rest (va_Qf post B A1 a) (vx_X px BX AX) free) (hS : va_S A0 H0 H locs) (hA : ∀ q, q < H.size → A1 q → A0 q) (hf : ∀ q, free q → A0 q) (hAX : ∀ q, q < H.size → AX q → A0 q)
    (kx : ∀ (E : String) (ce : Cell) (q9 : Addr) (u : SX) (t : State) (H1 : Heap) (locs1 : List Loc), t.heap = H1 → s.vm.Alike t.vm → px u → BX E u t → H.size ≤ H1.size → (∀ q : Nat, q < H.size → ¬ AX q → H1[q]? = H[q]?) → va_S A0 H0 H1 locs1 → H1[q9]? = some ce → ce.vm = .none → s.vm.findClass E = some ce.cls → vx_W p l e R s m args below meth c H1 locs1 (cells + mc) (slots + ms) Q (F0 m pc ls rest) q9)
    (kk : ∀ (r : UInt32) (u : S) (t : State) (H1 : Heap) (locs1 : List Loc), t.heap = H1 → s.vm.Alike t.vm → post r u → B u t → H.size ≤ H1.size → (∀ q : Nat, q < H.size → ¬ A1 q → H1[q]? = H[q]?) → va_S A0 H0 H1 locs1 → W p l e R s m args below meth c H1 locs1 (cells + mc) (slots + ms) Q (F0 m (pc + 3) ls (.float r :: rest))) : W p l e R s m args below meth c H locs cells slots Q (F0 m pc ls st0) := by
  intro T hT X
  rcases hr T hT X with ⟨v, st₀, t, T', L, h0, X', hL, e1, e2, ⟨⟨r, u, hv, hp, hb⟩, hF⟩, st⟩ | ⟨q, st₀, t, T', L, E, ce, h0, X', hL, e1, e2, ⟨u, hp, hb, hF⟩, hce, hcv, hcl, st⟩
  · cases hv
    obtain ⟨k1, k2, k3⟩ := vx_keep h0 e1 hS hA hf hL hF
    obtain ⟨t2, a1, b1⟩ := kk r u t T'.heap (locs ++ L) e1.symm (by rw [← e2]; exact X'.warmed.alike) hp hb k1 k2 k3 T' rfl X'
    exact ⟨t2, st t2 a1, b1⟩
  · obtain ⟨k1, k2, k3⟩ := vx_keep h0 e1 hS hAX hf hL hF
    obtain ⟨t2, a1, b1⟩ := kx E ce q u t T'.heap (locs ++ L) e1.symm (by rw [← e2]; exact X'.warmed.alike) hp hb k1 k2 k3 (by rw [e1]; exact hce) hcv hcl T' rfl X'
    exact ⟨t2, st.trans a1, b1⟩
theorem vx_calld {S SX : Type} {post : UInt64 → S → Prop} {px : SX → Prop} {B : S → State → Prop} {BX : String → SX → State → Prop} {AX : Nat → Prop} (hr : vx_Run p l e R s m args below meth c H locs cells slots mc ms (F0 m pc ls st0) rest (va_Qd post B A1 a) (vx_X px BX AX) free) (hS : va_S A0 H0 H locs) (hA : ∀ q, q < H.size → A1 q → A0 q) (hf : ∀ q, free q → A0 q) (hAX : ∀ q, q < H.size → AX q → A0 q)
    (kx : ∀ (E : String) (ce : Cell) (q9 : Addr) (u : SX) (t : State) (H1 : Heap) (locs1 : List Loc), t.heap = H1 → s.vm.Alike t.vm → px u → BX E u t → H.size ≤ H1.size → (∀ q : Nat, q < H.size → ¬ AX q → H1[q]? = H[q]?) → va_S A0 H0 H1 locs1 → H1[q9]? = some ce → ce.vm = .none → s.vm.findClass E = some ce.cls → vx_W p l e R s m args below meth c H1 locs1 (cells + mc) (slots + ms) Q (F0 m pc ls rest) q9)
    (kk : ∀ (r : UInt64) (u : S) (t : State) (H1 : Heap) (locs1 : List Loc), t.heap = H1 → s.vm.Alike t.vm → post r u → B u t → H.size ≤ H1.size → (∀ q : Nat, q < H.size → ¬ A1 q → H1[q]? = H[q]?) → va_S A0 H0 H1 locs1 → W p l e R s m args below meth c H1 locs1 (cells + mc) (slots + ms) Q (F0 m (pc + 3) ls (.double r :: rest))) : W p l e R s m args below meth c H locs cells slots Q (F0 m pc ls st0) := by
  intro T hT X
  rcases hr T hT X with ⟨v, st₀, t, T', L, h0, X', hL, e1, e2, ⟨⟨r, u, hv, hp, hb⟩, hF⟩, st⟩ | ⟨q, st₀, t, T', L, E, ce, h0, X', hL, e1, e2, ⟨u, hp, hb, hF⟩, hce, hcv, hcl, st⟩
  · cases hv
    obtain ⟨k1, k2, k3⟩ := vx_keep h0 e1 hS hA hf hL hF
    obtain ⟨t2, a1, b1⟩ := kk r u t T'.heap (locs ++ L) e1.symm (by rw [← e2]; exact X'.warmed.alike) hp hb k1 k2 k3 T' rfl X'
    exact ⟨t2, st t2 a1, b1⟩
  · obtain ⟨k1, k2, k3⟩ := vx_keep h0 e1 hS hAX hf hL hF
    obtain ⟨t2, a1, b1⟩ := kx E ce q u t T'.heap (locs ++ L) e1.symm (by rw [← e2]; exact X'.warmed.alike) hp hb k1 k2 k3 (by rw [e1]; exact hce) hcv hcl T' rfl X'
    exact ⟨t2, st.trans a1, b1⟩
theorem vx_callv {S SX : Type} {post : S → Prop} {px : SX → Prop} {B : S → State → Prop} {BX : String → SX → State → Prop} {AX : Nat → Prop} (hr : vx_Run p l e R s m args below meth c H locs cells slots mc ms (F0 m pc ls st0) rest (va_Qv post B A1 a) (vx_X px BX AX) free) (hS : va_S A0 H0 H locs) (hA : ∀ q, q < H.size → A1 q → A0 q) (hf : ∀ q, free q → A0 q) (hAX : ∀ q, q < H.size → AX q → A0 q)
    (kx : ∀ (E : String) (ce : Cell) (q9 : Addr) (u : SX) (t : State) (H1 : Heap) (locs1 : List Loc), t.heap = H1 → s.vm.Alike t.vm → px u → BX E u t → H.size ≤ H1.size → (∀ q : Nat, q < H.size → ¬ AX q → H1[q]? = H[q]?) → va_S A0 H0 H1 locs1 → H1[q9]? = some ce → ce.vm = .none → s.vm.findClass E = some ce.cls → vx_W p l e R s m args below meth c H1 locs1 (cells + mc) (slots + ms) Q (F0 m pc ls rest) q9)
    (kk : ∀ (u : S) (t : State) (H1 : Heap) (locs1 : List Loc), t.heap = H1 → s.vm.Alike t.vm → post u → B u t → H.size ≤ H1.size → (∀ q : Nat, q < H.size → ¬ A1 q → H1[q]? = H[q]?) → va_S A0 H0 H1 locs1 → W p l e R s m args below meth c H1 locs1 (cells + mc) (slots + ms) Q (F0 m (pc + 3) ls (rest))) : W p l e R s m args below meth c H locs cells slots Q (F0 m pc ls st0) := by
  intro T hT X
  rcases hr T hT X with ⟨v, st₀, t, T', L, h0, X', hL, e1, e2, ⟨⟨u, hv, hp, hb⟩, hF⟩, st⟩ | ⟨q, st₀, t, T', L, E, ce, h0, X', hL, e1, e2, ⟨u, hp, hb, hF⟩, hce, hcv, hcl, st⟩
  · cases hv
    obtain ⟨k1, k2, k3⟩ := vx_keep h0 e1 hS hA hf hL hF
    obtain ⟨t2, a1, b1⟩ := kk u t T'.heap (locs ++ L) e1.symm (by rw [← e2]; exact X'.warmed.alike) hp hb k1 k2 k3 T' rfl X'
    exact ⟨t2, st t2 a1, b1⟩
  · obtain ⟨k1, k2, k3⟩ := vx_keep h0 e1 hS hAX hf hL hF
    obtain ⟨t2, a1, b1⟩ := kx E ce q u t T'.heap (locs ++ L) e1.symm (by rw [← e2]; exact X'.warmed.alike) hp hb k1 k2 k3 (by rw [e1]; exact hce) hcv hcl T' rfl X'
    exact ⟨t2, st.trans a1, b1⟩
/-- caught by the row x of this method's table; the rows ahead don't take it -/
theorem vx_catch {own name : String} {E : String} {ce : Cell} {q : Addr} (hown : s.vm.findClass own = some m.cls) (pre : List ExceptionTableEntry) (x : ExceptionTableEntry) (suf : List ExceptionTableEntry) (hsplit : c.exceptionTable.toList = pre ++ x :: suf)
    (hpass : ∀ z ∈ pre, covers z pc = false ∨ (z.catchType ≠ 0 ∧ ∃ nm : String, (Cond.classLink own z.catchType nm).before args s = true ∧ va_Nc E nm s)) (hx : covers x pc = true) (h0 : x.catchType ≠ 0)
    (hlink : (Cond.classLink own x.catchType name).before args s = true) (hcast : (Cond.castable E name).before args s = true) (hcell : H[q]? = some ce) (hv : ce.vm = .none) (hcl : s.vm.findClass E = some ce.cls)
    (kk : W p l e R s m args below meth c H locs cells slots Q (F0 m x.handlerPc ls [.ref q])) : vx_W p l e R s m args below meth c H locs cells slots Q (F0 m pc ls rest) q := by
  intro T hT X
  have hpl : e.platform.magicAccessors = ({} : Platform).magicAccessors := by rw [X.admits.platform]
  obtain ⟨c3, c4, hc3, hc4, hasg⟩ := Cond.castable_spec hcast
  cases Option.some.inj (hc3.symm.trans hcl)
  obtain ⟨c5, hc5, hcl5⟩ := Cond.classLink_spec hown hlink e.platform hpl
  cases Option.some.inj (hc4.symm.trans hc5)
  obtain ⟨vm', X', st⟩ := X.thenCaughtThrough q (g := F0 m pc ls rest) rfl (Steps.refl _) (by rw [hT]; exact hcell) (by rw [hv]; rfl) (by obtain ⟨k9, h9, -⟩ := Vm.findClass_spec hcl; exact ⟨k9, h9⟩) pre x suf hsplit
    (fun z hz => by
      rcases hpass z hz with h | ⟨hz0, nm, hl1, hn1⟩
      · exact Or.inl h
      · obtain ⟨c6, hc6, hcl6⟩ := Cond.classLink_spec hown hl1 e.platform hpl
        obtain ⟨a8, b8, h1, h2, h3⟩ := hn1
        cases Option.some.inj (h1.symm.trans hcl)
        cases Option.some.inj (h2.symm.trans hc6)
        exact Or.inr ⟨hz0, _, hcl6, h3⟩) hx (Or.inr ⟨h0, c4, hcl5, hasg⟩)
  obtain ⟨t, a1, b1⟩ := kk (T.setVm vm') hT X'
  exact ⟨t, st.trans a1, b1⟩
end Rows
section Ends
variable {p : Program} {l : Launch} {e : Env} {R : Room} {s : State} {m : MethodId} {args : Array Value} {below : List Frame} {meth : Method} {c : Code} {H : Heap} {locs : List Loc} {cells slots : Nat} {Q : State → Prop}
variable {mc ms : Nat} {free : Addr → Prop} {A0 A1 : Nat → Prop} {H0 : Heap} {a : Array Value} {ls : Array Slot} {st0 rest : List Value}
variable {Qc : Array Value → State → Outcome → State → Prop} {XC : String → State → State → Prop}
/-- what a body that may throw owes at its end -/
def vx_MQ (below : List Frame) (Qc : Array Value → State → Outcome → State → Prop) (XC : String → State → State → Prop) (a : Array Value) (s : State) (mc ms : Nat) (free : Addr → Prop) : State → Prop := fun t =>
  ∃ o, t.status = .running ∧ Ended t below o ∧ vx_Q Qc XC mc ms free a s o t
theorem vx_ret {g : JFrame} {mc ms : Nat} (k : W p l e R s m args below meth c H locs cells slots (MQ below Qc args s mc ms free) g) : W p l e R s m args below meth c H locs cells slots (vx_MQ below Qc XC args s mc ms free) g := by
  intro T hT X
  obtain ⟨t, a1, o, b1, b2, b3, b4⟩ := k T hT X
  exact ⟨t, a1, o, b1, b2, Or.inl ⟨b3, b4⟩⟩
/-- not caught here: it goes on to the caller -/
theorem vx_widen {g : JFrame} {q : Addr} {k n : Nat} (h1 : cells ≤ k) (h2 : slots ≤ n) (kk : vx_W p l e R s m args below meth c H locs k n Q g q) : vx_W p l e R s m args below meth c H locs cells slots Q g q := fun T hT X => kk T hT (stand_widen X h1 h2)
theorem vx_out {pc : Nat} {E : String} {ce : Cell} {q : Addr} {mc ms : Nat} (hout : ∀ x ∈ c.exceptionTable.toList, covers x pc = false) (hlocks : meth.locks = false) (hcell : H[q]? = some ce) (hv : ce.vm = .none) (hcl : s.vm.findClass E = some ce.cls)
    (hx : ∀ t : State, t.heap = H → s.vm.Alike t.vm → XC E s t) (hf : ∀ z ∈ locs, free z.base) (hc : cells ≤ mc) (hs : slots ≤ ms) :
    vx_W p l e R s m args below meth c H locs cells slots (vx_MQ below Qc XC args s mc ms free) (F0 m pc ls rest) q := by
  intro T hT X
  obtain ⟨st1, hrun, hend, hW, hsm⟩ := X.leaveThrown q (g := F0 m pc ls rest) rfl rfl rfl hout hlocks
  have hcell9 : (T.setFrames (.throwing q :: below)).heap[q]? = some ce := by
    show T.heap[q]? = some ce
    rw [hT]; exact hcell
  exact ⟨_, st1, .threw q, hrun, hend, Or.inr ⟨q, rfl, E, ce, locs, hx _ hT hW.alike, hcell9, hv, hcl, hW, hsm.mono hc hs, hf⟩⟩
theorem vx_frame {U : State} {k n : Nat} (h : s.sameButNew ({ U with vm := s.vm } : State) locs k n) : s.heap.size ≤ U.heap.size ∧ ∀ q : Nat, q < s.heap.size → (∀ z ∈ locs, z.base ≠ q) → U.heap[q]? = s.heap[q]? := by
  obtain ⟨-, h2, -, -, -, h6⟩ := h
  refine ⟨h2, fun q hq hz => ?_⟩
  obtain ⟨c9, e1, e2, e3, e4⟩ := h6 q _ (Array.getElem?_eq_getElem hq)
  have hs : c9.slots = (s.heap[q]).slots := Array.ext_getElem? fun i => e4 i fun hm => hz _ hm rfl
  have h9 : c9 = s.heap[q] := by
    rw [hs] at e2
    exact e2
  have e5 : U.heap[q]? = some c9 := e1
  rw [e5, h9, Array.getElem?_eq_getElem hq]
/-- the words of a throw but the four that speak of the heap -/
def vx_no (w : Cond) : Bool := decide (w ≠ .isRef (.static Bundle.tN "UNASSIGNED_STACK" Bundle.steD)) && decide (w ≠ .isRef (.static Bundle.tN "SUPPRESSED_SENTINEL" Bundle.listD)) && decide (w ≠ .laysStatic Bundle.tN "UNASSIGNED_STACK" Bundle.steD) && decide (w ≠ .laysStatic Bundle.tN "SUPPRESSED_SENTINEL" Bundle.listD)
def vx_at0 (own : String) (ic : Nat) (X : String) (names : List String) : List Cond := (Bundle.ownAtoms0 own ic X names).filter vx_no
def vx_atS (own : String) (ic : Nat) (X : String) (names : List String) : List Cond := (Bundle.ownAtoms own ic X names).filter vx_no
/-- a word that the tables alone decide, or a good one -/
def vx_ot (w : Cond) : Bool := w.onTables || goodWord w
theorem vx_ot_at {args a' : Array Value} {s U : State} {w : Cond} (hW : s.WarmedH U.vm) (hvm : s.vm = U.vm) (hg : vx_ot w = true) (h : w.before args s = true) : w.before a' U = true := by
  simp only [vx_ot, Bool.or_eq_true] at hg
  rcases hg with hg | hg
  · exact va_tabs hg hvm h
  · exact word_at hW (good_of_word hg) h
/-- a list's words: the good ones out of the method's own list, the others by premises of their own -/
theorem vx_hat {args : Array Value} {s : State} {L B : List Cond} (h1 : ∀ w ∈ L.filter goodWord, w.before args s = true) (h2 : ∀ w ∈ L.filter (fun w => !goodWord w), w ∈ B) (h3 : ∀ w ∈ B, w.before args s = true) : ∀ w ∈ L, w.before args s = true := by
  intro w hw
  by_cases g : goodWord w = true
  · exact h1 w (List.mem_filter.mpr ⟨hw, g⟩)
  · refine h3 w (h2 w (List.mem_filter.mpr ⟨hw, ?_⟩))
    show (!goodWord w) = true
    cases hgw : goodWord w
    · rfl
    · exact absurd hgw g
theorem vx_c {args : Array Value} {s : State} {w : Cond} {B : List Cond} (h : w.before args s = true) (t : ∀ w ∈ B, w.before args s = true) : ∀ w' ∈ w :: B, w'.before args s = true := fun w' h' => (List.mem_cons.mp h').elim (fun e => by rw [e]; exact h) (t w')
theorem vx_n {args : Array Value} {s : State} : ∀ w ∈ ([] : List Cond), w.before args s = true := fun _ h => nomatch h
theorem vx_own {args : Array Value} {s : State} {L : List Cond} (h1 : ∀ w ∈ L.filter vx_no, w.before args s = true)
    (hU : (Cond.isRef (.static Bundle.tN "UNASSIGNED_STACK" Bundle.steD)).before args s = true) (hN : (Cond.isRef (.static Bundle.tN "SUPPRESSED_SENTINEL" Bundle.listD)).before args s = true)
    (lU : (Cond.laysStatic Bundle.tN "UNASSIGNED_STACK" Bundle.steD).before args s = true) (lN : (Cond.laysStatic Bundle.tN "SUPPRESSED_SENTINEL" Bundle.listD).before args s = true) : ∀ w ∈ L, w.before args s = true := by
  intro w hw
  by_cases e1 : w = .isRef (.static Bundle.tN "UNASSIGNED_STACK" Bundle.steD)
  · rw [e1]; exact hU
  · by_cases e2 : w = .isRef (.static Bundle.tN "SUPPRESSED_SENTINEL" Bundle.listD)
    · rw [e2]; exact hN
    · by_cases e3 : w = .laysStatic Bundle.tN "UNASSIGNED_STACK" Bundle.steD
      · rw [e3]; exact lU
      · by_cases e4 : w = .laysStatic Bundle.tN "SUPPRESSED_SENTINEL" Bundle.listD
        · rw [e4]; exact lN
        · exact h1 w (List.mem_filter.mpr ⟨hw, by unfold vx_no; rw [decide_eq_true e1, decide_eq_true e2, decide_eq_true e3, decide_eq_true e4]; rfl⟩)
/-- where a static field lies, its class's statics cell in H -/
def vx_L (C n d : String) (A : Nat → Prop) (U : State) (H : Heap) : Prop := ∃ (c : ClassId) (k : Class) (i : Nat) (f : Field) (a : Nat) (cell : Cell), U.vm.findClass C = some c ∧ U.fieldFound? C n d = some (c, k, i, f) ∧ f.isStatic = true ∧ k.statics = some a ∧ H[a]? = some cell ∧ cell.vm.isStatics = true ∧ cell.cls = c ∧ f.slot < cell.slots.size ∧ k.staticTypes[f.slot]? = some f.type ∧ ¬ A a
theorem vx_L.moved {C n d : String} {A : Nat → Prop} {u U : State} {H : Heap} (hvm : u.vm.Alike U.vm) (h : vx_L C n d A u H) : vx_L C n d A U H := by
  obtain ⟨c, k, i, f, a, cell, h1, h2, h3, h4, h5, h6, h7, h8, h9, h10⟩ := h
  obtain ⟨k', hi', he⟩ := State.fieldFound?_setVm hvm h2
  exact ⟨c, k', i, f, a, cell, by rw [hvm.findClass]; exact h1, hi', h3, by rw [he]; exact h4, h5, h6, h7, h8, by rw [he]; exact h9, h10⟩
theorem vx_L.kept {C n d : String} {A : Nat → Prop} {U : State} {H H1 : Heap} (h : vx_L C n d A U H) (hq : ∀ a : Nat, a < H.size → ¬ A a → H1[a]? = H[a]?) : vx_L C n d A U H1 := by
  obtain ⟨c, k, i, f, a, cell, h1, h2, h3, h4, h5, h6, h7, h8, h9, h10⟩ := h
  exact ⟨c, k, i, f, a, cell, h1, h2, h3, h4, by rw [hq a (Array.getElem?_eq_some_iff.mp h5).1 h10]; exact h5, h6, h7, h8, h9, h10⟩
theorem vx_L.narrow {C n d : String} {A B : Nat → Prop} {U : State} {H : Heap} (h : vx_L C n d A U H) (hAB : ∀ q, B q → A q) : vx_L C n d B U H := by
  obtain ⟨c, k, i, f, a, cell, h1, h2, h3, h4, h5, h6, h7, h8, h9, h10⟩ := h
  exact ⟨c, k, i, f, a, cell, h1, h2, h3, h4, h5, h6, h7, h8, h9, fun z => h10 (hAB _ z)⟩
theorem vx_L.word {C n d : String} {A : Nat → Prop} {s : State} {args : Array Value} (h : vx_L C n d A s s.heap) : (Cond.laysStatic C n d).before args s = true := by
  obtain ⟨c, k, i, f, a, cell, h1, h2, h3, h4, h5, h6, h7, h8, h9, -⟩ := h
  show (Cond.laysStatic C n d).holds args s none s [] = true
  exact Cond.laysStatic_of h1 h2 h3 h4 h5 h6 h7 h8 h9
/-- .. and what it holds: null or some reference -/
def vx_Zq (C n d : String) (A : Nat → Prop) (U : State) (H : Heap) : Prop := va_Zq C n d A U H ∧ vx_L C n d A U H
theorem vx_Zq.moved {C n d : String} {A : Nat → Prop} {u U : State} {H : Heap} (hvm : u.vm.Alike U.vm) (h : vx_Zq C n d A u H) : vx_Zq C n d A U H := ⟨va_Zq.moved hvm h.1, vx_L.moved hvm h.2⟩
theorem vx_Zq.kept {C n d : String} {A : Nat → Prop} {U : State} {H H1 : Heap} (h : vx_Zq C n d A U H) (hq : ∀ a : Nat, a < H.size → ¬ A a → H1[a]? = H[a]?) : vx_Zq C n d A U H1 := ⟨va_Zq.kept h.1 hq, vx_L.kept h.2 hq⟩
theorem vx_Zq.narrow {C n d : String} {A B : Nat → Prop} {U : State} {H : Heap} (h : vx_Zq C n d A U H) (hAB : ∀ q, B q → A q) : vx_Zq C n d B U H := ⟨va_Zq.narrow h.1 hAB, vx_L.narrow h.2 hAB⟩
theorem vx_Zqof {args : Array Value} {s : State} {C n d : String} {A : Nat → Prop} (hl : (Cond.laysStatic C n d).before args s = true) (hini : (Cond.initialized C).before args s = true) (h : (Cond.isRef (.static C n d)).before args s = true) (hA : ∀ a : Nat, a < s.heap.size → ¬ A a) : vx_Zq C n d A s s.heap := by
  refine ⟨va_Zqof hl hini h hA, ?_⟩
  obtain ⟨c, k, i, f, a, cell, h1, h2, h3, h4, h5, h6, h7, h8, h9⟩ := Cond.laysStatic_spec hl
  exact ⟨c, k, i, f, a, cell, h1, h2, h3, h4, h5, h6, h7, h8, h9, hA a (Array.getElem?_eq_some_iff.mp h5).1⟩
theorem vx_isRef {C n d : String} {v : Value} {A : Nat → Prop} {s : State} {args : Array Value} (h : va_Z C n d v A s s.heap) (hv : v.isRef = true) : (Cond.isRef (.static C n d)).before args s = true := by
  obtain ⟨cf, kf, fi, f, a, cell, h1, h2, h3, h4, h5, h6, h7, -⟩ := h
  have he : (Term.static C n d).eval args s none [] s = some v := by
    simp [Term.eval, State.fieldNamed?, h1, h2, h4, h5, h6, h7]
  simp only [Cond.before, Cond.holds, Cond.value, he]
  cases v <;> simp_all [Value.isRef]
theorem vx_isRefq {C n d : String} {A : Nat → Prop} {s : State} {args : Array Value} (h : va_Zq C n d A s s.heap) : (Cond.isRef (.static C n d)).before args s = true := by
  rcases h with h | ⟨t, h⟩
  · exact vx_isRef h rfl
  · exact vx_isRef h rfl
/-- the same frame, seen from here: as if the method were called anew in this heap -/
theorem vx_rebase {T : State} (X : Stand p l e R s m args below meth c T locs cells slots) {R' : Room} (hf : R'.frames ≤ R.frames) (hl : R'.locals ≤ R.locals) (hc : cells + R'.cells ≤ R.cells) (hs : slots + R'.slots ≤ R.slots) :
    Stand p l e R' ((T.setVm s.vm).setFrames (.invoking m args :: below)) m args below meth c T [] 0 0 := by
  have htop : (T.setVm s.vm).topJava?.isSome := X.here.top
  have hF : ((T.setVm s.vm).setFrames (.invoking m args :: below)).frames = .invoking m args :: below := State.frames_setFrames _ (State.cur_lt_of_top htop)
  obtain ⟨g₀, hg0⟩ := Option.isSome_iff_exists.mp htop
  obtain ⟨r, hr⟩ := State.topJava?_eq_some.mp hg0
  have hl9 : e.platform.stackLimits (T.setVm s.vm).me = e.platform.stackLimits s.me := X.limits
  have hb9 : (T.setVm s.vm).me.stackBytes = s.me.stackBytes := X.bytes
  refine ⟨X.admits, X.cas, X.clock, hF, ?_, X.hears, X.method, X.code, X.here, X.tail, X.warmed, ?_, ?_, ?_⟩
  · have h := X.room
    have hU : ((T.setVm s.vm).setFrames (.invoking m args :: below)).localsInUse = s.localsInUse := by
      rw [State.localsInUse_invoking hF (meth := meth) (c := c) X.method X.code, State.localsInUse_invoking X.frames X.method X.code]
    simp only [State.hasRoom, Bool.and_eq_true, decide_eq_true_eq] at h ⊢
    obtain ⟨⟨⟨⟨h1, h2, h3, h4, h5, h6⟩, h7⟩, h8⟩, h9⟩ := h
    rw [X.frames, List.length_cons] at h2 h3
    have q1 := X.heapSize
    have q2 := X.used
    simp only [hF, hU, List.length_cons, State.stackLimits_setFrames, State.stackBytes_setFrames, hl9, hb9]
    refine ⟨⟨⟨⟨by omega, by omega, by omega, by omega, by omega, h6⟩, ?_⟩, ?_⟩, X.book⟩
    · show T.heap.size + R'.cells ≤ e.platform.maxCells
      omega
    · show T.slotsUsed + R'.slots ≤ e.platform.maxSlots
      omega
  · rw [State.stackLimits_setFrames]; rfl
  · rw [State.stackBytes_setFrames]; rfl
  · refine ⟨?_, Nat.le_refl _, Nat.le_refl _, ?_, ?_, fun a c9 h9 => ⟨c9, h9, rfl, rfl, fun _ _ => rfl⟩⟩
    · obtain ⟨t, ht, -⟩ := State.frames_cons hr
      show T.setVm s.vm = { ((T.setVm s.vm).setFrames (.invoking m args :: below)).setFrames (T.setVm s.vm).frames with heap := T.heap, slotsUsed := T.slotsUsed }
      rw [State.setFrames_setFrames, State.setFrames_self ht]
      rfl
    · show T.slotsUsed = T.slotsUsed + ((T.heap.toList.drop T.heap.size).map (·.slots.size)).sum
      rw [List.drop_eq_nil_of_le (Nat.le_of_eq Array.length_toList)]
      rfl
    · show ((T.heap.toList.drop T.heap.size).map (·.slots.size)).sum ≤ 0
      rw [List.drop_eq_nil_of_le (Nat.le_of_eq Array.length_toList)]
      exact Nat.le_refl _
/-- 'throw new E()': new; dup; invokespecial; athrow -/
theorem vx_throw0 {cc : ByteArray} {pc : Nat} (hexec : p.tables.exec = Jvm.exec) (hb : c.code = cc) (hl : l.stackTraces = false) {own cls : String} {names : List String} {ik ic mc ms : Nat} {A : Nat → Prop}
    (hown : s.vm.findClass own = some m.cls) (hcls : Bundle.fit cls = true) (hnames : ∀ n ∈ names, Bundle.fit n = true)
    (hk : (Cond.classLink own ik cls).before args s = true) (hini : (Cond.initialized cls).before args s = true) (hat : ∀ w ∈ vx_at0 own ic cls names, w.before args s = true)
    (hgood : ∀ w ∈ Cond.classLink own ik cls :: Cond.initialized cls :: vx_at0 own ic cls names, vx_ot w = true)
    (hU : vx_Zq Bundle.tN "UNASSIGNED_STACK" Bundle.steD A s s.heap) (hN : vx_Zq Bundle.tN "SUPPRESSED_SENTINEL" Bundle.listD A s s.heap) (hS : va_S A s.heap H locs) (hsize : ls.size = c.maxLocals)
    (d0 : decode cc pc = .ok (.new ik, 3)) (d3 : decode cc (pc + 3) = .ok (.dup, 1)) (d4 : decode cc (pc + 4) = .ok (.invokespecial ic, 3)) (d7 : decode cc (pc + 7) = .ok (.athrow, 1))
    (hout : ∀ x ∈ c.exceptionTable.toList, covers x (pc + 7) = false)
    (hRframes : names.length + 3 < R.frames) (hRlocals : (rest.map fun v => v.category).sum + (13 * (names.length + 1) + 42) ≤ R.locals) (hRcells : cells + 1 ≤ R.cells) (hRslots : slots + 6 ≤ R.slots) (hlocks : meth.locks = false)
    (hx : ∀ t : State, s.vm.Alike t.vm → H.size ≤ t.heap.size → (∀ q : Nat, q < H.size → t.heap[q]? = H[q]?) → XC cls s t)
    (hf : ∀ z ∈ locs, free z.base) (hc : cells + 1 ≤ mc) (hs : slots + 6 ≤ ms) :
    W p l e R s m args below meth c H locs cells slots (vx_MQ below Qc XC args s mc ms free) (F0 m pc ls rest) := by
  intro T hT X
  have htr : e.platform.stackTraces = false := (show e.platform.stackTraces = l.stackTraces by rw [X.admits.platform]).trans hl
  have Y := vx_rebase X (R' := { frames := R.frames, locals := R.locals, cells := 1, slots := 6 }) (Nat.le_refl _) (Nat.le_refl _) hRcells hRslots
  obtain ⟨s', hA⟩ : ∃ z, z = (T.setVm s.vm).setFrames (.invoking m args :: below) := ⟨_, rfl⟩
  rw [← hA] at Y
  have hvm : s'.vm = s.vm := by rw [hA]; rfl
  have hhp : s'.heap = H := by rw [hA]; exact hT
  have hW0 : s.WarmedH s'.vm := by rw [hvm]; exact State.WarmedH.refl s
  have hat' : ∀ w ∈ vx_at0 own ic cls names, w.before args s' = true := fun w hw => vx_ot_at hW0 hvm.symm (hgood w (List.mem_cons_of_mem _ (List.mem_cons_of_mem _ hw))) (hat w hw)
  have hk' : (Cond.classLink own ik cls).before args s' = true := vx_ot_at hW0 hvm.symm (hgood _ List.mem_cons_self) hk
  have hini' : (Cond.initialized cls).before args s' = true := vx_ot_at hW0 hvm.symm (hgood _ (List.mem_cons_of_mem _ List.mem_cons_self)) hini
  have hU' : vx_Zq Bundle.tN "UNASSIGNED_STACK" Bundle.steD A s' s'.heap := by rw [hhp]; exact vx_Zq.moved hW0.alike (hU.kept hS.2.1)
  have hN' : vx_Zq Bundle.tN "SUPPRESSED_SENTINEL" Bundle.listD A s' s'.heap := by rw [hhp]; exact vx_Zq.moved hW0.alike (hN.kept hS.2.1)
  have h : ∀ w ∈ Bundle.ownAtoms0 own ic cls names, w.before args s' = true := vx_own hat' (vx_isRefq hU'.1) (vx_isRefq hN'.1) hU'.2.word hN'.2.word
  have hown' : s'.vm.findClass own = some m.cls := by rw [hvm]; exact hown
  have hins : (Cond.instantiable cls 6).before args s' = true := h _ (by simp [Bundle.ownAtoms0])
  obtain ⟨vm₁, cX, kX, hfX, hkX, -, -, X₁, st1⟩ := Y.newCold hexec (own := own) (C := cls) (index := ik) (n := 6) hown' hk' hins hini'
    (g := F0 m pc ls rest) rfl (by rw [hb]; exact d0) (Nat.le_refl _) (Nat.le_refl _)
  generalize hT1 : (T.setVm vm₁).pushCell { cls := cX, slots := kX.instanceTypes.map defaultValue, vm := .none } = T1 at X₁ st1
  have hcat : (Value.ref T.heap.size).category = 1 := rfl
  have hcellA : T1.heap[T.heap.size]? = some (freshCell cX kX) := by rw [← hT1]; exact State.heap_pushCell_size _ _
  have d3' : decode c.code (pc + 3) = .ok (.dup, 1) := by rw [hb]; exact d3
  obtain ⟨U, hsteps, hrun, hend, hW, hsame, ce, hce, hO⟩ := X₁.ctorThrow0 hexec htr (own := own) (cls := cls) (names := names) (ic := ic) hown' hcls hnames h (fun x hx => nomatch hx) hfX hkX hcellA (by rw [hhp, hT]; exact Nat.le_refl _)
    (g := { method := m, pc := pc + 4, locals := ls, stack := .ref T.heap.size :: .ref T.heap.size :: rest, locked := none }) rfl hsize rfl rfl (rest := rest) rfl
    (by rw [hb]; exact d4) (by rw [hb]; exact d7) hout hRframes (by simp only [List.map_cons, List.sum_cons, hcat]; omega) hlocks
  obtain ⟨f1, f2⟩ := vx_frame hsame
  rw [hhp] at f1 f2
  have hWs : s.WarmedH U.vm := State.WarmedH.trans hW0 hW
  have hcl : s.vm.findClass cls = some ce.cls := by
    have h9 := hO.cls
    rw [hvm] at h9
    exact h9
  have hall : s.sameButNew ({ U with vm := s.vm } : State) locs mc ms := by
    subst hA
    obtain ⟨e1, e2⟩ := hsame
    rw [State.setFrames_setFrames] at e1
    have h2 : (T.setVm s.vm).sameButNew ({ U with vm := s.vm } : State) [] (0 + 1) (0 + 6) := ⟨e1, e2⟩
    have h3 := X.same.trans h2
    rw [List.append_nil] at h3
    exact h3.mono hc hs
  refine ⟨U, ?_, .threw T.heap.size, hrun, hend, Or.inr ⟨T.heap.size, rfl, cls, ce, locs, hx U hWs.alike f1 (fun q hq => f2 q hq (fun z hz => nomatch hz)), hce, hO.vm, hcl, hWs, hall, hf⟩⟩
  refine st1 _ ?_
  show Steps p.tables e below (T1.setTop { method := m, pc := pc + 3, locals := ls, stack := .ref T.heap.size :: rest, locked := none }) _
  jvm_step X₁.here [X₁.here.top, hexec, d3', Value.category]
  exact hsteps
/-- 'throw new E("text")': new; dup; ldc; invokespecial; athrow -/
theorem vx_throwS {cc : ByteArray} {pc : Nat} (hexec : p.tables.exec = Jvm.exec) (hb : c.code = cc) (hl : l.stackTraces = false) {own cls text : String} {names : List String} {ik is ic mc ms sa : Nat} {A : Nat → Prop}
    (hown : s.vm.findClass own = some m.cls) (hcls : Bundle.fit cls = true) (hnames : ∀ n ∈ names, Bundle.fit n = true)
    (hk : (Cond.classLink own ik cls).before args s = true) (hini : (Cond.initialized cls).before args s = true) (hstr : vk_R own is text sa s) (hat : ∀ w ∈ vx_atS own ic cls names, w.before args s = true)
    (hgood : ∀ w ∈ Cond.classLink own ik cls :: Cond.initialized cls :: vx_atS own ic cls names, vx_ot w = true)
    (hU : vx_Zq Bundle.tN "UNASSIGNED_STACK" Bundle.steD A s s.heap) (hN : vx_Zq Bundle.tN "SUPPRESSED_SENTINEL" Bundle.listD A s s.heap) (hS : va_S A s.heap H locs) (hsize : ls.size = c.maxLocals)
    (d0 : decode cc pc = .ok (.new ik, 3)) (d3 : decode cc (pc + 3) = .ok (.dup, 1)) (d4 : decode cc (pc + 4) = .ok (.ldc is, 2)) (d6 : decode cc (pc + 6) = .ok (.invokespecial ic, 3)) (d9 : decode cc (pc + 9) = .ok (.athrow, 1))
    (hout : ∀ x ∈ c.exceptionTable.toList, covers x (pc + 9) = false)
    (hRframes : names.length + 3 < R.frames) (hRlocals : (rest.map fun v => v.category).sum + (13 * (names.length + 1) + 43) ≤ R.locals) (hRcells : cells + 1 ≤ R.cells) (hRslots : slots + 6 ≤ R.slots) (hlocks : meth.locks = false)
    (hx : ∀ t : State, s.vm.Alike t.vm → H.size ≤ t.heap.size → (∀ q : Nat, q < H.size → t.heap[q]? = H[q]?) → XC cls s t)
    (hf : ∀ z ∈ locs, free z.base) (hc : cells + 1 ≤ mc) (hs : slots + 6 ≤ ms) :
    W p l e R s m args below meth c H locs cells slots (vx_MQ below Qc XC args s mc ms free) (F0 m pc ls rest) := by
  intro T hT X
  have htr : e.platform.stackTraces = false := (show e.platform.stackTraces = l.stackTraces by rw [X.admits.platform]).trans hl
  have Y := vx_rebase X (R' := { frames := R.frames, locals := R.locals, cells := 1, slots := 6 }) (Nat.le_refl _) (Nat.le_refl _) hRcells hRslots
  obtain ⟨s', hA⟩ : ∃ z, z = (T.setVm s.vm).setFrames (.invoking m args :: below) := ⟨_, rfl⟩
  rw [← hA] at Y
  have hvm : s'.vm = s.vm := by rw [hA]; rfl
  have hhp : s'.heap = H := by rw [hA]; exact hT
  have hW0 : s.WarmedH s'.vm := by rw [hvm]; exact State.WarmedH.refl s
  have hat' : ∀ w ∈ vx_atS own ic cls names, w.before args s' = true := fun w hw => vx_ot_at hW0 hvm.symm (hgood w (List.mem_cons_of_mem _ (List.mem_cons_of_mem _ hw))) (hat w hw)
  have hk' : (Cond.classLink own ik cls).before args s' = true := vx_ot_at hW0 hvm.symm (hgood _ List.mem_cons_self) hk
  have hini' : (Cond.initialized cls).before args s' = true := vx_ot_at hW0 hvm.symm (hgood _ (List.mem_cons_of_mem _ List.mem_cons_self)) hini
  have hU' : vx_Zq Bundle.tN "UNASSIGNED_STACK" Bundle.steD A s' s'.heap := by rw [hhp]; exact vx_Zq.moved hW0.alike (hU.kept hS.2.1)
  have hN' : vx_Zq Bundle.tN "SUPPRESSED_SENTINEL" Bundle.listD A s' s'.heap := by rw [hhp]; exact vx_Zq.moved hW0.alike (hN.kept hS.2.1)
  have h : ∀ w ∈ Bundle.ownAtoms own ic cls names, w.before args s' = true := vx_own hat' (vx_isRefq hU'.1) (vx_isRefq hN'.1) hU'.2.word hN'.2.word
  have hown' : s'.vm.findClass own = some m.cls := by rw [hvm]; exact hown
  have hins : (Cond.instantiable cls 6).before args s' = true := h _ (by simp [Bundle.ownAtoms])
  obtain ⟨vm₁, cX, kX, hfX, hkX, -, -, X₁, st1⟩ := Y.newCold hexec (own := own) (C := cls) (index := ik) (n := 6) hown' hk' hins hini'
    (g := F0 m pc ls rest) rfl (by rw [hb]; exact d0) (Nat.le_refl _) (Nat.le_refl _)
  generalize hT1 : (T.setVm vm₁).pushCell { cls := cX, slots := kX.instanceTypes.map defaultValue, vm := .none } = T1 at X₁ st1
  have hcat : (Value.ref T.heap.size).category = 1 := rfl
  have hcellA : T1.heap[T.heap.size]? = some (freshCell cX kX) := by rw [← hT1]; exact State.heap_pushCell_size _ _
  have d3' : decode c.code (pc + 3) = .ok (.dup, 1) := by rw [hb]; exact d3
  have d4' : decode c.code (pc + 4) = .ok (.ldc is, 2) := by rw [hb]; exact d4
  have hstr' : vk_R own is text sa s' := vk_R.warm hW0 hstr
  obtain ⟨U, hsteps, hrun, hend, hW, hsame, ce, hce, hO⟩ := X₁.ctorThrowS hexec htr (own := own) (cls := cls) (names := names) (ic := ic) hown' hcls hnames h (fun x hx => nomatch hx) hfX hkX hcellA (by rw [hhp, hT]; exact Nat.le_refl _) (msg := .ref sa) rfl
    (g := { method := m, pc := pc + 6, locals := ls, stack := .ref sa :: .ref T.heap.size :: .ref T.heap.size :: rest, locked := none }) rfl hsize rfl rfl (rest := rest) rfl
    (by rw [hb]; exact d6) (by rw [hb]; exact d9) hout hRframes (by simp only [List.map_cons, List.sum_cons, hcat]; omega) hlocks
  obtain ⟨f1, f2⟩ := vx_frame hsame
  rw [hhp] at f1 f2
  have hWs : s.WarmedH U.vm := State.WarmedH.trans hW0 hW
  have hcl : s.vm.findClass cls = some ce.cls := by
    have h9 := hO.cls
    rw [hvm] at h9
    exact h9
  have hall : s.sameButNew ({ U with vm := s.vm } : State) locs mc ms := by
    subst hA
    obtain ⟨e1, e2⟩ := hsame
    rw [State.setFrames_setFrames] at e1
    have h2 : (T.setVm s.vm).sameButNew ({ U with vm := s.vm } : State) [] (0 + 1) (0 + 6) := ⟨e1, e2⟩
    have h3 := X.same.trans h2
    rw [List.append_nil] at h3
    exact h3.mono hc hs
  refine ⟨U, ?_, .threw T.heap.size, hrun, hend, Or.inr ⟨T.heap.size, rfl, cls, ce, locs, hx U hWs.alike f1 (fun q hq => f2 q hq (fun z hz => nomatch hz)), hce, hO.vm, hcl, hWs, hall, hf⟩⟩
  refine st1 _ ?_
  show Steps p.tables e below (T1.setTop { method := m, pc := pc + 3, locals := ls, stack := .ref T.heap.size :: rest, locked := none }) _
  jvm_step X₁.here [X₁.here.top, hexec, d3', Value.category]
  exact X₁.ldcString hexec (own := own) (text := text) (index := is) (a := sa) hown' hstr'.1 hstr'.2
    (g := { method := m, pc := pc + 4, locals := ls, stack := .ref T.heap.size :: .ref T.heap.size :: rest, locked := none }) rfl d4' _ hsteps
/-- 'throw new E("text")', the text by a wide index -/
theorem vx_throwSW {cc : ByteArray} {pc : Nat} (hexec : p.tables.exec = Jvm.exec) (hb : c.code = cc) (hl : l.stackTraces = false) {own cls text : String} {names : List String} {ik is ic mc ms sa : Nat} {A : Nat → Prop}
    (hown : s.vm.findClass own = some m.cls) (hcls : Bundle.fit cls = true) (hnames : ∀ n ∈ names, Bundle.fit n = true)
    (hk : (Cond.classLink own ik cls).before args s = true) (hini : (Cond.initialized cls).before args s = true) (hstr : vk_R own is text sa s) (hat : ∀ w ∈ vx_atS own ic cls names, w.before args s = true)
    (hgood : ∀ w ∈ Cond.classLink own ik cls :: Cond.initialized cls :: vx_atS own ic cls names, vx_ot w = true)
    (hU : vx_Zq Bundle.tN "UNASSIGNED_STACK" Bundle.steD A s s.heap) (hN : vx_Zq Bundle.tN "SUPPRESSED_SENTINEL" Bundle.listD A s s.heap) (hS : va_S A s.heap H locs) (hsize : ls.size = c.maxLocals)
    (d0 : decode cc pc = .ok (.new ik, 3)) (d3 : decode cc (pc + 3) = .ok (.dup, 1)) (d4 : decode cc (pc + 4) = .ok (.ldc_w is, 3)) (d7 : decode cc (pc + 7) = .ok (.invokespecial ic, 3)) (d10 : decode cc (pc + 10) = .ok (.athrow, 1))
    (hout : ∀ x ∈ c.exceptionTable.toList, covers x (pc + 10) = false)
    (hRframes : names.length + 3 < R.frames) (hRlocals : (rest.map fun v => v.category).sum + (13 * (names.length + 1) + 43) ≤ R.locals) (hRcells : cells + 1 ≤ R.cells) (hRslots : slots + 6 ≤ R.slots) (hlocks : meth.locks = false)
    (hx : ∀ t : State, s.vm.Alike t.vm → H.size ≤ t.heap.size → (∀ q : Nat, q < H.size → t.heap[q]? = H[q]?) → XC cls s t)
    (hf : ∀ z ∈ locs, free z.base) (hc : cells + 1 ≤ mc) (hs : slots + 6 ≤ ms) :
    W p l e R s m args below meth c H locs cells slots (vx_MQ below Qc XC args s mc ms free) (F0 m pc ls rest) := by
  intro T hT X
  have htr : e.platform.stackTraces = false := (show e.platform.stackTraces = l.stackTraces by rw [X.admits.platform]).trans hl
  have Y := vx_rebase X (R' := { frames := R.frames, locals := R.locals, cells := 1, slots := 6 }) (Nat.le_refl _) (Nat.le_refl _) hRcells hRslots
  obtain ⟨s', hA⟩ : ∃ z, z = (T.setVm s.vm).setFrames (.invoking m args :: below) := ⟨_, rfl⟩
  rw [← hA] at Y
  have hvm : s'.vm = s.vm := by rw [hA]; rfl
  have hhp : s'.heap = H := by rw [hA]; exact hT
  have hW0 : s.WarmedH s'.vm := by rw [hvm]; exact State.WarmedH.refl s
  have hat' : ∀ w ∈ vx_atS own ic cls names, w.before args s' = true := fun w hw => vx_ot_at hW0 hvm.symm (hgood w (List.mem_cons_of_mem _ (List.mem_cons_of_mem _ hw))) (hat w hw)
  have hk' : (Cond.classLink own ik cls).before args s' = true := vx_ot_at hW0 hvm.symm (hgood _ List.mem_cons_self) hk
  have hini' : (Cond.initialized cls).before args s' = true := vx_ot_at hW0 hvm.symm (hgood _ (List.mem_cons_of_mem _ List.mem_cons_self)) hini
  have hU' : vx_Zq Bundle.tN "UNASSIGNED_STACK" Bundle.steD A s' s'.heap := by rw [hhp]; exact vx_Zq.moved hW0.alike (hU.kept hS.2.1)
  have hN' : vx_Zq Bundle.tN "SUPPRESSED_SENTINEL" Bundle.listD A s' s'.heap := by rw [hhp]; exact vx_Zq.moved hW0.alike (hN.kept hS.2.1)
  have h : ∀ w ∈ Bundle.ownAtoms own ic cls names, w.before args s' = true := vx_own hat' (vx_isRefq hU'.1) (vx_isRefq hN'.1) hU'.2.word hN'.2.word
  have hown' : s'.vm.findClass own = some m.cls := by rw [hvm]; exact hown
  have hins : (Cond.instantiable cls 6).before args s' = true := h _ (by simp [Bundle.ownAtoms])
  obtain ⟨vm₁, cX, kX, hfX, hkX, -, -, X₁, st1⟩ := Y.newCold hexec (own := own) (C := cls) (index := ik) (n := 6) hown' hk' hins hini'
    (g := F0 m pc ls rest) rfl (by rw [hb]; exact d0) (Nat.le_refl _) (Nat.le_refl _)
  generalize hT1 : (T.setVm vm₁).pushCell { cls := cX, slots := kX.instanceTypes.map defaultValue, vm := .none } = T1 at X₁ st1
  have hcat : (Value.ref T.heap.size).category = 1 := rfl
  have hcellA : T1.heap[T.heap.size]? = some (freshCell cX kX) := by rw [← hT1]; exact State.heap_pushCell_size _ _
  have d3' : decode c.code (pc + 3) = .ok (.dup, 1) := by rw [hb]; exact d3
  have d4' : decode c.code (pc + 4) = .ok (.ldc_w is, 3) := by rw [hb]; exact d4
  have hstr' : vk_R own is text sa s' := vk_R.warm hW0 hstr
  obtain ⟨U, hsteps, hrun, hend, hW, hsame, ce, hce, hO⟩ := X₁.ctorThrowS hexec htr (own := own) (cls := cls) (names := names) (ic := ic) hown' hcls hnames h (fun x hx => nomatch hx) hfX hkX hcellA (by rw [hhp, hT]; exact Nat.le_refl _) (msg := .ref sa) rfl
    (g := { method := m, pc := pc + 7, locals := ls, stack := .ref sa :: .ref T.heap.size :: .ref T.heap.size :: rest, locked := none }) rfl hsize rfl rfl (rest := rest) rfl
    (by rw [hb]; exact d7) (by rw [hb]; exact d10) hout hRframes (by simp only [List.map_cons, List.sum_cons, hcat]; omega) hlocks
  obtain ⟨f1, f2⟩ := vx_frame hsame
  rw [hhp] at f1 f2
  have hWs : s.WarmedH U.vm := State.WarmedH.trans hW0 hW
  have hcl : s.vm.findClass cls = some ce.cls := by
    have h9 := hO.cls
    rw [hvm] at h9
    exact h9
  have hall : s.sameButNew ({ U with vm := s.vm } : State) locs mc ms := by
    subst hA
    obtain ⟨e1, e2⟩ := hsame
    rw [State.setFrames_setFrames] at e1
    have h2 : (T.setVm s.vm).sameButNew ({ U with vm := s.vm } : State) [] (0 + 1) (0 + 6) := ⟨e1, e2⟩
    have h3 := X.same.trans h2
    rw [List.append_nil] at h3
    exact h3.mono hc hs
  refine ⟨U, ?_, .threw T.heap.size, hrun, hend, Or.inr ⟨T.heap.size, rfl, cls, ce, locs, hx U hWs.alike f1 (fun q hq => f2 q hq (fun z hz => nomatch hz)), hce, hO.vm, hcl, hWs, hall, hf⟩⟩
  refine st1 _ ?_
  show Steps p.tables e below (T1.setTop { method := m, pc := pc + 3, locals := ls, stack := .ref T.heap.size :: rest, locked := none }) _
  jvm_step X₁.here [X₁.here.top, hexec, d3', Value.category]
  exact X₁.ldcStringW hexec (own := own) (text := text) (index := is) (a := sa) hown' hstr'.1 hstr'.2
    (g := { method := m, pc := pc + 4, locals := ls, stack := .ref T.heap.size :: .ref T.heap.size :: rest, locked := none }) rfl d4' _ hsteps
end Ends
section Bodies
variable {l : Launch}
theorem vx_ofW {y : MethodName} {ws ws' : List Cond} {rm : Room} {Pc : Array Value → State → Prop} {Qc : Array Value → State → Outcome → State → Prop} {XC : String → State → State → Prop} {mc ms : Nat} {free : Addr → Prop} {cc : ByteArray} {maxL : Nat} {ret : Option FieldType}
    (hy : plainName y.cls = true) (hw : ws = Cond.code y cc maxL ret :: ws')
    (body : ∀ p e s m args below meth c s₁, BodyLoose p l y (headSpec ws rm) cc maxL ret e s m args below meth c s₁ → c.maxLocals = maxL → (∀ x ∈ c.exceptionTable.toList, False) → Pc args s →
      W p l e (headSpec ws rm).room s m args below meth c s.heap [] 0 0 (vx_MQ below Qc XC args s mc ms free) (entryFrame m args maxL)) : vx_Met l y ws rm Pc Qc XC mc ms free := by
  refine MetFree.of_bodyS (code := cc) (maxLocals := maxL) (ret := ret) hy ?_ ?_
  · intro args s m h hn
    obtain ⟨meth, c, h1, h2, h3, h4, h5, h6, -, -⟩ := Cond.code_spec hn (atoms_spec (ws := ws) h _ (by rw [hw]; exact List.mem_cons_self))
    exact ⟨meth, c, h1, h2, h3, h4, h5, h6⟩
  · intro p e s m args below meth c s₁ B hml hP _
    have hh0 : s₁.heap = s.heap := by rw [B.state]; rfl
    have ht : ∀ x ∈ c.exceptionTable.toList, False := by
      obtain ⟨meth9, c9, h1, h2, -, -, -, -, h7, -⟩ := Cond.code_spec B.named (atoms_spec (ws := ws) B.pre _ (by rw [hw]; exact List.mem_cons_self))
      cases Option.some.inj (h1.symm.trans B.method)
      cases Option.some.inj (h2.symm.trans (Stand.of_body B).code)
      intro x hx
      rw [Array.isEmpty_iff.mp h7] at hx
      cases hx
    obtain ⟨t, a1, o, b1, b2, b3⟩ := body p e s m args below meth c s₁ B hml ht hP s₁ hh0 (Stand.of_body B)
    exact ⟨t, o, a1, b1, b2, b3⟩
/-- the table of a body with handlers -/
theorem vx_table {p : Program} {x y : MethodName} {S : Spec} {cc bytes : ByteArray} {maxL maxL' : Nat} {ret ret' : Option FieldType} {e : Env} {s s₁ : State} {m : MethodId} {args : Array Value} {below : List Frame} {meth : Method} {c : Code} {hh : List (Nat × Nat × Nat × Nat)}
    (B : BodyLoose p l y S cc maxL ret e s m args below meth c s₁) (h : (Cond.codeWith y bytes maxL' ret' hh).before args s = true) : c.exceptionTable.toList = tableOf hh := by
  obtain ⟨m9, meth9, c9, hn9, h1, h2, -, -, h6, -⟩ := Cond.codeWith_spec h
  cases Option.some.inj (hn9.symm.trans B.named)
  cases Option.some.inj (h1.symm.trans B.method)
  cases Option.some.inj (h2.symm.trans (Stand.of_body B).code)
  rw [← h6, table_eq]
end Bodies
end VXA
/-! ===== END ===== -/
/-! ===== BEGIN a static call of a method with an exception table ===== -/
section VXS
variable {p : Program} {l : Launch} {e : Env} {R : Room} {s : State} {m : MethodId} {args : Array Value} {below : List Frame} {meth : Method} {c : Code} {T : State} {H : Heap} {locs : List Loc} {cells slots : Nat}
abbrev vx_CSW (R : Room) (s : State) (args : Array Value) (own : String) (index : Nat) (y : MethodName) (bytes : ByteArray) (maxL : Nat) (ret : Option FieldType) (hh : List (Nat × Nat × Nat × Nat)) (ws : List Cond) (rm : Room) (mc ms n : Nat) : Prop :=
  (rm.cells = mc ∧ rm.slots = ms ∧ rm.frames + 1 ≤ R.frames ∧ 8 + (maxL + 11) + rm.locals ≤ R.locals ∧ (∀ w ∈ ws, ∀ (a' : Array Value) (U : State), s.WarmedH U.vm → w.before a' U = true) ∧ Cond.codeWith y bytes maxL ret hh ∈ ws) ∧
  (Cond.codeWith y bytes maxL ret hh).before args s = true ∧ (Cond.initialized y.cls).before args s = true ∧ (y.cls ≠ "java/lang/invoke/MethodHandle" ∧ y.cls ≠ "java/lang/invoke/VarHandle") ∧
  (∀ sig, parseMethodDescriptor y.desc = some sig → n = sig.parameters.length) ∧ (Cond.methodLink own index y).before args s = true ∧ (Cond.static y).before args s = true
theorem vx_cwSW {own : String} {index maxL mc ms : Nat} {y : MethodName} {bytes : ByteArray} {ret : Option FieldType} {hh : List (Nat × Nat × Nat × Nat)} {Ts ws ws' : List Cond} {rm : Room} (n : Nat) (ht : ∀ w ∈ Ts, w.before args s = true) (hT : GoodIn Ts (va_wsS own index y ws)) (hw : ws = Cond.codeWith y bytes maxL ret hh :: ws') (hrc : rm.cells = mc) (hrs : rm.slots = ms)
    (hd : y.cls ≠ "java/lang/invoke/MethodHandle" ∧ y.cls ≠ "java/lang/invoke/VarHandle" ∧ (parseMethodDescriptor y.desc).map (fun d => d.parameters.length) = some n) (hR : rm.frames + 1 ≤ R.frames ∧ 8 + (maxL + 11) + rm.locals ≤ R.locals) :
    vx_CSW R s args own index y bytes maxL ret hh ws rm mc ms n := by
  have ok : ∀ w ∈ va_wsS own index y ws, w.before args s = true := fun w h => ht w (hT w h).1
  have hG : GoodIn Ts ws := fun w h => hT w (by unfold va_wsS; exact List.mem_append_right _ h)
  have hc : Cond.codeWith y bytes maxL ret hh ∈ ws := by rw [hw]; exact List.mem_cons_self
  refine ⟨⟨hrc, hrs, hR.1, hR.2, pay_in ht hG, hc⟩, ht _ (hG _ hc).1, ok _ (by simp [va_wsS]), ⟨hd.1, hd.2.1⟩, fun sig h => ?_, ok _ (by simp [va_wsS]), ok _ (by simp [va_wsS])⟩
  have h2 := hd.2.2
  rw [h] at h2
  exact (Option.some.inj h2).symm
theorem vx_callSW (X : Stand p l e R s m args below meth c T locs cells slots) (hexec : p.tables.exec = Jvm.exec) {own : String} {index : Nat} {y : MethodName} {bytes : ByteArray} {maxL : Nat} {ret : Option FieldType} {hh : List (Nat × Nat × Nat × Nat)}
    (hown : s.vm.findClass own = some m.cls) (hlink : (Cond.methodLink own index y).before args s = true) (hstat : (Cond.static y).before args s = true) (hinit : (Cond.initialized y.cls).before args s = true)
    (hcode : (Cond.codeWith y bytes maxL ret hh).before args s = true) (hy : y.cls ≠ "java/lang/invoke/MethodHandle" ∧ y.cls ≠ "java/lang/invoke/VarHandle")
    {W9 : Nat} {Pre : Pt → Array Value → Prop} {Post : Pt → Array Value → Option Value → Pt → Prop} (hK : Back l R p e below s args y 3 W9 Pre Post)
    {g : JFrame} (hg : g.method = m) (hsize : g.locals.size = c.maxLocals) {argsL rest : List Value} (hlen : ∀ sig, parseMethodDescriptor y.desc = some sig → argsL.length = sig.parameters.length)
    (hstack : g.stack = argsL.reverse ++ rest) (hW : 2 * g.monitorRoom + (rest.map fun v => v.category).sum ≤ W9) (hdg : decode c.code g.pc = .ok (.invokestatic index, 3))
    (hpre : ∀ vm₁, s.WarmedH vm₁ → Pre ⟨T.setVm vm₁, locs, cells, slots⟩ argsL.toArray) :
    ∃ (v : Option Value) (vm₁ : Vm) (B : Pt), s.WarmedH vm₁ ∧ Stand p l e R s m args below meth c B.U B.locs B.cells B.slots ∧ Post ⟨T.setVm vm₁, locs, cells, slots⟩ argsL.toArray v B ∧
      ∀ target, Steps p.tables e below (B.U.setTop { g with pc := g.pc + 3, stack := v.toList ++ rest }) target → Steps p.tables e below (T.setTop g) target := by
  obtain ⟨mk, methM, cM, hnamed, hmethM, -, -, -, -, -, -, hsigM⟩ := Cond.codeWith_spec hcode
  have hstatic : methM.isStatic = true := Cond.static_spec hnamed hmethM hstat
  obtain ⟨kP, hkP, -⟩ := className_of_methodNamed hnamed
  have hinitP : kP.init = .initialized := Cond.initialized_spec (findClass_of_methodNamed hnamed) hkP hinit
  obtain ⟨vm₁, X₁, hstep₁⟩ := X.invokestatic hexec hown hlink hnamed hmethM hstatic hkP hinitP hy (g := g) hg (argsL := argsL) (rest := rest) (hlen _ hsigM) hstack hdg
  obtain ⟨v, B, X', hpost, hsteps⟩ := hK m meth c ⟨T.setVm vm₁, locs, cells, slots⟩ { g with stack := rest } (.invokestatic index) mk argsL.toArray X₁ hg hsize hdg hW (X₁.named hnamed) (hpre vm₁ X₁.warmed)
  exact ⟨v, vm₁, B, X₁.warmed, X', hpost, fun target h => hstep₁ _ fun acts => by rw [doInvoke_state]; exact hsteps.trans h⟩
theorem vx_runSW {y : MethodName} {bytes cc : ByteArray} {maxL nL mc ms n index : Nat} {ret : Option FieldType} {hh : List (Nat × Nat × Nat × Nat)} {ws : List Cond} {rm : Room} {Pc : Array Value → State → Prop} {Qc : Array Value → State → Outcome → State → Prop} {free : Addr → Prop} {Ts : List Cond} {own : String} {As rest : List Value} {g : JFrame}
    (S : CallFix p m c cc nL s args Ts own) (hM : Met l y ws rm Pc Qc mc ms free) (cw : vx_CSW R s args own index y bytes maxL ret hh ws rm mc ms n) (hp : PreS s H Pc As)
    (hg : g.method = m) (hn : As.length = n) (hsize : g.locals.size = nL) (hstack : g.stack = As.reverse ++ rest) (hW : 2 * g.monitorRoom + (rest.map fun v => v.category).sum ≤ 8) (hdg : decode cc g.pc = .ok (.invokestatic index, 3)) (hf : cells + mc ≤ R.cells ∧ slots + ms ≤ R.slots) :
    va_Run p l e R s m args below meth c H locs cells slots mc ms g rest (Qc As.toArray) (free) := by
  obtain ⟨⟨hrc, hrs, hfr, hlo, hws, hcw⟩, hcode, hini, hy, hlen, hl, hstt⟩ := cw
  have hK : Back l R p e below s args y 3 8 (PreOf R mc ms Pc) (PostOf Qc mc ms free) := va_backW (hh := hh) (bytes := bytes) (maxL := maxL) (ret := ret) hM hp.1 hrc hrs hfr hlo hws hcw (fun a' U hW => word_at hW (Or.inl (by first | rfl | simp [Cond.onTables, Cond.keeps, Cond.steady])) hini)
  obtain ⟨hx, hb, hml, ho, -⟩ := S
  intro T hT X
  obtain ⟨v, vm₁, ⟨U', l2, c2, s2⟩, hW₁, X', ⟨g', mk, t, L, e1, e2, hq, h1, hL, h2, h3⟩, st⟩ := vx_callSW X hx (hh := hh) (bytes := bytes) (maxL := maxL) (ret := ret) ho hl hstt hini hcode hy hK hg (hsize.trans hml.symm) (argsL := As) (rest := rest) (fun sig h => hn.trans (hlen sig h)) hstack hW (by rw [hb]; exact hdg)
    (fun vm₁ hW₁ => ⟨hf.1, hf.2, hp.2 (T.setVm vm₁) hT hW₁⟩)
  dsimp only [Pt.U, Pt.locs, Pt.cells, Pt.slots] at X' e1 e2 h1 h2 h3 st
  subst h1; subst h2; subst h3
  exact ⟨v, (T.setVm vm₁).calling g' mk As.toArray, t, U', L, hT, X', hL, e1, e2, hq, st⟩
/-- not caught here, past rows that name other classes: it goes on to the caller -/
theorem vx_outP {p : Program} {l : Launch} {e : Env} {R : Room} {s : State} {m : MethodId} {args : Array Value} {below : List Frame} {meth : Method} {c : Code} {H : Heap} {locs : List Loc} {cells slots : Nat} {free : Addr → Prop} {ls : Array Slot} {rest : List Value} {Qc : Array Value → State → Outcome → State → Prop} {XC : String → State → State → Prop}
    {pc : Nat} {own E : String} {ce : Cell} {q : Addr} {mc ms : Nat} (hown : s.vm.findClass own = some m.cls) (hlocks : meth.locks = false)
    (hpass : ∀ z ∈ c.exceptionTable.toList, covers z pc = false ∨ (z.catchType ≠ 0 ∧ ∃ nm : String, (Cond.classLink own z.catchType nm).before args s = true ∧ va_Nc E nm s)) (hcell : H[q]? = some ce) (hv : ce.vm = .none) (hcl : s.vm.findClass E = some ce.cls)
    (hx : ∀ t : State, t.heap = H → s.vm.Alike t.vm → XC E s t) (hf : ∀ z ∈ locs, free z.base) (hc : cells ≤ mc) (hs : slots ≤ ms) :
    vx_W p l e R s m args below meth c H locs cells slots (vx_MQ below Qc XC args s mc ms free) (F0 m pc ls rest) q := by
  intro T hT X
  have hpl : e.platform.magicAccessors = ({} : Platform).magicAccessors := by rw [X.admits.platform]
  obtain ⟨vm', hW', X', st⟩ := X.outThrough hlocks q (g := F0 m pc ls rest) rfl rfl rfl (cell := ce) (by rw [hT]; exact hcell) (by rw [hv]; rfl)
    (by obtain ⟨k9, h9, -⟩ := Vm.findClass_spec hcl; exact ⟨k9, h9⟩) (fun z hz => by
      rcases hpass z hz with h | ⟨hz0, nm, hl1, hn1⟩
      · exact Or.inl h
      · obtain ⟨c6, hc6, hcl6⟩ := Cond.classLink_spec hown hl1 e.platform hpl
        obtain ⟨a8, b8, h1, h2, h3⟩ := hn1
        cases Option.some.inj (h1.symm.trans hcl)
        cases Option.some.inj (h2.symm.trans hc6)
        exact Or.inr ⟨hz0, _, hcl6, h3⟩)
  obtain ⟨g₀, hfr⟩ := X'.frames_eq
  have hcell9 : ((T.setVm vm').setFrames (.throwing q :: below)).heap[q]? = some ce := by
    show T.heap[q]? = some ce
    rw [hT]; exact hcell
  have hend : Ended ((T.setVm vm').setFrames (.throwing q :: below)) below (.threw q) := State.frames_setFrames _ (State.cur_lt_of_frames hfr)
  refine ⟨(T.setVm vm').setFrames (.throwing q :: below), ?_, .threw q, X'.here.running, hend, Or.inr ⟨q, rfl, E, ce, locs, hx _ hT (X'.ends _).1.alike, hcell9, hv, hcl, (X'.ends _).1, (X'.ends _).2.mono hc hs, hf⟩⟩
  rw [X.pushThrowing_eq]
  exact st
/-- a thing of a world lies in the heap -/
theorem vx_lt {D : va_G} {cl : List vw_C} {ws : va_W} {H1 : Heap} (h : va_P D cl ws H1) {k : Nat} {q : Nat × va_E} (hk : ws[k]? = some q) : q.1 < H1.size := (h k q hk).lt
end VXS
/-! ===== END ===== -/
/-! ===== BEGIN methods with a table of their own: called by a name, returning or throwing ===== -/
section VXH
/-! vx_backW, vx_callVX, vx_callSX, vx_callVW, vx_runVW, vx_runVX, vx_runSX, vx_ofWH follow the same proofs as their sisters above (Free/Laws.lean, Shelf42/LK1.lean); vx_outP calls Shelf42/NT130.lean (outThrough). -/
section
variable {l : Launch} {R : Room} {p : Program} {e : Env} {below : List Frame} {s : State} {sargs : Array Value} {y : MethodName} {len W9 : Nat}
theorem vx_backW {ws : List Cond} {rm : Room} {Pc : Array Value → State → Prop} {Qc : Array Value → State → Outcome → State → Prop} {XC : String → State → State → Prop} {mc ms : Nat} {free : Addr → Prop} {bytes : ByteArray} {maxL : Nat} {ret : Option FieldType} {hh : List (Nat × Nat × Nat × Nat)}
    (hM : vx_Met l y ws rm Pc Qc XC mc ms free) (hblind : FrameBlind Pc) (hrc : rm.cells = mc) (hrs : rm.slots = ms)
    (hframes : rm.frames + 1 ≤ R.frames) (hlocals : W9 + (maxL + 11) + rm.locals ≤ R.locals)
    (hws : ∀ w ∈ ws, ∀ a' U, s.WarmedH U.vm → w.before a' U = true) (hcode : Cond.codeWith y bytes maxL ret hh ∈ ws) (hinit : ∀ a' U, s.WarmedH U.vm → (Cond.initialized y.cls).before a' U = true) :
    vx_Back l R p e below s sargs y len W9 (PreOf R mc ms Pc) (PostOf Qc mc ms free) (vx_Post XC mc ms free) := by
  intro m meth c A g ig mk a X hg hsize hdg hW hn hp
  have h1 : (headSpec ws rm).pre.before a A.U = true := atoms_intro fun w hw => hws w hw _ _ X.warmed
  have h2 : (Cond.codeWith y bytes maxL ret hh).before a A.U = true := hws _ hcode _ _ X.warmed
  have h3 : (Cond.initialized y.cls).before a A.U = true := hinit _ _ X.warmed
  have h4 : A.cells + (headSpec ws rm).room.cells ≤ R.cells := by rw [show (headSpec ws rm).room.cells = mc from hrc]; exact hp.1
  have h5 : A.slots + (headSpec ws rm).room.slots ≤ R.slots := by rw [show (headSpec ws rm).room.slots = ms from hrs]; exact hp.2.1
  have hPc : Pc a (A.U.calling g mk a) := hblind _ _ _ _ hp.2.2
  obtain ⟨U, Ls, c0, s0⟩ := A
  dsimp only [Pt.U, Pt.locs, Pt.cells, Pt.slots] at h1 h2 h3 h4 h5 X hn hPc ⊢
  obtain ⟨m9, methY, cY, hn9, hmY, hcY, -, hlY, -⟩ := Cond.codeWith_spec h2
  cases Option.some.inj (hn9.symm.trans hn)
  obtain ⟨kY, hkY, -⟩ := className_of_methodNamed hn
  have hinitY : kY.init = .initialized := Cond.initialized_spec (findClass_of_methodNamed hn) hkY h3
  have h : At U g.method c below := by rw [hg]; exact X.here
  have hlocals9 : W9 + (maxL + 11) + (headSpec ws rm).room.locals ≤ R.locals := hlocals
  have happ : (headSpec ws rm).appliesLoose y e.platform (U.calling g mk a) = true :=
    Spec.appliesLoose_calling (g := g) h hdg hn hkY hinitY
      (X.room_calling (g := g) (R' := (headSpec ws rm).room) hsize hmY hcY hframes (by rw [hlY]; omega) h4 h5) h1
  obtain ⟨mid, hmid⟩ := h.above
  have hfr : (U.setTop g).frames = (.java g :: mid) ++ below := by rw [State.frames_setTop' g h.top, hmid]; rfl
  obtain ⟨o, s₂, hsteps, -, hend, hq⟩ := Steps.callFree hM p X.admits X.cas X.clock (acts := []) hfr happ hPc trivial
  have hq' : vx_Q Qc XC mc ms free a (U.calling g mk a) o s₂ := hq
  rw [State.frames_setTop' g h.top] at hend
  obtain ⟨g₀, hg0⟩ := Option.isSome_iff_exists.mp h.top
  obtain ⟨r, hr⟩ := State.topJava?_eq_some.mp hg0
  have hr' : (({ U with heap := s₂.heap, slotsUsed := s₂.slotsUsed } : State).setVm s₂.vm).frames = .java g₀ :: r := hr
  rcases hq' with ⟨hqc, L, hfe, hL⟩ | ⟨q, rfl, E, ce, L, hx, hce, hcv, hcl, hW₂, hsm, hL⟩
  · obtain ⟨⟨v, rfl⟩, hW₂, e2, q2, q3, q4, q5, q6⟩ := id hfe
    have e3 : s₂ = ({ (U.calling g mk a).setFrames s₂.frames with heap := s₂.heap, slotsUsed := s₂.slotsUsed } : State).setVm s₂.vm := by
      have : s₂ = ({ s₂ with vm := (U.calling g mk a).vm } : State).setVm s₂.vm := rfl
      rw [e2] at this
      exact this
    obtain ⟨c₂, i₂, len₂, hc₂, hd₂, hf₂⟩ := hend
    have hW' : U.WarmedH s₂.vm := hW₂
    have hcc : c₂ = c := by
      have h1 : s₂.code? g.method = U.code? g.method := by
        rw [State.code?_eq, State.code?_eq, hW'.alike.method?]
      exact Option.some.inj (hc₂.symm.trans (h1.trans h.code))
    subst hcc
    have hlen : len₂ = len := by rw [hdg] at hd₂; cases hd₂; rfl
    subst hlen
    have hs₂ : s₂ = (({ U with heap := s₂.heap, slotsUsed := s₂.slotsUsed } : State).setVm s₂.vm).setTop { g with pc := g.pc + len₂, stack := v.toList ++ g.stack } := by
      refine e3.trans ?_
      rw [hf₂, State.calling_eq h.top, State.setFrames_setFrames, State.setTop_of_frames _ hr', hr]
      rfl
    have hsame : U.sameButNew ({ U with heap := s₂.heap, slotsUsed := s₂.slotsUsed } : State) L mc ms := by
      refine ⟨?_, q2, q3, q4, q5, q6⟩
      obtain ⟨t, ht, -⟩ := State.frames_cons hr
      show ({ U with heap := s₂.heap, slotsUsed := s₂.slotsUsed } : State) = { U.setFrames U.frames with heap := s₂.heap, slotsUsed := s₂.slotsUsed }
      rw [State.setFrames_self ht]
    subst hg
    refine Or.inl ⟨v, ⟨(({ U with heap := s₂.heap, slotsUsed := s₂.slotsUsed } : State).setVm s₂.vm), Ls ++ L, c0 + mc, s0 + ms⟩,
      ⟨X.admits, X.cas, X.clock, X.frames, X.room, X.hears, X.method, X.code, (X.here.setHeapUsed s₂.heap s₂.slotsUsed).setVm hW'.alike, X.tail, State.WarmedH.trans X.warmed hW', X.limits, X.bytes, X.same.trans (hsame.setVm s.vm)⟩,
      ⟨g, mk, s₂, L, rfl, rfl, hqc, rfl, hL, rfl, rfl⟩, ?_⟩
    show Steps p.tables e below _ ((({ U with heap := s₂.heap, slotsUsed := s₂.slotsUsed } : State).setVm s₂.vm).setTop { g with pc := g.pc + len₂, stack := v.toList ++ g.stack })
    rw [← hs₂]
    exact hsteps
  · obtain ⟨e2, q2, q3, q4, q5, q6⟩ := id hsm
    have e3 : s₂ = ({ (U.calling g mk a).setFrames s₂.frames with heap := s₂.heap, slotsUsed := s₂.slotsUsed } : State).setVm s₂.vm := by
      have : s₂ = ({ s₂ with vm := (U.calling g mk a).vm } : State).setVm s₂.vm := rfl
      rw [e2] at this
      exact this
    have hf₂ : s₂.frames = .throwing q :: .java g :: U.frames.tail := hend
    have hW' : U.WarmedH s₂.vm := hW₂
    have hs₂ : s₂ = ((({ U with heap := s₂.heap, slotsUsed := s₂.slotsUsed } : State).setVm s₂.vm).setTop g).pushFrame (.throwing q) := by
      refine e3.trans ?_
      rw [hf₂, State.calling_eq h.top, State.setFrames_setFrames, State.pushFrame, State.frames_setTop _ hr', State.setTop_of_frames _ hr', State.setFrames_setFrames, hr]
      rfl
    have hsame : U.sameButNew ({ U with heap := s₂.heap, slotsUsed := s₂.slotsUsed } : State) L mc ms := by
      refine ⟨?_, q2, q3, q4, q5, q6⟩
      obtain ⟨t, ht, -⟩ := State.frames_cons hr
      show ({ U with heap := s₂.heap, slotsUsed := s₂.slotsUsed } : State) = { U.setFrames U.frames with heap := s₂.heap, slotsUsed := s₂.slotsUsed }
      rw [State.setFrames_self ht]
    subst hg
    refine Or.inr ⟨q, ⟨(({ U with heap := s₂.heap, slotsUsed := s₂.slotsUsed } : State).setVm s₂.vm), Ls ++ L, c0 + mc, s0 + ms⟩,
      ⟨X.admits, X.cas, X.clock, X.frames, X.room, X.hears, X.method, X.code, (X.here.setHeapUsed s₂.heap s₂.slotsUsed).setVm hW'.alike, X.tail, State.WarmedH.trans X.warmed hW', X.limits, X.bytes, X.same.trans (hsame.setVm s.vm)⟩,
      ⟨g, mk, s₂, L, E, ce, rfl, rfl, hx, hce, hcv, hcl, rfl, hL, rfl, rfl⟩, ?_⟩
    show Steps p.tables e below _ (((({ U with heap := s₂.heap, slotsUsed := s₂.slotsUsed } : State).setVm s₂.vm).setTop g).pushFrame (.throwing q))
    rw [← hs₂]
    exact hsteps
end
variable {p : Program} {l : Launch} {e : Env} {R : Room} {s : State} {m : MethodId} {args : Array Value} {below : List Frame} {meth : Method} {c : Code} {T : State} {H : Heap} {locs : List Loc} {cells slots : Nat}
theorem vx_callVX (X : Stand p l e R s m args below meth c T locs cells slots) (hexec : p.tables.exec = Jvm.exec) {own C : String} {index : Nat} {y : MethodName} {bytes : ByteArray} {maxL : Nat} {ret : Option FieldType} {hh : List (Nat × Nat × Nat × Nat)}
    (hown : s.vm.findClass own = some m.cls) (hlink : (Cond.methodLink own index y).before args s = true) (hinst : (Cond.instanceMethod y).before args s = true) (hsel : (Cond.selects C y y).before args s = true)
    (hcode : (Cond.codeWith y bytes maxL ret hh).before args s = true) (hy : y.cls ≠ "java/lang/invoke/MethodHandle" ∧ y.cls ≠ "java/lang/invoke/VarHandle")
    {W9 : Nat} {Pre : Pt → Array Value → Prop} {Post : Pt → Array Value → Option Value → Pt → Prop} {PostX : Pt → Array Value → Addr → Pt → Prop} (hK : vx_Back l R p e below s args y 3 W9 Pre Post PostX)
    {b : Addr} {cellB : Cell} (hcell : T.heap[b]? = some cellB) (hobj : cellB.vm.isStatics = false) (hcls : s.vm.findClass C = some cellB.cls)
    {g : JFrame} (hg : g.method = m) (hsize : g.locals.size = c.maxLocals) {argsL rest : List Value} (hlen : ∀ sig, parseMethodDescriptor y.desc = some sig → argsL.length = sig.parameters.length)
    (hstack : g.stack = argsL.reverse ++ .ref b :: rest) (hW : 2 * g.monitorRoom + (rest.map fun v => v.category).sum ≤ W9) (hdg : decode c.code g.pc = .ok (.invokevirtual index, 3))
    (hpre : ∀ vm₁, s.WarmedH vm₁ → Pre ⟨T.setVm vm₁, locs, cells, slots⟩ (Value.ref b :: argsL).toArray) :
    (∃ (v : Option Value) (vm₁ : Vm) (B : Pt), s.WarmedH vm₁ ∧ Stand p l e R s m args below meth c B.U B.locs B.cells B.slots ∧ Post ⟨T.setVm vm₁, locs, cells, slots⟩ (Value.ref b :: argsL).toArray v B ∧
      ∀ target, Steps p.tables e below (B.U.setTop { g with pc := g.pc + 3, stack := v.toList ++ rest }) target → Steps p.tables e below (T.setTop g) target) ∨
    (∃ (q : Addr) (vm₁ : Vm) (B : Pt), s.WarmedH vm₁ ∧ Stand p l e R s m args below meth c B.U B.locs B.cells B.slots ∧ PostX ⟨T.setVm vm₁, locs, cells, slots⟩ (Value.ref b :: argsL).toArray q B ∧
      Steps p.tables e below (T.setTop g) ((B.U.setTop { g with stack := rest }).pushFrame (.throwing q))) := by
  obtain ⟨mk, methM, hnamed, hmethM, hstM, habM⟩ := Cond.instanceMethod_spec hinst
  obtain ⟨m8, methM', cM, hn8, hmethM', -, -, -, -, -, -, hsigM⟩ := Cond.codeWith_spec hcode
  cases Option.some.inj (hn8.symm.trans hnamed)
  cases hmethM.symm.trans hmethM'
  obtain ⟨c2, r2, m2, q1, q2, q3, q4, kP, hkP, hkPi⟩ := Cond.selects_spec hsel
  cases hcls.symm.trans q1
  cases (State.methodFound?_of_named hnamed hy).symm.trans q2
  cases hnamed.symm.trans q3
  have hselP : selectMethod e.platform s.vm cellB.cls mk = .method mk := by rw [Launch.admits_selectMethod X.admits]; exact q4
  obtain ⟨vm₁, X₁, hstep₁⟩ := X.invokevirtual hexec hown hlink hnamed hmethM hstM hkP hkPi hy (a := b) (cell := cellB) hcell
    (fun z h => by rw [h] at hobj; cases hobj) hselP hmethM habM hkP hkPi (g := g) hg (argsL := argsL) (rest := rest) (hlen _ hsigM) hstack hdg
  rcases hK m meth c ⟨T.setVm vm₁, locs, cells, slots⟩ { g with stack := rest } (.invokevirtual index) mk (Value.ref b :: argsL).toArray X₁ hg hsize hdg hW (X₁.named hnamed) (hpre vm₁ X₁.warmed) with ⟨v, B, X', hpost, hsteps⟩ | ⟨q, B, X', hpost, hsteps⟩
  · exact Or.inl ⟨v, vm₁, B, X₁.warmed, X', hpost, fun target h => hstep₁ _ fun acts => by rw [doInvoke_state]; exact hsteps.trans h⟩
  · exact Or.inr ⟨q, vm₁, B, X₁.warmed, X', hpost, hstep₁ _ fun acts => by rw [doInvoke_state]; exact hsteps⟩
theorem vx_callSX (X : Stand p l e R s m args below meth c T locs cells slots) (hexec : p.tables.exec = Jvm.exec) {own : String} {index : Nat} {y : MethodName} {bytes : ByteArray} {maxL : Nat} {ret : Option FieldType} {hh : List (Nat × Nat × Nat × Nat)}
    (hown : s.vm.findClass own = some m.cls) (hlink : (Cond.methodLink own index y).before args s = true) (hstat : (Cond.static y).before args s = true) (hinit : (Cond.initialized y.cls).before args s = true)
    (hcode : (Cond.codeWith y bytes maxL ret hh).before args s = true) (hy : y.cls ≠ "java/lang/invoke/MethodHandle" ∧ y.cls ≠ "java/lang/invoke/VarHandle")
    {W9 : Nat} {Pre : Pt → Array Value → Prop} {Post : Pt → Array Value → Option Value → Pt → Prop} {PostX : Pt → Array Value → Addr → Pt → Prop} (hK : vx_Back l R p e below s args y 3 W9 Pre Post PostX)
    {g : JFrame} (hg : g.method = m) (hsize : g.locals.size = c.maxLocals) {argsL rest : List Value} (hlen : ∀ sig, parseMethodDescriptor y.desc = some sig → argsL.length = sig.parameters.length)
    (hstack : g.stack = argsL.reverse ++ rest) (hW : 2 * g.monitorRoom + (rest.map fun v => v.category).sum ≤ W9) (hdg : decode c.code g.pc = .ok (.invokestatic index, 3))
    (hpre : ∀ vm₁, s.WarmedH vm₁ → Pre ⟨T.setVm vm₁, locs, cells, slots⟩ argsL.toArray) :
    (∃ (v : Option Value) (vm₁ : Vm) (B : Pt), s.WarmedH vm₁ ∧ Stand p l e R s m args below meth c B.U B.locs B.cells B.slots ∧ Post ⟨T.setVm vm₁, locs, cells, slots⟩ argsL.toArray v B ∧
      ∀ target, Steps p.tables e below (B.U.setTop { g with pc := g.pc + 3, stack := v.toList ++ rest }) target → Steps p.tables e below (T.setTop g) target) ∨
    (∃ (q : Addr) (vm₁ : Vm) (B : Pt), s.WarmedH vm₁ ∧ Stand p l e R s m args below meth c B.U B.locs B.cells B.slots ∧ PostX ⟨T.setVm vm₁, locs, cells, slots⟩ argsL.toArray q B ∧
      Steps p.tables e below (T.setTop g) ((B.U.setTop { g with stack := rest }).pushFrame (.throwing q))) := by
  obtain ⟨mk, methM, cM, hnamed, hmethM, -, -, -, -, -, -, hsigM⟩ := Cond.codeWith_spec hcode
  have hstatic : methM.isStatic = true := Cond.static_spec hnamed hmethM hstat
  obtain ⟨kP, hkP, -⟩ := className_of_methodNamed hnamed
  have hinitP : kP.init = .initialized := Cond.initialized_spec (findClass_of_methodNamed hnamed) hkP hinit
  obtain ⟨vm₁, X₁, hstep₁⟩ := X.invokestatic hexec hown hlink hnamed hmethM hstatic hkP hinitP hy (g := g) hg (argsL := argsL) (rest := rest) (hlen _ hsigM) hstack hdg
  rcases hK m meth c ⟨T.setVm vm₁, locs, cells, slots⟩ { g with stack := rest } (.invokestatic index) mk argsL.toArray X₁ hg hsize hdg hW (X₁.named hnamed) (hpre vm₁ X₁.warmed) with ⟨v, B, X', hpost, hsteps⟩ | ⟨q, B, X', hpost, hsteps⟩
  · exact Or.inl ⟨v, vm₁, B, X₁.warmed, X', hpost, fun target h => hstep₁ _ fun acts => by rw [doInvoke_state]; exact hsteps.trans h⟩
  · exact Or.inr ⟨q, vm₁, B, X₁.warmed, X', hpost, hstep₁ _ fun acts => by rw [doInvoke_state]; exact hsteps⟩
theorem vx_callVW (X : Stand p l e R s m args below meth c T locs cells slots) (hexec : p.tables.exec = Jvm.exec) {own C : String} {index : Nat} {y : MethodName} {bytes : ByteArray} {maxL : Nat} {ret : Option FieldType} {hh : List (Nat × Nat × Nat × Nat)}
    (hown : s.vm.findClass own = some m.cls) (hlink : (Cond.methodLink own index y).before args s = true) (hinst : (Cond.instanceMethod y).before args s = true) (hsel : (Cond.selects C y y).before args s = true)
    (hcode : (Cond.codeWith y bytes maxL ret hh).before args s = true) (hy : y.cls ≠ "java/lang/invoke/MethodHandle" ∧ y.cls ≠ "java/lang/invoke/VarHandle")
    {W9 : Nat} {Pre : Pt → Array Value → Prop} {Post : Pt → Array Value → Option Value → Pt → Prop} (hK : Back l R p e below s args y 3 W9 Pre Post)
    {b : Addr} {cellB : Cell} (hcell : T.heap[b]? = some cellB) (hobj : cellB.vm.isStatics = false) (hcls : s.vm.findClass C = some cellB.cls)
    {g : JFrame} (hg : g.method = m) (hsize : g.locals.size = c.maxLocals) {argsL rest : List Value} (hlen : ∀ sig, parseMethodDescriptor y.desc = some sig → argsL.length = sig.parameters.length)
    (hstack : g.stack = argsL.reverse ++ .ref b :: rest) (hW : 2 * g.monitorRoom + (rest.map fun v => v.category).sum ≤ W9) (hdg : decode c.code g.pc = .ok (.invokevirtual index, 3))
    (hpre : ∀ vm₁, s.WarmedH vm₁ → Pre ⟨T.setVm vm₁, locs, cells, slots⟩ (Value.ref b :: argsL).toArray) :
    ∃ (v : Option Value) (vm₁ : Vm) (B : Pt), s.WarmedH vm₁ ∧ Stand p l e R s m args below meth c B.U B.locs B.cells B.slots ∧ Post ⟨T.setVm vm₁, locs, cells, slots⟩ (Value.ref b :: argsL).toArray v B ∧
      ∀ target, Steps p.tables e below (B.U.setTop { g with pc := g.pc + 3, stack := v.toList ++ rest }) target → Steps p.tables e below (T.setTop g) target := by
  obtain ⟨mk, methM, hnamed, hmethM, hstM, habM⟩ := Cond.instanceMethod_spec hinst
  obtain ⟨m8, methM', cM, hn8, hmethM', -, -, -, -, -, -, hsigM⟩ := Cond.codeWith_spec hcode
  cases Option.some.inj (hn8.symm.trans hnamed)
  cases hmethM.symm.trans hmethM'
  obtain ⟨c2, r2, m2, q1, q2, q3, q4, kP, hkP, hkPi⟩ := Cond.selects_spec hsel
  cases hcls.symm.trans q1
  cases (State.methodFound?_of_named hnamed hy).symm.trans q2
  cases hnamed.symm.trans q3
  have hselP : selectMethod e.platform s.vm cellB.cls mk = .method mk := by rw [Launch.admits_selectMethod X.admits]; exact q4
  obtain ⟨vm₁, X₁, hstep₁⟩ := X.invokevirtual hexec hown hlink hnamed hmethM hstM hkP hkPi hy (a := b) (cell := cellB) hcell
    (fun z h => by rw [h] at hobj; cases hobj) hselP hmethM habM hkP hkPi (g := g) hg (argsL := argsL) (rest := rest) (hlen _ hsigM) hstack hdg
  obtain ⟨v, B, X', hpost, hsteps⟩ := hK m meth c ⟨T.setVm vm₁, locs, cells, slots⟩ { g with stack := rest } (.invokevirtual index) mk (Value.ref b :: argsL).toArray X₁ hg hsize hdg hW (X₁.named hnamed) (hpre vm₁ X₁.warmed)
  exact ⟨v, vm₁, B, X₁.warmed, X', hpost, fun target h => hstep₁ _ fun acts => by rw [doInvoke_state]; exact hsteps.trans h⟩
abbrev vx_CVW (R : Room) (s : State) (args : Array Value) (own C : String) (index : Nat) (y : MethodName) (bytes : ByteArray) (maxL : Nat) (ret : Option FieldType) (hh : List (Nat × Nat × Nat × Nat)) (ws : List Cond) (rm : Room) (mc ms n : Nat) : Prop :=
  (rm.cells = mc ∧ rm.slots = ms ∧ rm.frames + 1 ≤ R.frames ∧ 8 + (maxL + 11) + rm.locals ≤ R.locals ∧ (∀ w ∈ ws, ∀ (a' : Array Value) (U : State), s.WarmedH U.vm → w.before a' U = true) ∧ Cond.codeWith y bytes maxL ret hh ∈ ws) ∧
  (Cond.codeWith y bytes maxL ret hh).before args s = true ∧ (Cond.initialized y.cls).before args s = true ∧ (y.cls ≠ "java/lang/invoke/MethodHandle" ∧ y.cls ≠ "java/lang/invoke/VarHandle") ∧
  (∀ sig, parseMethodDescriptor y.desc = some sig → n = sig.parameters.length) ∧ (Cond.methodLink own index y).before args s = true ∧ (Cond.instanceMethod y).before args s = true ∧ (Cond.selects C y y).before args s = true
theorem vx_cwVW {own C : String} {index maxL mc ms : Nat} {y : MethodName} {bytes : ByteArray} {ret : Option FieldType} {hh : List (Nat × Nat × Nat × Nat)} {Ts ws ws' : List Cond} {rm : Room} (n : Nat) (ht : ∀ w ∈ Ts, w.before args s = true) (hT : GoodIn Ts (wsV own index C y ws)) (hw : ws = Cond.codeWith y bytes maxL ret hh :: ws') (hrc : rm.cells = mc) (hrs : rm.slots = ms)
    (hd : y.cls = C ∧ y.cls ≠ "java/lang/invoke/MethodHandle" ∧ y.cls ≠ "java/lang/invoke/VarHandle" ∧ (parseMethodDescriptor y.desc).map (fun d => d.parameters.length) = some n) (hR : rm.frames + 1 ≤ R.frames ∧ 8 + (maxL + 11) + rm.locals ≤ R.locals) :
    vx_CVW R s args own C index y bytes maxL ret hh ws rm mc ms n := by
  obtain ⟨hC, hd⟩ := hd
  subst hC
  have ok : ∀ w ∈ wsV own index y.cls y ws, w.before args s = true := fun w h => ht w (hT w h).1
  have hG : GoodIn Ts ws := fun w h => hT w (by unfold wsV; exact List.mem_append_right _ h)
  have hc : Cond.codeWith y bytes maxL ret hh ∈ ws := by rw [hw]; exact List.mem_cons_self
  refine ⟨⟨hrc, hrs, hR.1, hR.2, pay_in ht hG, hc⟩, ht _ (hG _ hc).1, ok _ (by simp [wsV]), ⟨hd.1, hd.2.1⟩, fun sig h => ?_, ok _ (by simp [wsV]), ok _ (by simp [wsV]), ok _ (by simp [wsV])⟩
  have h2 := hd.2.2
  rw [h] at h2
  exact (Option.some.inj h2).symm
theorem vx_runVW {y : MethodName} {bytes cc : ByteArray} {maxL nL mc ms n index : Nat} {ret : Option FieldType} {hh : List (Nat × Nat × Nat × Nat)} {ws : List Cond} {rm : Room} {Pc : Array Value → State → Prop} {Qc : Array Value → State → Outcome → State → Prop} {free : Addr → Prop} {Ts : List Cond} {own C : String} {b : Addr} {As rest : List Value} {g : JFrame}
    (S : CallFix p m c cc nL s args Ts own) (hM : Met l y ws rm Pc Qc mc ms free) (cw : vx_CVW R s args own C index y bytes maxL ret hh ws rm mc ms n) (hp : PreV s H C b Pc As)
    (hg : g.method = m) (hn : As.length = n) (hsize : g.locals.size = nL) (hstack : g.stack = As.reverse ++ .ref b :: rest) (hW : 2 * g.monitorRoom + (rest.map fun v => v.category).sum ≤ 8) (hdg : decode cc g.pc = .ok (.invokevirtual index, 3)) (hf : cells + mc ≤ R.cells ∧ slots + ms ≤ R.slots) :
    va_Run p l e R s m args below meth c H locs cells slots mc ms g rest (Qc (Value.ref b :: As).toArray) free := by
  obtain ⟨⟨hrc, hrs, hfr, hlo, hws, hcw⟩, hcode, hini, hy, hlen, hl, hin, hse⟩ := cw
  have hK : Back l R p e below s args y 3 8 (PreOf R mc ms Pc) (PostOf Qc mc ms free) := va_backW (hh := hh) (bytes := bytes) (maxL := maxL) (ret := ret) hM hp.1 hrc hrs hfr hlo hws hcw (fun a' U hW => word_at hW (Or.inl (by first | rfl | simp [Cond.onTables, Cond.keeps, Cond.steady])) hini)
  obtain ⟨hx, hb, hml, ho, -⟩ := S
  obtain ⟨-, ⟨cellB, hcB, hoB, hclB⟩, hPc⟩ := hp
  intro T hT X
  obtain ⟨v, vm₁, ⟨U', l2, c2, s2⟩, hW₁, X', ⟨g', mk, t, L, e1, e2, hq, h1, hL, h2, h3⟩, st⟩ := vx_callVW X hx (C := C) (hh := hh) (bytes := bytes) (maxL := maxL) (ret := ret) ho hl hin hse hcode hy hK (by rw [hT]; exact hcB) hoB hclB hg (hsize.trans hml.symm) (argsL := As) (rest := rest) (fun sig h => hn.trans (hlen sig h)) hstack hW (by rw [hb]; exact hdg)
    (fun vm₁ hW₁ => ⟨hf.1, hf.2, hPc (T.setVm vm₁) hT hW₁⟩)
  dsimp only [Pt.U, Pt.locs, Pt.cells, Pt.slots] at X' e1 e2 h1 h2 h3 st
  subst h1; subst h2; subst h3
  exact ⟨v, (T.setVm vm₁).calling g' mk (Value.ref b :: As).toArray, t, U', L, hT, X', hL, e1, e2, hq, st⟩
section
variable {y : MethodName} {bytes cc : ByteArray} {maxL nL mc ms n index : Nat} {ret : Option FieldType} {ws : List Cond} {rm : Room} {Pc : Array Value → State → Prop} {Qc : Array Value → State → Outcome → State → Prop} {XC : String → State → State → Prop} {free : Addr → Prop} {Ts : List Cond} {own C : String} {b : Addr} {As rest : List Value} {g : JFrame}
theorem vx_runVX {hh : List (Nat × Nat × Nat × Nat)} (S : CallFix p m c cc nL s args Ts own) (hM : vx_Met l y ws rm Pc Qc XC mc ms free) (cw : vx_CVW R s args own C index y bytes maxL ret hh ws rm mc ms n) (hp : PreV s H C b Pc As)
    (hg : g.method = m) (hn : As.length = n) (hsize : g.locals.size = nL) (hstack : g.stack = As.reverse ++ .ref b :: rest) (hW : 2 * g.monitorRoom + (rest.map fun v => v.category).sum ≤ 8) (hdg : decode cc g.pc = .ok (.invokevirtual index, 3)) (hf : cells + mc ≤ R.cells ∧ slots + ms ≤ R.slots) :
    vx_Run p l e R s m args below meth c H locs cells slots mc ms g rest (Qc (Value.ref b :: As).toArray) XC free := by
  obtain ⟨⟨hrc, hrs, hfr, hlo, hws, hcw⟩, hcode, hini, hy, hlen, hl, hin, hse⟩ := cw
  have hK : vx_Back l R p e below s args y 3 8 (PreOf R mc ms Pc) (PostOf Qc mc ms free) (vx_Post XC mc ms free) := vx_backW (hh := hh) (bytes := bytes) (maxL := maxL) (ret := ret) hM hp.1 hrc hrs hfr hlo hws hcw (fun a' U hW => word_at hW (Or.inl (by first | rfl | simp [Cond.onTables, Cond.keeps, Cond.steady])) hini)
  obtain ⟨hx, hb, hml, ho, -⟩ := S
  obtain ⟨-, ⟨cellB, hcB, hoB, hclB⟩, hPc⟩ := hp
  intro T hT X
  rcases vx_callVX X hx (C := C) (hh := hh) (bytes := bytes) (maxL := maxL) (ret := ret) ho hl hin hse hcode hy hK (by rw [hT]; exact hcB) hoB hclB hg (hsize.trans hml.symm) (argsL := As) (rest := rest) (fun sig h => hn.trans (hlen sig h)) hstack hW (by rw [hb]; exact hdg)
    (fun vm₁ hW₁ => ⟨hf.1, hf.2, hPc (T.setVm vm₁) hT hW₁⟩) with ⟨v, vm₁, ⟨U', l2, c2, s2⟩, hW₁, X', ⟨g', mk, t, L, e1, e2, hq, h1, hL, h2, h3⟩, st⟩ | ⟨q, vm₁, ⟨U', l2, c2, s2⟩, hW₁, X', ⟨g', mk, t, L, E, ce, e1, e2, hq, hce, hcv, hcl, h1, hL, h2, h3⟩, st⟩
  · dsimp only [Pt.U, Pt.locs, Pt.cells, Pt.slots] at X' e1 e2 h1 h2 h3 st
    subst h1; subst h2; subst h3
    exact Or.inl ⟨v, (T.setVm vm₁).calling g' mk (Value.ref b :: As).toArray, t, U', L, hT, X', hL, e1, e2, hq, st⟩
  · dsimp only [Pt.U, Pt.locs, Pt.cells, Pt.slots] at X' e1 e2 h1 h2 h3 st hcl
    subst h1; subst h2; subst h3
    exact Or.inr ⟨q, (T.setVm vm₁).calling g' mk (Value.ref b :: As).toArray, t, U', L, E, ce, hT, X', hL, e1, e2, hq, hce, hcv, vx_cls hW₁ hcl, st⟩
theorem vx_runSX {hh : List (Nat × Nat × Nat × Nat)} (S : CallFix p m c cc nL s args Ts own) (hM : vx_Met l y ws rm Pc Qc XC mc ms free) (cw : vx_CSW R s args own index y bytes maxL ret hh ws rm mc ms n) (hp : PreS s H Pc As)
    (hg : g.method = m) (hn : As.length = n) (hsize : g.locals.size = nL) (hstack : g.stack = As.reverse ++ rest) (hW : 2 * g.monitorRoom + (rest.map fun v => v.category).sum ≤ 8) (hdg : decode cc g.pc = .ok (.invokestatic index, 3)) (hf : cells + mc ≤ R.cells ∧ slots + ms ≤ R.slots) :
    vx_Run p l e R s m args below meth c H locs cells slots mc ms g rest (Qc As.toArray) XC free := by
  obtain ⟨⟨hrc, hrs, hfr, hlo, hws, hcw⟩, hcode, hini, hy, hlen, hl, hstt⟩ := cw
  have hK : vx_Back l R p e below s args y 3 8 (PreOf R mc ms Pc) (PostOf Qc mc ms free) (vx_Post XC mc ms free) := vx_backW (hh := hh) (bytes := bytes) (maxL := maxL) (ret := ret) hM hp.1 hrc hrs hfr hlo hws hcw (fun a' U hW => word_at hW (Or.inl (by first | rfl | simp [Cond.onTables, Cond.keeps, Cond.steady])) hini)
  obtain ⟨hx, hb, hml, ho, -⟩ := S
  intro T hT X
  rcases vx_callSX X hx (hh := hh) (bytes := bytes) (maxL := maxL) (ret := ret) ho hl hstt hini hcode hy hK hg (hsize.trans hml.symm) (argsL := As) (rest := rest) (fun sig h => hn.trans (hlen sig h)) hstack hW (by rw [hb]; exact hdg)
    (fun vm₁ hW₁ => ⟨hf.1, hf.2, hp.2 (T.setVm vm₁) hT hW₁⟩) with ⟨v, vm₁, ⟨U', l2, c2, s2⟩, hW₁, X', ⟨g', mk, t, L, e1, e2, hq, h1, hL, h2, h3⟩, st⟩ | ⟨q, vm₁, ⟨U', l2, c2, s2⟩, hW₁, X', ⟨g', mk, t, L, E, ce, e1, e2, hq, hce, hcv, hcl, h1, hL, h2, h3⟩, st⟩
  · dsimp only [Pt.U, Pt.locs, Pt.cells, Pt.slots] at X' e1 e2 h1 h2 h3 st
    subst h1; subst h2; subst h3
    exact Or.inl ⟨v, (T.setVm vm₁).calling g' mk As.toArray, t, U', L, hT, X', hL, e1, e2, hq, st⟩
  · dsimp only [Pt.U, Pt.locs, Pt.cells, Pt.slots] at X' e1 e2 h1 h2 h3 st hcl
    subst h1; subst h2; subst h3
    exact Or.inr ⟨q, (T.setVm vm₁).calling g' mk As.toArray, t, U', L, E, ce, hT, X', hL, e1, e2, hq, hce, hcv, vx_cls hW₁ hcl, st⟩
end
end VXH
theorem vx_ofWH {l : Launch} {y : MethodName} {ws ws' : List Cond} {rm : Room} {Pc : Array Value → State → Prop} {Qc : Array Value → State → Outcome → State → Prop} {XC : String → State → State → Prop} {mc ms : Nat} {free : Addr → Prop} {cc : ByteArray} {maxL : Nat} {ret : Option FieldType} {hh : List (Nat × Nat × Nat × Nat)}
    (hy : plainName y.cls = true) (hw : ws = Cond.codeWith y cc maxL ret hh :: ws')
    (body : ∀ p e s m args below meth c s₁, BodyLoose p l y (headSpec ws rm) cc maxL ret e s m args below meth c s₁ → c.maxLocals = maxL → Pc args s →
      W p l e (headSpec ws rm).room s m args below meth c s.heap [] 0 0 (vx_MQ below Qc XC args s mc ms free) (entryFrame m args maxL)) : vx_Met l y ws rm Pc Qc XC mc ms free := by
  refine MetFree.of_bodyS (code := cc) (maxLocals := maxL) (ret := ret) hy ?_ ?_
  · intro args s m h hn
    obtain ⟨m9, meth, c, hn9, h1, h2, h3, h4, -, h5, h6, -⟩ := Cond.codeWith_spec (atoms_spec (ws := ws) h _ (by rw [hw]; exact List.mem_cons_self))
    cases hn.symm.trans hn9
    exact ⟨meth, c, h1, h2, h3, h4, h5, h6⟩
  · intro p e s m args below meth c s₁ B hml hP _
    have hh0 : s₁.heap = s.heap := by rw [B.state]; rfl
    obtain ⟨t, a1, o, b1, b2, b3⟩ := body p e s m args below meth c s₁ B hml hP s₁ hh0 (Stand.of_body B)
    exact ⟨t, o, a1, b1, b2, b3⟩
/-! ===== END ===== -/
/-! ===== BEGIN what the machine throws by itself, no traces kept ===== -/
section VXM
set_option maxHeartbeats 1000000 in
/-- the machine throws cls with the message text, no traces kept: from its note over the frame g to 'throwing' over the same frame (follows the proofs of Stand.vmThrowsMessage, Shelf/KitTracedVmS.lean, and Stand.throwsMessageColdBareV, StandMessageColdV.lean, without the step out of the frame) -/
theorem vx_vmAt {p : Program} {l : Launch} {e : Env} {R : Room} {s : State} {m₀ : MethodId} {args : Array Value} {below : List Frame} {meth : Method} {c : Code} {W : State} {locs : List Loc} {cells slots : Nat}
    (X : Stand p l e R s m₀ args below meth c W locs cells slots) (hexec : p.tables.exec = Jvm.exec) (htr : e.platform.stackTraces = false) {cls : String} {names : List String} {text : String}
    (hcls : Bundle.fit cls = true) (hnames : ∀ n ∈ names, Bundle.fit n = true) (hsoe : (cls == "java/lang/StackOverflowError") = false) (hoom : (cls == "java/lang/OutOfMemoryError") = false)
    (h : ∀ a ∈ Bundle.messageArmAtoms cls names, a.before args s = true)
    (hlocs : ∀ x ∈ locs, ∀ cell, s.heap[x.base]? = some cell → cell.vm.isStatics = false)
    (htext : (text == notModelled) = false) (hlimit : ¬ (stringBytes (stringToUtf16 text)).size > e.platform.arrayLengthLimit) (hheap : ¬ (stringBytes (stringToUtf16 text)).size * componentBytes .byte > e.platform.maxHeapBytes)
    {g : JFrame} (hg : g.method = m₀) (hsize : g.locals.size = c.maxLocals)
    (hRframes : names.length + 4 < R.frames) (hRlocals : 2 * g.monitorRoom + (g.stack.map fun v => v.category).sum + 10240 ≤ R.locals) (hshort : 13 * names.length + 55 ≤ 10240)
    (hRcells : cells + 3 ≤ R.cells) (hRslots : slots + ((stringBytes (stringToUtf16 text)).size + 4 + 6) ≤ R.slots) (hlocks : meth.locks = false) :
    ∃ (S : State) (q : Addr) (ce : Cell), (∀ target, Steps p.tables e below ((S.setTop g).pushFrame (.throwing q)) target → Steps p.tables e below ((W.setTop g).pushFrame (.throwNew cls (some text) none)) target) ∧
      Stand p l e R s m₀ args below meth c S locs (cells + 3) (slots + ((stringBytes (stringToUtf16 text)).size + 4 + 6)) ∧ S.heap[q]? = some ce ∧ s.vm.findClass cls = some ce.cls ∧ ce.vm = .none := by
  have howns : e.platform.frameOwnsMonitors = true := by rw [X.admits.platform]
  have hfin : e.platform.finalization = false := by rw [X.admits.platform]
  have hpl : e.platform.magicAccessors = ({} : Platform).magicAccessors := by rw [X.admits.platform]
  have a : ∀ x, x ∈ Bundle.messageArmAtoms cls names → x.holds args s none s [] = true := fun x hx => h x hx
  obtain ⟨T, Z0, L, -, Y⟩ := ThrowableC.of_atoms (args := args) howns hfin hpl (fun x hx => h x (by simp [Bundle.messageArmAtoms, hx]))
  obtain ⟨Z, M, LZ, LM, hnZ⟩ := Init0T.ofS_atoms (args := args) hpl L Y (fun x hx => h x (by simp [Bundle.messageArmAtoms, hx]))
  obtain ⟨P1, Ps, hlen, L1, hL, hP1m, hlink1, hlink⟩ := Bundle.chainS (args := args) hpl hnZ names cls hcls hnames (fun x hx => h x (by simp [Bundle.messageArmAtoms, hx]))
  obtain ⟨Zs, LZs, hn4, hfitv, hfitc⟩ := StringT.of_atoms (args := args) (fun x hx => h x (by simp [Bundle.messageArmAtoms, hx]))
  have hfound : s.vm.findClass cls = some P1.m.cls := findClass_of_methodNamed hP1m
  obtain ⟨c1, kX, hc1, hk, hord, -, -, hn6⟩ := Cond.instantiable_spec (a (.instantiable cls 6) (by simp [Bundle.messageArmAtoms]))
  cases Option.some.inj (hc1.symm.trans hfound)
  have hinit := Cond.initialized_spec hfound hk (a (.initialized cls) (by simp [Bundle.messageArmAtoms]))
  have hctor : kX.findMethod "<init>" "(Ljava/lang/String;)V" = some P1.m.idx := findMethod_of_methodNamed hP1m hk
  have hsel0 : selectMethod e.platform s.vm P1.m.cls T.fill0 = .method T.fill0 := by
    obtain ⟨c2, r2, m2, q1, q2, q3, q4, -⟩ := Cond.selects_spec (a (.selects cls Bundle.tFill0 Bundle.tFill0) (by simp [Bundle.messageArmAtoms]))
    cases Option.some.inj (q1.symm.trans hfound)
    cases Option.some.inj (q2.symm.trans (State.methodFound?_of_named Y.fill0 (by decide)))
    cases Option.some.inj (q3.symm.trans Y.fill0)
    rw [Launch.admits_selectMethod X.admits]; exact q4
  have hselF : selectMethod e.platform s.vm P1.m.cls T.fill = .method T.fill := by
    obtain ⟨c2, r2, m2, q1, q2, q3, q4, -⟩ := Cond.selects_spec (a (.selects cls Bundle.tFill Bundle.tFill) (by simp [Bundle.messageArmAtoms]))
    cases Option.some.inj (q1.symm.trans hfound)
    cases Option.some.inj (q2.symm.trans (State.methodFound?_of_named Y.fill (by decide)))
    cases Option.some.inj (q3.symm.trans Y.fill)
    rw [Launch.admits_selectMethod X.admits]; exact q4
  obtain ⟨cellS0, hcS0, hiss⟩ := Y.statics
  obtain ⟨u0, hu0⟩ := Cond.staticRefV Y.unassigned L.unassignedStatic L.statics hcS0 hiss (a (.isRef (.static Bundle.tN "UNASSIGNED_STACK" Bundle.steD)) (by simp [Bundle.messageArmAtoms]))
  obtain ⟨sen, hsen⟩ := Cond.staticRefV Y.sentinel L.sentinelStatic L.statics hcS0 hiss (a (.isRef (.static Bundle.tN "SUPPRESSED_SENTINEL" Bundle.listD)) (by simp [Bundle.messageArmAtoms]))
  obtain ⟨ci198, i198, fB, hk198, hg198, ha198, hsB, -, hnB, htB, hffB⟩ := Cond.ownField (t := .object "java/lang/Object") Y.found L.cls (by decide +kernel) (a (.fieldLink Bundle.tN 198 Bundle.tN "backtrace" "Ljava/lang/Object;") (by simp [Bundle.messageArmAtoms])) (a (.lays Bundle.tN Bundle.tN "backtrace" "Ljava/lang/Object;") (by simp [Bundle.messageArmAtoms])) e.platform hpl
  obtain ⟨cellS, hcS', heS, -, hkeep⟩ := X.same.2.2.2.2.2 T.aS cellS0 hcS0
  have hcellS : W.heap[T.aS]? = some cellS := hcS'
  have hout' : ∀ i, (⟨T.aS, i⟩ : Loc) ∉ locs := fun i hmem => by
    have := hlocs _ hmem cellS0 hcS0
    rw [hiss] at this; cases this
  have hknownS : cellS.vm ≠ .unknown := by
    rw [heS]; intro hu
    rw [show cellS0.vm = .unknown from hu] at hiss
    cases hiss
  have hvU : cellS.slots[T.fUnassigned.slot]? = some u0.v := by rw [hkeep _ (hout' _)]; exact hu0
  have hvSen : cellS.slots[T.fSentinel.slot]? = some sen.v := by rw [hkeep _ (hout' _)]; exact hsen
  obtain ⟨iM, hffM⟩ := Y.msg
  obtain ⟨tyC, dC, hdC, hdnC⟩ := Cond.laysAt hfound hk Y.cause (a (.lays cls Bundle.tN "cause" "Ljava/lang/Throwable;") (by simp [Bundle.messageArmAtoms]))
  obtain ⟨tyS, dS, hdS, hdnS⟩ := Cond.laysAt hfound hk Y.stack (a (.lays cls Bundle.tN "stackTrace" Bundle.steD) (by simp [Bundle.messageArmAtoms]))
  obtain ⟨tyP, dP, hdP, hdnP⟩ := Cond.laysAt hfound hk Y.supp (a (.lays cls Bundle.tN "suppressedExceptions" Bundle.listD) (by simp [Bundle.messageArmAtoms]))
  obtain ⟨tyM, dM, hdM, hdnM⟩ := Cond.laysAt hfound hk hffM (a (.lays cls Bundle.tN "detailMessage" "Ljava/lang/String;") (by simp [Bundle.messageArmAtoms]))
  obtain ⟨tyB, dB, hdB, hdnB⟩ := Cond.laysAt hfound hk hffB (a (.lays cls Bundle.tN "backtrace" "Ljava/lang/Object;") (by simp [Bundle.messageArmAtoms]))
  have bC := Cond.laysApart hdB hdC hdnB hdnC (by rw [hnB, Y.causeName]; decide)
  have bS := Cond.laysApart hdB hdS hdnB hdnS (by rw [hnB, Y.stackName]; decide)
  have bP := Cond.laysApart hdB hdP hdnB hdnP (by rw [hnB, Y.suppName]; decide)
  have hbk : ((preparedCellV T.toThrowableT (freshCell P1.m.cls kX) (W.heap.size + 2) u0 sen).withEntry W.cur).slots[fB.slot]? = some .null := by
    have := fresh_default (c := P1.m.cls) tyB
    rw [htB] at this
    simpa [preparedCellV, Cell.setSlot, Cell.withEntry, Array.getElem?_setIfInBounds, bC, bS, bP, bC.symm, bS.symm, bP.symm, defaultValue] using this
  have tkC := Takes.of_laid (v := .ref (W.heap.size + 2)) hk hord tyC (by rw [Y.causeType]; rfl)
  have tkS := Takes.of_laid (v := u0.v) hk hord tyS (by rw [Y.stackType]; exact fits_refV_array _ u0)
  have tkP := Takes.of_laid (v := sen.v) hk hord tyP (by rw [Y.suppType]; exact fits_refV_object _ sen)
  have tkM := Takes.of_laid (v := .ref (W.heap.size + 1)) hk hord tyM (by rw [Y.msgType]; rfl)
  have hskip : SkipFacts T e.platform s (fun u => u) u0 ((preparedCellV T.toThrowableT (freshCell P1.m.cls kX) (W.heap.size + 2) u0 sen).withEntry W.cur) := ⟨{ ci198 := ci198, i198 := i198, fBack := fB }, ⟨hk198, hg198, ha198, hsB⟩, hbk, fun _ _ => rfl⟩
  have h0 : At W g.method c below := by rw [hg]; exact X.here
  obtain ⟨hbeyond, hfreeW⟩ := X.vmMayThrow hsize (.throwNew cls (some text) none) (fun f hf => by cases hf) rfl hRlocals
  have hfr' : W.frames.length + Ps.length + 4 < (e.platform.stackLimits W.me).1 := by have := X.framesAbove hRframes; omega
  have hwd' : (stackUse (.java g :: W.frames.tail)).2 + 13 * Ps.length + 55 ≤ (e.platform.stackLimits W.me).2 := by have := X.stackAbove hsize (K := 13 * Ps.length + 55) (by omega); omega
  have hslots : W.slotsUsed + (stringBytes (stringToUtf16 text)).size + Zs.kS.instanceTypes.size + kX.instanceTypes.size ≤ e.platform.maxSlots := by
    have := X.slotsAbove hRslots
    rw [hn4, hn6]
    omega
  obtain ⟨vm', hW', st⟩ := Steps.vmThrowsMessageColdByV p (s₀ := s) (S := W) (g := g) h0 hexec T L Z LZ M LM X.warmed (t := W.cur) rfl Zs LZs P1 L1 Ps hL hlink1 hlink hsoe hoom hfound hk hinit hord hctor
    (Launch.admits_hotImplicitExceptions X.admits) hbeyond hfreeW htext hlimit hheap (X.cellsAbove hRcells) hslots (hfitv _) (hfitc _)
    (Nn := fun u => u) heapOnly_id (fun _ _ => rfl) (fun _ => rfl) (fun u x y => setCell_twice _ _ _ _) (fun _ => Nat.le_refl _) (cN := ((preparedCellV T.toThrowableT (freshCell P1.m.cls kX) (W.heap.size + 2) u0 sen).withEntry W.cur))
    hsel0 hcellS hknownS hvU tkS (fun _ hu => hu) (fun _ hu => hu) rfl rfl rfl (by simp [preparedCellV, Cell.setSlot, Cell.withEntry]) hskip (fun _ _ hA hW _ hroom _ hrest => L.nativeOff p htr hA hW hroom hrest) hselF hvSen tkC tkP tkM Y.objLocals rfl hfr' hwd'
  rw [plainBareV_eq T.toThrowableT (W.heap.size + 2) u0 sen (.ref (W.heap.size + 1)) W.cur rfl rfl] at st
  obtain ⟨-, -, w3, w4, -, -, -⟩ := withThrown_facts e.platform W Zs text P1.m.cls kX
  have X3 := ((X.pushed (bytesOf Zs.cB (stringToUtf16 text))).pushed (stringAt Zs.cS Zs.kS Zs.fv Zs.fc (stringToUtf16 text) W.heap.size)).pushed (freshCell P1.m.cls kX)
  rw [← withString_eq] at X3
  have X4 := X3.noted hW'
  have ha : (W.heap.size + 2) < ((withThrown W Zs text P1.m.cls kX).setVm vm').heap.size := by show _ < (withThrown W Zs text P1.m.cls kX).heap.size; rw [w3]; omega
  have hcell : ((withThrown W Zs text P1.m.cls kX).setVm vm').heap[(W.heap.size + 2)]? = some (freshCell P1.m.cls kX) := w4
  have X5 := ((((X4.stored hcell T.fCause.slot (.ref (W.heap.size + 2))).storedAgain ha T.fStack.slot u0.v).storedAgain ha T.fSupp.slot sen.v).storedAgain ha T.fStack.slot u0.v).storedAgain ha T.fMsg.slot (.ref (W.heap.size + 1))
  obtain ⟨g₁, hfrM⟩ := X5.frames_eq
  have hU : ((((withThrown W Zs text P1.m.cls kX).setVm vm').setCell (W.heap.size + 2) (plainBareV T.toThrowableT (freshCell P1.m.cls kX) (W.heap.size + 2) u0 sen (.ref (W.heap.size + 1)))).setTop g).pushFrame (.throwing (W.heap.size + 2)) = (((withThrown W Zs text P1.m.cls kX).setVm vm').setCell (W.heap.size + 2) (plainBareV T.toThrowableT (freshCell P1.m.cls kX) (W.heap.size + 2) u0 sen (.ref (W.heap.size + 1)))).setFrames (.throwing (W.heap.size + 2) :: .java g :: below) := by
    rw [State.pushFrame, State.frames_setTop _ hfrM, State.setTop_of_frames _ hfrM, State.setFrames_setFrames]
  have b1 : (bytesOf Zs.cB (stringToUtf16 text)).slots.size = (stringBytes (stringToUtf16 text)).size := by
    rw [(Cell.writeAll_facts _ _).2.2]; simp [bytes0]
  have b2 : (stringAt Zs.cS Zs.kS Zs.fv Zs.fc (stringToUtf16 text) W.heap.size).slots.size = 4 := by simp [string0, Cell.setSlot, hn4]
  have b3 : (freshCell P1.m.cls kX).slots.size = 6 := by simp [hn6]
  rw [b1, b2, b3] at X5
  have e9 : slots + (stringBytes (stringToUtf16 text)).size + 4 + 6 = slots + ((stringBytes (stringToUtf16 text)).size + 4 + 6) := by omega
  rw [e9] at X5
  simp only [List.append_assoc, List.cons_append, List.nil_append] at X5
  refine ⟨((withThrown W Zs text P1.m.cls kX).setVm vm').setCell (W.heap.size + 2) (plainBareV T.toThrowableT (freshCell P1.m.cls kX) (W.heap.size + 2) u0 sen (.ref (W.heap.size + 1))), W.heap.size + 2, _, fun target ht => st _ (by rw [X.tail, ← hU]; exact ht),
    X5.forget (fun y hy => ?_), heapAt_setCell_self _ ha, hfound, rfl⟩
  simp only [List.mem_cons, List.not_mem_nil, or_false] at hy
  have hge : s.heap.size ≤ W.heap.size := X.same.2.1
  rcases hy with rfl | rfl | rfl | rfl | rfl <;> exact Nat.le_trans hge (Nat.le_add_right _ 2)
set_option maxHeartbeats 1000000 in
/-- the machine throws NullPointerException, no traces kept: from its note over the frame g to 'throwing' over the same frame (follows the proof of Stand.vmThrowsNpe, Shelf42/KT2.lean; throwsNpeColdBareVAt, Shelf42/NT91.lean, called) -/
theorem vx_npeAt {p : Program} {l : Launch} {e : Env} {R : Room} {s : State} {m₀ : MethodId} {args : Array Value} {below : List Frame} {meth : Method} {c : Code} {W : State} {locs : List Loc} {cells slots : Nat}
    (X : Stand p l e R s m₀ args below meth c W locs cells slots) (hexec : p.tables.exec = Jvm.exec) (htr : e.platform.stackTraces = false) {n : Nat}
    (h : ∀ a ∈ Bundle.npeArmAtoms n, a.before args s = true)
    (hlocs : ∀ x ∈ locs, ∀ cell, s.heap[x.base]? = some cell → cell.vm.isStatics = false)
    {g : JFrame} (hg : g.method = m₀) (hsize : g.locals.size = c.maxLocals)
    (hRframes : 7 < R.frames) (hRlocals : 2 * g.monitorRoom + (g.stack.map fun v => v.category).sum + 10240 ≤ R.locals)
    (hRcells : cells + 1 ≤ R.cells) (hRslots : slots + n ≤ R.slots) (hlocks : meth.locks = false) :
    ∃ (S : State) (q : Addr) (ce : Cell), (∀ target, Steps p.tables e below ((S.setTop g).pushFrame (.throwing q)) target → Steps p.tables e below ((W.setTop g).pushFrame (.throwNew "java/lang/NullPointerException" none none)) target) ∧
      Stand p l e R s m₀ args below meth c S locs (cells + 1) (slots + n) ∧ S.heap[q]? = some ce ∧ s.vm.findClass "java/lang/NullPointerException" = some ce.cls ∧ ce.vm = .none := by
  have howns : e.platform.frameOwnsMonitors = true := by rw [X.admits.platform]
  have hfin : e.platform.finalization = false := by rw [X.admits.platform]
  have hpl : e.platform.magicAccessors = ({} : Platform).magicAccessors := by rw [X.admits.platform]
  have hpl2 : e.platform.arrayCloneIsPublic = true := by rw [X.admits.platform]
  have a' : ∀ x, x ∈ Bundle.npeArmAtoms n → x.holds args s none s [] = true := fun x hx => h x hx
  obtain ⟨T, Z, L, LZ, Y⟩ := ThrowableC.of_atoms (args := args) howns hfin hpl (fun x hx => h x (by simp [Bundle.npeArmAtoms, hx]))
  obtain ⟨N, LN, hcN, hnNF, hordN, hffS⟩ := NpeC.of_atoms (args := args) hpl hpl2 L Y (fun x hx => h x (by simp [Bundle.npeArmAtoms, hx]))
  obtain ⟨P1, L1, hP1m, hP1s⟩ := PassC.of_atoms (args := args) (s := s) hpl (X := Bundle.nN) (Y := Bundle.rN) (by decide) (by decide) LibCode.NullPointerException.Init0.at_0 LibCode.NullPointerException.Init0.at_1 LibCode.NullPointerException.Init0.at_4 (fun x hx => h x (by simp [Bundle.npeArmAtoms, hx]))
  obtain ⟨PR, LR, hPRm, hPRs⟩ := PassC.of_atoms (args := args) (s := s) hpl (X := Bundle.rN) (Y := Bundle.eN) (by decide) (by decide) LibCode.RuntimeException.Init0.at_0 LibCode.RuntimeException.Init0.at_1 LibCode.RuntimeException.Init0.at_4 (fun x hx => h x (by simp [Bundle.npeArmAtoms, hx]))
  obtain ⟨PE, LEx, hPEm, hPEs⟩ := PassC.of_atoms (args := args) (s := s) hpl (X := Bundle.eN) (Y := Bundle.tN) (by decide) (by decide) LibCode.Exception.Init0.at_0 LibCode.Exception.Init0.at_1 LibCode.Exception.Init0.at_4 (fun x hx => h x (by simp [Bundle.npeArmAtoms, hx]))
  have hfound : s.vm.findClass Bundle.nN = some P1.m.cls := findClass_of_methodNamed hP1m
  have ecls : N.cN = P1.m.cls := Option.some.inj (hcN.symm.trans hfound)
  have hk : s.vm.classes[P1.m.cls]? = some N.kN := by rw [← ecls]; exact LN.cls
  have hinit := Cond.initialized_spec hfound hk (a' (.initialized Bundle.nN) (by simp [Bundle.npeArmAtoms]))
  have hctor : N.kN.findMethod "<init>" "()V" = some P1.m.idx := findMethod_of_methodNamed hP1m hk
  obtain ⟨c1, k1, hc1, hk1, -, -, -, hn⟩ := Cond.instantiable_spec (a' (.instantiable Bundle.nN n) (by simp [Bundle.npeArmAtoms]))
  cases Option.some.inj (hc1.symm.trans hfound)
  cases Option.some.inj (hk1.symm.trans hk)
  have hfsz : (freshCell P1.m.cls N.kN).slots.size = n := by simp [hn]
  have hlink1 : P1.sup = PR.m := Option.some.inj (hP1s.symm.trans hPRm)
  have hlinkR : PR.sup = PE.m := Option.some.inj (hPRs.symm.trans hPEm)
  have hlinkE : PE.sup = Z.m T.toThrowableT := Option.some.inj (hPEs.symm.trans Y.init0)
  have hLs : ∀ P, P ∈ [PR, PE] → P.Links0 e.platform s := fun P hP => by
    simp only [List.mem_cons, List.not_mem_nil, or_false] at hP
    rcases hP with rfl | rfl
    · exact LR
    · exact LEx
  have hsel0 : selectMethod e.platform s.vm P1.m.cls T.fill0 = .method T.fill0 := by
    obtain ⟨c2, r2, m2, q1, q2, q3, q4, -⟩ := Cond.selects_spec (a' (.selects Bundle.nN Bundle.tFill0 Bundle.tFill0) (by simp [Bundle.npeArmAtoms]))
    cases Option.some.inj (q1.symm.trans hfound)
    cases Option.some.inj (q2.symm.trans (State.methodFound?_of_named Y.fill0 (by decide)))
    cases Option.some.inj (q3.symm.trans Y.fill0)
    rw [Launch.admits_selectMethod X.admits]; exact q4
  have hselF : selectMethod e.platform s.vm P1.m.cls T.fill = .method N.fill := by
    obtain ⟨c2, r2, m2, q1, q2, q3, q4, -⟩ := Cond.selects_spec (a' (.selects Bundle.nN Bundle.tFill Bundle.nFill) (by simp [Bundle.npeArmAtoms]))
    cases Option.some.inj (q1.symm.trans hfound)
    cases Option.some.inj (q2.symm.trans (State.methodFound?_of_named Y.fill (by decide)))
    cases Option.some.inj (q3.symm.trans hnNF)
    rw [Launch.admits_selectMethod X.admits]; exact q4
  obtain ⟨cellS0, hcS0, hiss⟩ := Y.statics
  obtain ⟨u0, hu0⟩ := Cond.staticRefV Y.unassigned L.unassignedStatic L.statics hcS0 hiss (a' (.isRef (.static Bundle.tN "UNASSIGNED_STACK" Bundle.steD)) (by simp [Bundle.npeArmAtoms]))
  obtain ⟨sen, hsen⟩ := Cond.staticRefV Y.sentinel L.sentinelStatic L.statics hcS0 hiss (a' (.isRef (.static Bundle.tN "SUPPRESSED_SENTINEL" Bundle.listD)) (by simp [Bundle.npeArmAtoms]))
  obtain ⟨ci198, i198, fB, hk198, hg198, ha198, hsB, -, hnB, htB, hffB⟩ := Cond.ownField (t := .object "java/lang/Object") Y.found L.cls (by decide +kernel) (a' (.fieldLink Bundle.tN 198 Bundle.tN "backtrace" Bundle.objD) (by simp [Bundle.npeArmAtoms])) (a' (.lays Bundle.tN Bundle.tN "backtrace" Bundle.objD) (by simp [Bundle.npeArmAtoms])) e.platform hpl
  obtain ⟨cellS, hcS', heS, -, hkeep⟩ := X.same.2.2.2.2.2 T.aS cellS0 hcS0
  have hcellS : W.heap[T.aS]? = some cellS := hcS'
  have hout' : ∀ i, (⟨T.aS, i⟩ : Loc) ∉ locs := fun i hmem => by
    have := hlocs _ hmem cellS0 hcS0
    rw [hiss] at this; cases this
  have hknownS : cellS.vm ≠ .unknown := by
    rw [heS]; intro hu
    rw [show cellS0.vm = .unknown from hu] at hiss
    cases hiss
  have hvU : cellS.slots[T.fUnassigned.slot]? = some u0.v := by rw [hkeep _ (hout' _)]; exact hu0
  have hvSen : cellS.slots[T.fSentinel.slot]? = some sen.v := by rw [hkeep _ (hout' _)]; exact hsen
  obtain ⟨tyC, dC, hdC, hdnC⟩ := Cond.laysAt hfound hk Y.cause (a' (.lays Bundle.nN Bundle.tN "cause" "Ljava/lang/Throwable;") (by simp [Bundle.npeArmAtoms]))
  obtain ⟨tyS, dS, hdS, hdnS⟩ := Cond.laysAt hfound hk Y.stack (a' (.lays Bundle.nN Bundle.tN "stackTrace" Bundle.steD) (by simp [Bundle.npeArmAtoms]))
  obtain ⟨tyP, dP, hdP, hdnP⟩ := Cond.laysAt hfound hk Y.supp (a' (.lays Bundle.nN Bundle.tN "suppressedExceptions" Bundle.listD) (by simp [Bundle.npeArmAtoms]))
  obtain ⟨tyX, dX, hdX, hdnX⟩ := Cond.laysAt hfound hk hffS (a' (.lays Bundle.nN Bundle.nN "extendedMessageState" "I") (by simp [Bundle.npeArmAtoms, Bundle.npeAtoms]))
  obtain ⟨hnX, htX⟩ := State.fieldFound?_type hffS (t := .int) (by decide +kernel)
  have xC := Cond.laysApart hdC hdX hdnC hdnX (by rw [hnX, Y.causeName]; decide)
  have xS := Cond.laysApart hdS hdX hdnS hdnX (by rw [hnX, Y.stackName]; decide)
  have xP := Cond.laysApart hdP hdX hdnP hdnX (by rw [hnX, Y.suppName]; decide)
  have hv0 : (freshCell P1.m.cls N.kN).slots[N.fState.slot]? = some (.int 0) := by
    have := fresh_default (c := P1.m.cls) tyX
    rw [htX] at this; exact this
  obtain ⟨tyB, dB, hdB, hdnB⟩ := Cond.laysAt hfound hk hffB (a' (.lays Bundle.nN Bundle.tN "backtrace" Bundle.objD) (by simp [Bundle.npeArmAtoms]))
  have bC := Cond.laysApart hdB hdC hdnB hdnC (by rw [hnB, Y.causeName]; decide)
  have bS := Cond.laysApart hdB hdS hdnB hdnS (by rw [hnB, Y.stackName]; decide)
  have bP := Cond.laysApart hdB hdP hdnB hdnP (by rw [hnB, Y.suppName]; decide)
  have bX := Cond.laysApart hdB hdX hdnB hdnX (by rw [hnB, hnX]; decide)
  have hbk : ((npeCell N.toNpeT (preparedCellV T.toThrowableT (freshCell P1.m.cls N.kN) W.heap.size u0 sen) W.cur).withEntry W.cur).slots[fB.slot]? = some .null := by
    have := fresh_default (c := P1.m.cls) tyB
    rw [htB] at this
    simpa [npeCell, preparedCellV, Cell.setSlot, Cell.withEntry, Array.getElem?_setIfInBounds, bC, bS, bP, bX, bC.symm, bS.symm, bP.symm, bX.symm, defaultValue] using this
  have tkC := Takes.of_laid (v := .ref W.heap.size) hk hordN tyC (by rw [Y.causeType]; rfl)
  have tkS := Takes.of_laid (v := u0.v) hk hordN tyS (by rw [Y.stackType]; exact fits_refV_array _ u0)
  have tkP := Takes.of_laid (v := sen.v) hk hordN tyP (by rw [Y.suppType]; exact fits_refV_object _ sen)
  have tkX := Takes.of_laid (v := .int 1) hk hordN tyX (by rw [htX]; rfl)
  have hskip : SkipFacts T e.platform s (fun u => u) u0 ((npeCell N.toNpeT (preparedCellV T.toThrowableT (freshCell P1.m.cls N.kN) W.heap.size u0 sen) W.cur).withEntry W.cur) := ⟨{ ci198 := ci198, i198 := i198, fBack := fB }, ⟨hk198, hg198, ha198, hsB⟩, hbk, fun _ _ => rfl⟩
  obtain ⟨vm', X3, st, -⟩ := X.throwsNpeColdBareVAt hexec hg hsize T L Z LZ N LN P1 L1 [PR, PE] hLs hlink1 ⟨hlinkR, hlinkE, trivial⟩ hfound hk hinit hordN hctor hsel0 hselF hcellS hknownS hvU hvSen
    hv0 xC xS xP tkC tkS tkP tkX Y.objLocals hskip (fun _ _ hA hW _ hroom _ hrest => L.nativeOff p htr hA hW hroom hrest) (by simpa using hRframes) hRlocals (by simp) hRcells (by rw [hn]; exact hRslots)
  have hlt : W.heap.size < ((W.pushCell (freshCell P1.m.cls N.kN)).setVm vm').heap.size := by
    show W.heap.size < (W.pushCell (freshCell P1.m.cls N.kN)).heap.size
    rw [State.heap_size_pushCell]; omega
  rw [hfsz] at X3
  obtain ⟨g₁, hfrM⟩ := X3.frames_eq
  have hU : ((((W.pushCell (freshCell P1.m.cls N.kN)).setVm vm').setCell W.heap.size (npeBareV T.toThrowableT N.toNpeT (freshCell P1.m.cls N.kN) W.heap.size u0 sen)).setTop g).pushFrame (.throwing W.heap.size) = (((W.pushCell (freshCell P1.m.cls N.kN)).setVm vm').setCell W.heap.size (npeBareV T.toThrowableT N.toNpeT (freshCell P1.m.cls N.kN) W.heap.size u0 sen)).setFrames (.throwing W.heap.size :: .java g :: below) := by
    rw [State.pushFrame, State.frames_setTop _ hfrM, State.setTop_of_frames _ hfrM, State.setFrames_setFrames]
  refine ⟨_, W.heap.size, _, fun target ht => st.trans (by rw [← hU]; exact ht), X3.forget (fun y hy => ?_), heapAt_setCell_self _ hlt, hfound, rfl⟩
  simp only [List.mem_cons, List.not_mem_nil, or_false] at hy
  have hge : s.heap.size ≤ W.heap.size := X.same.2.1
  rcases hy with rfl | rfl | rfl | rfl | rfl <;> exact hge
/-- the words of a machine's NullPointerException, but the four that speak of the heap -/
def vx_atN (n : Nat) : List Cond := (Bundle.npeArmAtoms n).filter vx_no
/-- the words of a machine's throw with a message, but the four that speak of the heap -/
def vx_atM (X : String) (names : List String) : List Cond := (Bundle.messageArmAtoms X names).filter vx_no
section
variable {p : Program} {l : Launch} {e : Env} {R : Room} {s : State} {m : MethodId} {args : Array Value} {below : List Frame} {meth : Method} {c : Code} {H : Heap} {locs : List Loc} {cells slots : Nat}
/-- a frame seen from a rebased start, seen from the first start again -/
theorem vx_back9 {T S : State} {R' : Room} {k n : Nat} (X : Stand p l e R s m args below meth c T locs cells slots) (Y : Stand p l e R' ((T.setVm s.vm).setFrames (.invoking m args :: below)) m args below meth c T [] 0 0) (Z : Stand p l e R' ((T.setVm s.vm).setFrames (.invoking m args :: below)) m args below meth c S [] k n) :
    Stand p l e R s m args below meth c S locs (cells + k) (slots + n) := by
  have hW0 : s.WarmedH ((T.setVm s.vm).setFrames (.invoking m args :: below)).vm := State.WarmedH.refl s
  refine { admits := X.admits, cas := X.cas, clock := X.clock, frames := X.frames, room := X.room, hears := X.hears, method := X.method, code := X.code, here := Z.here, tail := Z.tail, warmed := State.WarmedH.trans hW0 Z.warmed, limits := Z.limits.trans (Y.limits.symm.trans X.limits), bytes := Z.bytes.trans (Y.bytes.symm.trans X.bytes), same := ?_ }
  obtain ⟨e1, e2⟩ := Z.same
  rw [State.setFrames_setFrames] at e1
  have h2 : (T.setVm s.vm).sameButNew (S.setVm s.vm) [] k n := ⟨e1, e2⟩
  have h3 := X.same.trans h2
  rw [List.append_nil] at h3
  exact h3
/-- from the machine's note that E is thrown here with this text -/
def vx_Note (p : Program) (l : Launch) (e : Env) (R : Room) (s : State) (m : MethodId) (args : Array Value) (below : List Frame) (meth : Method) (c : Code) (H : Heap) (locs : List Loc) (cells slots : Nat) (Q : State → Prop) (g : JFrame) (E text : String) : Prop :=
  ∀ T : State, T.heap = H → Stand p l e R s m args below meth c T locs cells slots → ∃ t, Steps p.tables e below ((T.setTop g).pushFrame (.throwNew E (some text) none)) t ∧ Q t
theorem vx_vm {pc : Nat} {ls : Array Slot} {rest : List Value} {Q : State → Prop} (hexec : p.tables.exec = Jvm.exec) (hl : l.stackTraces = false) {cls text : String} {names : List String} {nb : Nat} {A : Nat → Prop}
    (hcls : Bundle.fit cls = true) (hnames : ∀ n ∈ names, Bundle.fit n = true) (hsoe : (cls == "java/lang/StackOverflowError") = false) (hoom : (cls == "java/lang/OutOfMemoryError") = false)
    (hat : ∀ w ∈ vx_atM cls names, w.before args s = true) (hgood : ∀ w ∈ vx_atM cls names, vx_ot w = true)
    (hU : vx_Zq Bundle.tN "UNASSIGNED_STACK" Bundle.steD A s s.heap) (hN : vx_Zq Bundle.tN "SUPPRESSED_SENTINEL" Bundle.listD A s s.heap) (hS : va_S A s.heap H locs) (hsize : ls.size = c.maxLocals)
    (htext : (text == notModelled) = false) (hnb : (stringBytes (stringToUtf16 text)).size ≤ nb) (hnb1 : nb ≤ 1000)
    (hRframes : names.length + 4 < R.frames) (hRlocals : (rest.map fun v => v.category).sum + 10240 ≤ R.locals) (hshort : 13 * names.length + 55 ≤ 10240) (hRcells : cells + 3 ≤ R.cells) (hRslots : slots + (nb + 10) ≤ R.slots) (hlocks : meth.locks = false)
    (k : ∀ (H1 : Heap) (q9 : Addr) (ce : Cell), H.size ≤ H1.size → (∀ q : Nat, q < H.size → H1[q]? = H[q]?) → va_S A s.heap H1 locs → H1[q9]? = some ce → ce.vm = .none → s.vm.findClass cls = some ce.cls → vx_W p l e R s m args below meth c H1 locs (cells + 3) (slots + (nb + 10)) Q (F0 m pc ls rest) q9) :
    vx_Note p l e R s m args below meth c H locs cells slots Q (F0 m pc ls rest) cls text := by
  intro T hT X
  have htr : e.platform.stackTraces = false := (show e.platform.stackTraces = l.stackTraces by rw [X.admits.platform]).trans hl
  have Y := vx_rebase X (R' := { frames := R.frames, locals := R.locals, cells := 3, slots := nb + 10 }) (Nat.le_refl _) (Nat.le_refl _) hRcells hRslots
  have hhp : ((T.setVm s.vm).setFrames (.invoking m args :: below)).heap = H := hT
  have hW0 : s.WarmedH ((T.setVm s.vm).setFrames (.invoking m args :: below)).vm := State.WarmedH.refl s
  have hat' : ∀ w ∈ vx_atM cls names, w.before args ((T.setVm s.vm).setFrames (.invoking m args :: below)) = true := fun w hw => vx_ot_at hW0 rfl (hgood w hw) (hat w hw)
  have hU' : vx_Zq Bundle.tN "UNASSIGNED_STACK" Bundle.steD A ((T.setVm s.vm).setFrames (.invoking m args :: below)) ((T.setVm s.vm).setFrames (.invoking m args :: below)).heap := by rw [hhp]; exact vx_Zq.moved hW0.alike (hU.kept hS.2.1)
  have hN' : vx_Zq Bundle.tN "SUPPRESSED_SENTINEL" Bundle.listD A ((T.setVm s.vm).setFrames (.invoking m args :: below)) ((T.setVm s.vm).setFrames (.invoking m args :: below)).heap := by rw [hhp]; exact vx_Zq.moved hW0.alike (hN.kept hS.2.1)
  obtain ⟨S, q, ce, st, Z, hce, hcl', hv⟩ := vx_vmAt Y hexec htr (cls := cls) (names := names) (text := text) hcls hnames hsoe hoom (vx_own hat' (vx_isRefq hU'.1) (vx_isRefq hN'.1) hU'.2.word hN'.2.word) (fun x hx => nomatch hx) htext
    (by rw [Launch.admits_arrayLengthLimit X.admits]; omega) (by rw [Launch.admits_maxHeapBytes X.admits]; simp only [componentBytes]; omega)
    (g := F0 m pc ls rest) rfl hsize hRframes (by show 2 * 0 + (rest.map fun v => v.category).sum + 10240 ≤ R.locals; omega) hshort (by show 0 + 3 ≤ 3; omega) (by show 0 + (_ + 4 + 6) ≤ nb + 10; omega) hlocks
  obtain ⟨f1, f2⟩ := vx_frame Z.same
  have f1' : H.size ≤ S.heap.size := by rw [← hT]; exact f1
  have f2' : ∀ q : Nat, q < H.size → S.heap[q]? = H[q]? := fun q hq => by
    rw [← hT]
    exact f2 q (by rw [← hT] at hq; exact hq) (fun z hz => nomatch hz)
  have X5 := vx_back9 X Y Z
  have X6 : Stand p l e R s m args below meth c S locs (cells + 3) (slots + (nb + 10)) := { X5 with same := X5.same.mono (by omega) (by omega) }
  obtain ⟨t, a1, b1⟩ := k S.heap q ce f1' f2' ⟨Nat.le_trans hS.1 f1', fun q h1 h2 => (f2' q (Nat.lt_of_lt_of_le h1 hS.1)).trans (hS.2.1 q h1 h2), hS.2.2⟩ hce hv hcl' S rfl X6
  exact ⟨t, st t a1, b1⟩
/-- from the machine's note that NullPointerException is thrown here -/
def vx_NoteN (p : Program) (l : Launch) (e : Env) (R : Room) (s : State) (m : MethodId) (args : Array Value) (below : List Frame) (meth : Method) (c : Code) (H : Heap) (locs : List Loc) (cells slots : Nat) (Q : State → Prop) (g : JFrame) : Prop :=
  ∀ T : State, T.heap = H → Stand p l e R s m args below meth c T locs cells slots → ∃ t, Steps p.tables e below ((T.setTop g).pushFrame (.throwNew "java/lang/NullPointerException" none none)) t ∧ Q t
theorem vx_npe {pc : Nat} {ls : Array Slot} {rest : List Value} {Q : State → Prop} (hexec : p.tables.exec = Jvm.exec) (hl : l.stackTraces = false) {nb : Nat} {A : Nat → Prop}
    (hat : ∀ w ∈ vx_atN nb, w.before args s = true) (hgood : ∀ w ∈ vx_atN nb, vx_ot w = true)
    (hU : vx_Zq Bundle.tN "UNASSIGNED_STACK" Bundle.steD A s s.heap) (hN : vx_Zq Bundle.tN "SUPPRESSED_SENTINEL" Bundle.listD A s s.heap) (hS : va_S A s.heap H locs) (hsize : ls.size = c.maxLocals)
    (hRframes : 7 < R.frames) (hRlocals : (rest.map fun v => v.category).sum + 10240 ≤ R.locals) (hRcells : cells + 1 ≤ R.cells) (hRslots : slots + nb ≤ R.slots) (hlocks : meth.locks = false)
    (k : ∀ (H1 : Heap) (q9 : Addr) (ce : Cell), H.size ≤ H1.size → (∀ q : Nat, q < H.size → H1[q]? = H[q]?) → va_S A s.heap H1 locs → H1[q9]? = some ce → ce.vm = .none → s.vm.findClass "java/lang/NullPointerException" = some ce.cls → vx_W p l e R s m args below meth c H1 locs (cells + 1) (slots + nb) Q (F0 m pc ls rest) q9) :
    vx_NoteN p l e R s m args below meth c H locs cells slots Q (F0 m pc ls rest) := by
  intro T hT X
  have htr : e.platform.stackTraces = false := (show e.platform.stackTraces = l.stackTraces by rw [X.admits.platform]).trans hl
  have Y := vx_rebase X (R' := { frames := R.frames, locals := R.locals, cells := 1, slots := nb }) (Nat.le_refl _) (Nat.le_refl _) hRcells hRslots
  have hhp : ((T.setVm s.vm).setFrames (.invoking m args :: below)).heap = H := hT
  have hW0 : s.WarmedH ((T.setVm s.vm).setFrames (.invoking m args :: below)).vm := State.WarmedH.refl s
  have hat' : ∀ w ∈ vx_atN nb, w.before args ((T.setVm s.vm).setFrames (.invoking m args :: below)) = true := fun w hw => vx_ot_at hW0 rfl (hgood w hw) (hat w hw)
  have hU' : vx_Zq Bundle.tN "UNASSIGNED_STACK" Bundle.steD A ((T.setVm s.vm).setFrames (.invoking m args :: below)) ((T.setVm s.vm).setFrames (.invoking m args :: below)).heap := by rw [hhp]; exact vx_Zq.moved hW0.alike (hU.kept hS.2.1)
  have hN' : vx_Zq Bundle.tN "SUPPRESSED_SENTINEL" Bundle.listD A ((T.setVm s.vm).setFrames (.invoking m args :: below)) ((T.setVm s.vm).setFrames (.invoking m args :: below)).heap := by rw [hhp]; exact vx_Zq.moved hW0.alike (hN.kept hS.2.1)
  obtain ⟨S, q, ce, st, Z, hce, hcl', hv⟩ := vx_npeAt Y hexec htr (n := nb) (vx_own hat' (vx_isRefq hU'.1) (vx_isRefq hN'.1) hU'.2.word hN'.2.word) (fun x hx => nomatch hx)
    (g := F0 m pc ls rest) rfl hsize hRframes (by show 2 * 0 + (rest.map fun v => v.category).sum + 10240 ≤ R.locals; omega) (by show 0 + 1 ≤ 1; omega) (by show 0 + nb ≤ nb; omega) hlocks
  obtain ⟨f1, f2⟩ := vx_frame Z.same
  have f1' : H.size ≤ S.heap.size := by rw [← hT]; exact f1
  have f2' : ∀ q : Nat, q < H.size → S.heap[q]? = H[q]? := fun q hq => by
    rw [← hT]
    exact f2 q (by rw [← hT] at hq; exact hq) (fun z hz => nomatch hz)
  have X5 := vx_back9 X Y Z
  have X6 : Stand p l e R s m args below meth c S locs (cells + 1) (slots + nb) := { X5 with same := X5.same.mono (by omega) (by omega) }
  obtain ⟨t, a1, b1⟩ := k S.heap q ce f1' f2' ⟨Nat.le_trans hS.1 f1', fun q h1 h2 => (f2' q (Nat.lt_of_lt_of_le h1 hS.1)).trans (hS.2.1 q h1 h2), hS.2.2⟩ hce hv hcl' S rfl X6
  exact ⟨t, st t a1, b1⟩
variable {Q : State → Prop} {cc : ByteArray} {pc : Nat} {ls : Array Slot} {rest : List Value}
theorem vx_idivZ (hexec : p.tables.exec = Jvm.exec) (hb : c.code = cc) {a b : Int32} (h0 : b = 0) (d : decode cc pc = .ok (.idiv, 1)) (k : vx_Note p l e R s m args below meth c H locs cells slots Q (F0 m pc ls rest) "java/lang/ArithmeticException" "/ by zero") :
    W p l e R s m args below meth c H locs cells slots Q (F0 m pc ls (.int b :: .int a :: rest)) := by
  intro T hT X
  obtain ⟨t, st, q⟩ := k T hT X
  exact ⟨t, X.idivZero hexec (g := F0 m pc ls (.int b :: .int a :: rest)) rfl (a := a) (rest := rest) (by rw [h0]) (by rw [hb]; exact d) t st, q⟩
theorem vx_iremZ (hexec : p.tables.exec = Jvm.exec) (hb : c.code = cc) {a b : Int32} (h0 : b = 0) (d : decode cc pc = .ok (.irem, 1)) (k : vx_Note p l e R s m args below meth c H locs cells slots Q (F0 m pc ls rest) "java/lang/ArithmeticException" "/ by zero") :
    W p l e R s m args below meth c H locs cells slots Q (F0 m pc ls (.int b :: .int a :: rest)) := by
  intro T hT X
  obtain ⟨t, st, q⟩ := k T hT X
  exact ⟨t, X.iremZero hexec (g := F0 m pc ls (.int b :: .int a :: rest)) rfl (a := a) (rest := rest) (by rw [h0]) (by rw [hb]; exact d) t st, q⟩
theorem vx_ldivZ (hexec : p.tables.exec = Jvm.exec) (hb : c.code = cc) {a b : Int64} (h0 : b = 0) (d : decode cc pc = .ok (.ldiv, 1)) (k : vx_Note p l e R s m args below meth c H locs cells slots Q (F0 m pc ls rest) "java/lang/ArithmeticException" "/ by zero") :
    W p l e R s m args below meth c H locs cells slots Q (F0 m pc ls (.long b :: .long a :: rest)) := by
  intro T hT X
  obtain ⟨t, st, q⟩ := k T hT X
  exact ⟨t, X.ldivZero hexec (g := F0 m pc ls (.long b :: .long a :: rest)) rfl (a := a) (rest := rest) (by rw [h0]) (by rw [hb]; exact d) t st, q⟩
theorem vx_lremZ (hexec : p.tables.exec = Jvm.exec) (hb : c.code = cc) {a b : Int64} (h0 : b = 0) (d : decode cc pc = .ok (.lrem, 1)) (k : vx_Note p l e R s m args below meth c H locs cells slots Q (F0 m pc ls rest) "java/lang/ArithmeticException" "/ by zero") :
    W p l e R s m args below meth c H locs cells slots Q (F0 m pc ls (.long b :: .long a :: rest)) := by
  intro T hT X
  obtain ⟨t, st, q⟩ := k T hT X
  exact ⟨t, X.lremZero hexec (g := F0 m pc ls (.long b :: .long a :: rest)) rfl (a := a) (rest := rest) (by rw [h0]) (by rw [hb]; exact d) t st, q⟩
theorem vx_ialdZ {D : va_G} {cl : List vw_C} {ws : va_W} {tys : List (ClassId × FieldType)} {a : Nat} (hexec : p.tables.exec = Jvm.exec) (hb : c.code = cc) (hK : va_K D cl tys s) (hP : va_P D cl ws H) (q0 t0 : Nat) {cA : ClassId} {n : Nat} {f : Nat → Int32} (ha : ws[q0]? = some (a, .inl (cA, n, .inl f))) (ht : tys[t0]? = some (cA, .int)) {i : Int32} (hout : ¬ vp_in i n) (hdg : decode cc pc = .ok (.iaload, 1))
    (k : ∀ tx : String, tx = (toString "Index " ++ toString i ++ toString " out of bounds for length " ++ toString n : String) → vx_Note p l e R s m args below meth c H locs cells slots Q (F0 m pc ls rest) "java/lang/ArrayIndexOutOfBoundsException" tx) : W p l e R s m args below meth c H locs cells slots Q (F0 m pc ls (.int i :: .ref a :: rest)) := by
  intro T hT X
  obtain ⟨t, st, q⟩ := k _ rfl T hT X
  refine ⟨t, ?_, q⟩
  have h1 := X.ialoadOut hexec (by rw [hT]; exact hP q0 _ ha) ((hK.2 t0 _ ht).1 n (fun j => .int (f j))) (j := i) (by show (i < 0 ∨ (arrV _ _ _).slots.size ≤ _); rw [arrV_size]; exact Classical.byContradiction hout) (g := F0 m pc ls (.int i :: .ref a :: rest)) rfl (rest := rest) rfl (by rw [hb]; exact hdg) t
  simp only [arrV_size] at h1
  exact h1 st
theorem vx_iastZ {D : va_G} {cl : List vw_C} {ws : va_W} {tys : List (ClassId × FieldType)} {a : Nat} (hexec : p.tables.exec = Jvm.exec) (hb : c.code = cc) (hK : va_K D cl tys s) (hP : va_P D cl ws H) (q0 t0 : Nat) {cA : ClassId} {n : Nat} {f : Nat → Int32} (ha : ws[q0]? = some (a, .inl (cA, n, .inl f))) (ht : tys[t0]? = some (cA, .int)) {i : Int32} {x : Int32} (hout : ¬ vp_in i n) (hdg : decode cc pc = .ok (.iastore, 1))
    (k : ∀ tx : String, tx = (toString "Index " ++ toString i ++ toString " out of bounds for length " ++ toString n : String) → vx_Note p l e R s m args below meth c H locs cells slots Q (F0 m pc ls rest) "java/lang/ArrayIndexOutOfBoundsException" tx) : W p l e R s m args below meth c H locs cells slots Q (F0 m pc ls (.int x :: .int i :: .ref a :: rest)) := by
  intro T hT X
  obtain ⟨t, st, q⟩ := k _ rfl T hT X
  refine ⟨t, ?_, q⟩
  have h1 := X.iastoreOut hexec (by rw [hT]; exact hP q0 _ ha) ((hK.2 t0 _ ht).1 n (fun j => .int (f j))) (j := i) (by show (i < 0 ∨ (arrV _ _ _).slots.size ≤ _); rw [arrV_size]; exact Classical.byContradiction hout) (g := F0 m pc ls (.int x :: .int i :: .ref a :: rest)) rfl (rest := rest) rfl (by rw [hb]; exact hdg) t
  simp only [arrV_size] at h1
  exact h1 st
theorem vx_baldZ {D : va_G} {cl : List vw_C} {ws : va_W} {tys : List (ClassId × FieldType)} {a : Nat} (hexec : p.tables.exec = Jvm.exec) (hb : c.code = cc) (hK : va_K D cl tys s) (hP : va_P D cl ws H) (q0 t0 : Nat) {cA : ClassId} {n : Nat} {f : Nat → Int32} (ha : ws[q0]? = some (a, .inl (cA, n, .inl f))) (ht : tys[t0]? = some (cA, .byte)) {i : Int32} (hout : ¬ vp_in i n) (hdg : decode cc pc = .ok (.baload, 1))
    (k : ∀ tx : String, tx = (toString "Index " ++ toString i ++ toString " out of bounds for length " ++ toString n : String) → vx_Note p l e R s m args below meth c H locs cells slots Q (F0 m pc ls rest) "java/lang/ArrayIndexOutOfBoundsException" tx) : W p l e R s m args below meth c H locs cells slots Q (F0 m pc ls (.int i :: .ref a :: rest)) := by
  intro T hT X
  obtain ⟨t, st, q⟩ := k _ rfl T hT X
  refine ⟨t, ?_, q⟩
  have h1 := X.baloadOut hexec (by rw [hT]; exact hP q0 _ ha) ((hK.2 t0 _ ht).1 n (fun j => .int (f j))) (j := i) (by show (i < 0 ∨ (arrV _ _ _).slots.size ≤ _); rw [arrV_size]; exact Classical.byContradiction hout) (g := F0 m pc ls (.int i :: .ref a :: rest)) rfl (rest := rest) rfl (by rw [hb]; exact hdg) t
  simp only [arrV_size] at h1
  exact h1 st
theorem vx_bastZ {D : va_G} {cl : List vw_C} {ws : va_W} {tys : List (ClassId × FieldType)} {a : Nat} (hexec : p.tables.exec = Jvm.exec) (hb : c.code = cc) (hK : va_K D cl tys s) (hP : va_P D cl ws H) (q0 t0 : Nat) {cA : ClassId} {n : Nat} {f : Nat → Int32} (ha : ws[q0]? = some (a, .inl (cA, n, .inl f))) (ht : tys[t0]? = some (cA, .byte)) {i : Int32} {x : Int32} (hout : ¬ vp_in i n) (hdg : decode cc pc = .ok (.bastore, 1))
    (k : ∀ tx : String, tx = (toString "Index " ++ toString i ++ toString " out of bounds for length " ++ toString n : String) → vx_Note p l e R s m args below meth c H locs cells slots Q (F0 m pc ls rest) "java/lang/ArrayIndexOutOfBoundsException" tx) : W p l e R s m args below meth c H locs cells slots Q (F0 m pc ls (.int x :: .int i :: .ref a :: rest)) := by
  intro T hT X
  obtain ⟨t, st, q⟩ := k _ rfl T hT X
  refine ⟨t, ?_, q⟩
  have h1 := X.bastoreOut hexec (by rw [hT]; exact hP q0 _ ha) ((hK.2 t0 _ ht).1 n (fun j => .int (f j))) (j := i) (by show (i < 0 ∨ (arrV _ _ _).slots.size ≤ _); rw [arrV_size]; exact Classical.byContradiction hout) (g := F0 m pc ls (.int x :: .int i :: .ref a :: rest)) rfl (rest := rest) rfl (by rw [hb]; exact hdg) t
  simp only [arrV_size] at h1
  exact h1 st
theorem vx_zaldZ {D : va_G} {cl : List vw_C} {ws : va_W} {tys : List (ClassId × FieldType)} {a : Nat} (hexec : p.tables.exec = Jvm.exec) (hb : c.code = cc) (hK : va_K D cl tys s) (hP : va_P D cl ws H) (q0 t0 : Nat) {cA : ClassId} {n : Nat} {f : Nat → Int32} (ha : ws[q0]? = some (a, .inl (cA, n, .inl f))) (ht : tys[t0]? = some (cA, .boolean)) {i : Int32} (hout : ¬ vp_in i n) (hdg : decode cc pc = .ok (.baload, 1))
    (k : ∀ tx : String, tx = (toString "Index " ++ toString i ++ toString " out of bounds for length " ++ toString n : String) → vx_Note p l e R s m args below meth c H locs cells slots Q (F0 m pc ls rest) "java/lang/ArrayIndexOutOfBoundsException" tx) : W p l e R s m args below meth c H locs cells slots Q (F0 m pc ls (.int i :: .ref a :: rest)) := by
  intro T hT X
  obtain ⟨t, st, q⟩ := k _ rfl T hT X
  refine ⟨t, ?_, q⟩
  have h1 := X.baloadOut hexec (by rw [hT]; exact hP q0 _ ha) ((hK.2 t0 _ ht).1 n (fun j => .int (f j))) (j := i) (by show (i < 0 ∨ (arrV _ _ _).slots.size ≤ _); rw [arrV_size]; exact Classical.byContradiction hout) (g := F0 m pc ls (.int i :: .ref a :: rest)) rfl (rest := rest) rfl (by rw [hb]; exact hdg) t
  simp only [arrV_size] at h1
  exact h1 st
theorem vx_zastZ {D : va_G} {cl : List vw_C} {ws : va_W} {tys : List (ClassId × FieldType)} {a : Nat} (hexec : p.tables.exec = Jvm.exec) (hb : c.code = cc) (hK : va_K D cl tys s) (hP : va_P D cl ws H) (q0 t0 : Nat) {cA : ClassId} {n : Nat} {f : Nat → Int32} (ha : ws[q0]? = some (a, .inl (cA, n, .inl f))) (ht : tys[t0]? = some (cA, .boolean)) {i : Int32} {x : Int32} (hout : ¬ vp_in i n) (hdg : decode cc pc = .ok (.bastore, 1))
    (k : ∀ tx : String, tx = (toString "Index " ++ toString i ++ toString " out of bounds for length " ++ toString n : String) → vx_Note p l e R s m args below meth c H locs cells slots Q (F0 m pc ls rest) "java/lang/ArrayIndexOutOfBoundsException" tx) : W p l e R s m args below meth c H locs cells slots Q (F0 m pc ls (.int x :: .int i :: .ref a :: rest)) := by
  intro T hT X
  obtain ⟨t, st, q⟩ := k _ rfl T hT X
  refine ⟨t, ?_, q⟩
  have h1 := X.bastoreOut hexec (by rw [hT]; exact hP q0 _ ha) ((hK.2 t0 _ ht).1 n (fun j => .int (f j))) (j := i) (by show (i < 0 ∨ (arrV _ _ _).slots.size ≤ _); rw [arrV_size]; exact Classical.byContradiction hout) (g := F0 m pc ls (.int x :: .int i :: .ref a :: rest)) rfl (rest := rest) rfl (by rw [hb]; exact hdg) t
  simp only [arrV_size] at h1
  exact h1 st
theorem vx_caldZ {D : va_G} {cl : List vw_C} {ws : va_W} {tys : List (ClassId × FieldType)} {a : Nat} (hexec : p.tables.exec = Jvm.exec) (hb : c.code = cc) (hK : va_K D cl tys s) (hP : va_P D cl ws H) (q0 t0 : Nat) {cA : ClassId} {n : Nat} {f : Nat → Int32} (ha : ws[q0]? = some (a, .inl (cA, n, .inl f))) (ht : tys[t0]? = some (cA, .char)) {i : Int32} (hout : ¬ vp_in i n) (hdg : decode cc pc = .ok (.caload, 1))
    (k : ∀ tx : String, tx = (toString "Index " ++ toString i ++ toString " out of bounds for length " ++ toString n : String) → vx_Note p l e R s m args below meth c H locs cells slots Q (F0 m pc ls rest) "java/lang/ArrayIndexOutOfBoundsException" tx) : W p l e R s m args below meth c H locs cells slots Q (F0 m pc ls (.int i :: .ref a :: rest)) := by
  intro T hT X
  obtain ⟨t, st, q⟩ := k _ rfl T hT X
  refine ⟨t, ?_, q⟩
  have h1 := X.caloadOut hexec (by rw [hT]; exact hP q0 _ ha) ((hK.2 t0 _ ht).1 n (fun j => .int (f j))) (j := i) (by show (i < 0 ∨ (arrV _ _ _).slots.size ≤ _); rw [arrV_size]; exact Classical.byContradiction hout) (g := F0 m pc ls (.int i :: .ref a :: rest)) rfl (rest := rest) rfl (by rw [hb]; exact hdg) t
  simp only [arrV_size] at h1
  exact h1 st
theorem vx_castZ {D : va_G} {cl : List vw_C} {ws : va_W} {tys : List (ClassId × FieldType)} {a : Nat} (hexec : p.tables.exec = Jvm.exec) (hb : c.code = cc) (hK : va_K D cl tys s) (hP : va_P D cl ws H) (q0 t0 : Nat) {cA : ClassId} {n : Nat} {f : Nat → Int32} (ha : ws[q0]? = some (a, .inl (cA, n, .inl f))) (ht : tys[t0]? = some (cA, .char)) {i : Int32} {x : Int32} (hout : ¬ vp_in i n) (hdg : decode cc pc = .ok (.castore, 1))
    (k : ∀ tx : String, tx = (toString "Index " ++ toString i ++ toString " out of bounds for length " ++ toString n : String) → vx_Note p l e R s m args below meth c H locs cells slots Q (F0 m pc ls rest) "java/lang/ArrayIndexOutOfBoundsException" tx) : W p l e R s m args below meth c H locs cells slots Q (F0 m pc ls (.int x :: .int i :: .ref a :: rest)) := by
  intro T hT X
  obtain ⟨t, st, q⟩ := k _ rfl T hT X
  refine ⟨t, ?_, q⟩
  have h1 := X.castoreOut hexec (by rw [hT]; exact hP q0 _ ha) ((hK.2 t0 _ ht).1 n (fun j => .int (f j))) (j := i) (by show (i < 0 ∨ (arrV _ _ _).slots.size ≤ _); rw [arrV_size]; exact Classical.byContradiction hout) (g := F0 m pc ls (.int x :: .int i :: .ref a :: rest)) rfl (rest := rest) rfl (by rw [hb]; exact hdg) t
  simp only [arrV_size] at h1
  exact h1 st
theorem vx_saldZ {D : va_G} {cl : List vw_C} {ws : va_W} {tys : List (ClassId × FieldType)} {a : Nat} (hexec : p.tables.exec = Jvm.exec) (hb : c.code = cc) (hK : va_K D cl tys s) (hP : va_P D cl ws H) (q0 t0 : Nat) {cA : ClassId} {n : Nat} {f : Nat → Int32} (ha : ws[q0]? = some (a, .inl (cA, n, .inl f))) (ht : tys[t0]? = some (cA, .short)) {i : Int32} (hout : ¬ vp_in i n) (hdg : decode cc pc = .ok (.saload, 1))
    (k : ∀ tx : String, tx = (toString "Index " ++ toString i ++ toString " out of bounds for length " ++ toString n : String) → vx_Note p l e R s m args below meth c H locs cells slots Q (F0 m pc ls rest) "java/lang/ArrayIndexOutOfBoundsException" tx) : W p l e R s m args below meth c H locs cells slots Q (F0 m pc ls (.int i :: .ref a :: rest)) := by
  intro T hT X
  obtain ⟨t, st, q⟩ := k _ rfl T hT X
  refine ⟨t, ?_, q⟩
  have h1 := X.saloadOut hexec (by rw [hT]; exact hP q0 _ ha) ((hK.2 t0 _ ht).1 n (fun j => .int (f j))) (j := i) (by show (i < 0 ∨ (arrV _ _ _).slots.size ≤ _); rw [arrV_size]; exact Classical.byContradiction hout) (g := F0 m pc ls (.int i :: .ref a :: rest)) rfl (rest := rest) rfl (by rw [hb]; exact hdg) t
  simp only [arrV_size] at h1
  exact h1 st
theorem vx_sastZ {D : va_G} {cl : List vw_C} {ws : va_W} {tys : List (ClassId × FieldType)} {a : Nat} (hexec : p.tables.exec = Jvm.exec) (hb : c.code = cc) (hK : va_K D cl tys s) (hP : va_P D cl ws H) (q0 t0 : Nat) {cA : ClassId} {n : Nat} {f : Nat → Int32} (ha : ws[q0]? = some (a, .inl (cA, n, .inl f))) (ht : tys[t0]? = some (cA, .short)) {i : Int32} {x : Int32} (hout : ¬ vp_in i n) (hdg : decode cc pc = .ok (.sastore, 1))
    (k : ∀ tx : String, tx = (toString "Index " ++ toString i ++ toString " out of bounds for length " ++ toString n : String) → vx_Note p l e R s m args below meth c H locs cells slots Q (F0 m pc ls rest) "java/lang/ArrayIndexOutOfBoundsException" tx) : W p l e R s m args below meth c H locs cells slots Q (F0 m pc ls (.int x :: .int i :: .ref a :: rest)) := by
  intro T hT X
  obtain ⟨t, st, q⟩ := k _ rfl T hT X
  refine ⟨t, ?_, q⟩
  have h1 := X.sastoreOut hexec (by rw [hT]; exact hP q0 _ ha) ((hK.2 t0 _ ht).1 n (fun j => .int (f j))) (j := i) (by show (i < 0 ∨ (arrV _ _ _).slots.size ≤ _); rw [arrV_size]; exact Classical.byContradiction hout) (g := F0 m pc ls (.int x :: .int i :: .ref a :: rest)) rfl (rest := rest) rfl (by rw [hb]; exact hdg) t
  simp only [arrV_size] at h1
  exact h1 st
theorem vx_laldZ {D : va_G} {cl : List vw_C} {ws : va_W} {tys : List (ClassId × FieldType)} {a : Nat} (hexec : p.tables.exec = Jvm.exec) (hb : c.code = cc) (hK : va_K D cl tys s) (hP : va_P D cl ws H) (q0 t0 : Nat) {cA : ClassId} {n : Nat} {f : Nat → Int64} (ha : ws[q0]? = some (a, .inl (cA, n, .inr (.inl f)))) (ht : tys[t0]? = some (cA, .long)) {i : Int32} (hout : ¬ vp_in i n) (hdg : decode cc pc = .ok (.laload, 1))
    (k : ∀ tx : String, tx = (toString "Index " ++ toString i ++ toString " out of bounds for length " ++ toString n : String) → vx_Note p l e R s m args below meth c H locs cells slots Q (F0 m pc ls rest) "java/lang/ArrayIndexOutOfBoundsException" tx) : W p l e R s m args below meth c H locs cells slots Q (F0 m pc ls (.int i :: .ref a :: rest)) := by
  intro T hT X
  obtain ⟨t, st, q⟩ := k _ rfl T hT X
  refine ⟨t, ?_, q⟩
  have h1 := X.laloadOut hexec (by rw [hT]; exact hP q0 _ ha) ((hK.2 t0 _ ht).1 n (fun j => .long (f j))) (j := i) (by show (i < 0 ∨ (arrV _ _ _).slots.size ≤ _); rw [arrV_size]; exact Classical.byContradiction hout) (g := F0 m pc ls (.int i :: .ref a :: rest)) rfl (rest := rest) rfl (by rw [hb]; exact hdg) t
  simp only [arrV_size] at h1
  exact h1 st
theorem vx_lastZ {D : va_G} {cl : List vw_C} {ws : va_W} {tys : List (ClassId × FieldType)} {a : Nat} (hexec : p.tables.exec = Jvm.exec) (hb : c.code = cc) (hK : va_K D cl tys s) (hP : va_P D cl ws H) (q0 t0 : Nat) {cA : ClassId} {n : Nat} {f : Nat → Int64} (ha : ws[q0]? = some (a, .inl (cA, n, .inr (.inl f)))) (ht : tys[t0]? = some (cA, .long)) {i : Int32} {x : Int64} (hout : ¬ vp_in i n) (hdg : decode cc pc = .ok (.lastore, 1))
    (k : ∀ tx : String, tx = (toString "Index " ++ toString i ++ toString " out of bounds for length " ++ toString n : String) → vx_Note p l e R s m args below meth c H locs cells slots Q (F0 m pc ls rest) "java/lang/ArrayIndexOutOfBoundsException" tx) : W p l e R s m args below meth c H locs cells slots Q (F0 m pc ls (.long x :: .int i :: .ref a :: rest)) := by
  intro T hT X
  obtain ⟨t, st, q⟩ := k _ rfl T hT X
  refine ⟨t, ?_, q⟩
  have h1 := X.lastoreOut hexec (by rw [hT]; exact hP q0 _ ha) ((hK.2 t0 _ ht).1 n (fun j => .long (f j))) (j := i) (by show (i < 0 ∨ (arrV _ _ _).slots.size ≤ _); rw [arrV_size]; exact Classical.byContradiction hout) (g := F0 m pc ls (.long x :: .int i :: .ref a :: rest)) rfl (rest := rest) rfl (by rw [hb]; exact hdg) t
  simp only [arrV_size] at h1
  exact h1 st
theorem vx_faldZ {D : va_G} {cl : List vw_C} {ws : va_W} {tys : List (ClassId × FieldType)} {a : Nat} (hexec : p.tables.exec = Jvm.exec) (hb : c.code = cc) (hK : va_K D cl tys s) (hP : va_P D cl ws H) (q0 t0 : Nat) {cA : ClassId} {n : Nat} {f : Nat → UInt32} (ha : ws[q0]? = some (a, .inl (cA, n, .inr (.inr (.inl f))))) (ht : tys[t0]? = some (cA, .float)) {i : Int32} (hout : ¬ vp_in i n) (hdg : decode cc pc = .ok (.faload, 1))
    (k : ∀ tx : String, tx = (toString "Index " ++ toString i ++ toString " out of bounds for length " ++ toString n : String) → vx_Note p l e R s m args below meth c H locs cells slots Q (F0 m pc ls rest) "java/lang/ArrayIndexOutOfBoundsException" tx) : W p l e R s m args below meth c H locs cells slots Q (F0 m pc ls (.int i :: .ref a :: rest)) := by
  intro T hT X
  obtain ⟨t, st, q⟩ := k _ rfl T hT X
  refine ⟨t, ?_, q⟩
  have h1 := X.faloadOut hexec (by rw [hT]; exact hP q0 _ ha) ((hK.2 t0 _ ht).1 n (fun j => .float (f j))) (j := i) (by show (i < 0 ∨ (arrV _ _ _).slots.size ≤ _); rw [arrV_size]; exact Classical.byContradiction hout) (g := F0 m pc ls (.int i :: .ref a :: rest)) rfl (rest := rest) rfl (by rw [hb]; exact hdg) t
  simp only [arrV_size] at h1
  exact h1 st
theorem vx_fastZ {D : va_G} {cl : List vw_C} {ws : va_W} {tys : List (ClassId × FieldType)} {a : Nat} (hexec : p.tables.exec = Jvm.exec) (hb : c.code = cc) (hK : va_K D cl tys s) (hP : va_P D cl ws H) (q0 t0 : Nat) {cA : ClassId} {n : Nat} {f : Nat → UInt32} (ha : ws[q0]? = some (a, .inl (cA, n, .inr (.inr (.inl f))))) (ht : tys[t0]? = some (cA, .float)) {i : Int32} {x : UInt32} (hout : ¬ vp_in i n) (hdg : decode cc pc = .ok (.fastore, 1))
    (k : ∀ tx : String, tx = (toString "Index " ++ toString i ++ toString " out of bounds for length " ++ toString n : String) → vx_Note p l e R s m args below meth c H locs cells slots Q (F0 m pc ls rest) "java/lang/ArrayIndexOutOfBoundsException" tx) : W p l e R s m args below meth c H locs cells slots Q (F0 m pc ls (.float x :: .int i :: .ref a :: rest)) := by
  intro T hT X
  obtain ⟨t, st, q⟩ := k _ rfl T hT X
  refine ⟨t, ?_, q⟩
  have h1 := X.fastoreOut hexec (by rw [hT]; exact hP q0 _ ha) ((hK.2 t0 _ ht).1 n (fun j => .float (f j))) (j := i) (by show (i < 0 ∨ (arrV _ _ _).slots.size ≤ _); rw [arrV_size]; exact Classical.byContradiction hout) (g := F0 m pc ls (.float x :: .int i :: .ref a :: rest)) rfl (rest := rest) rfl (by rw [hb]; exact hdg) t
  simp only [arrV_size] at h1
  exact h1 st
theorem vx_daldZ {D : va_G} {cl : List vw_C} {ws : va_W} {tys : List (ClassId × FieldType)} {a : Nat} (hexec : p.tables.exec = Jvm.exec) (hb : c.code = cc) (hK : va_K D cl tys s) (hP : va_P D cl ws H) (q0 t0 : Nat) {cA : ClassId} {n : Nat} {f : Nat → UInt64} (ha : ws[q0]? = some (a, .inl (cA, n, .inr (.inr (.inr (.inl f)))))) (ht : tys[t0]? = some (cA, .double)) {i : Int32} (hout : ¬ vp_in i n) (hdg : decode cc pc = .ok (.daload, 1))
    (k : ∀ tx : String, tx = (toString "Index " ++ toString i ++ toString " out of bounds for length " ++ toString n : String) → vx_Note p l e R s m args below meth c H locs cells slots Q (F0 m pc ls rest) "java/lang/ArrayIndexOutOfBoundsException" tx) : W p l e R s m args below meth c H locs cells slots Q (F0 m pc ls (.int i :: .ref a :: rest)) := by
  intro T hT X
  obtain ⟨t, st, q⟩ := k _ rfl T hT X
  refine ⟨t, ?_, q⟩
  have h1 := X.daloadOut hexec (by rw [hT]; exact hP q0 _ ha) ((hK.2 t0 _ ht).1 n (fun j => .double (f j))) (j := i) (by show (i < 0 ∨ (arrV _ _ _).slots.size ≤ _); rw [arrV_size]; exact Classical.byContradiction hout) (g := F0 m pc ls (.int i :: .ref a :: rest)) rfl (rest := rest) rfl (by rw [hb]; exact hdg) t
  simp only [arrV_size] at h1
  exact h1 st
theorem vx_dastZ {D : va_G} {cl : List vw_C} {ws : va_W} {tys : List (ClassId × FieldType)} {a : Nat} (hexec : p.tables.exec = Jvm.exec) (hb : c.code = cc) (hK : va_K D cl tys s) (hP : va_P D cl ws H) (q0 t0 : Nat) {cA : ClassId} {n : Nat} {f : Nat → UInt64} (ha : ws[q0]? = some (a, .inl (cA, n, .inr (.inr (.inr (.inl f)))))) (ht : tys[t0]? = some (cA, .double)) {i : Int32} {x : UInt64} (hout : ¬ vp_in i n) (hdg : decode cc pc = .ok (.dastore, 1))
    (k : ∀ tx : String, tx = (toString "Index " ++ toString i ++ toString " out of bounds for length " ++ toString n : String) → vx_Note p l e R s m args below meth c H locs cells slots Q (F0 m pc ls rest) "java/lang/ArrayIndexOutOfBoundsException" tx) : W p l e R s m args below meth c H locs cells slots Q (F0 m pc ls (.double x :: .int i :: .ref a :: rest)) := by
  intro T hT X
  obtain ⟨t, st, q⟩ := k _ rfl T hT X
  refine ⟨t, ?_, q⟩
  have h1 := X.dastoreOut hexec (by rw [hT]; exact hP q0 _ ha) ((hK.2 t0 _ ht).1 n (fun j => .double (f j))) (j := i) (by show (i < 0 ∨ (arrV _ _ _).slots.size ≤ _); rw [arrV_size]; exact Classical.byContradiction hout) (g := F0 m pc ls (.double x :: .int i :: .ref a :: rest)) rfl (rest := rest) rfl (by rw [hb]; exact hdg) t
  simp only [arrV_size] at h1
  exact h1 st
theorem vx_arraylengthN (hexec : p.tables.exec = Jvm.exec) (hb : c.code = cc) (hdg : decode cc pc = .ok (.arraylength, 1)) (k : vx_NoteN p l e R s m args below meth c H locs cells slots Q (F0 m pc ls rest)) : W p l e R s m args below meth c H locs cells slots Q (F0 m pc ls (.null :: rest)) := by
  intro T hT X
  obtain ⟨t, st, q⟩ := k T hT X
  exact ⟨t, X.arraylengthNull hexec (g := F0 m pc ls (.null :: rest)) rfl (rest := rest) rfl (by rw [hb]; exact hdg) t st, q⟩
theorem vx_ialoadN (hexec : p.tables.exec = Jvm.exec) (hb : c.code = cc) {i : Int32} (hdg : decode cc pc = .ok (.iaload, 1)) (k : vx_NoteN p l e R s m args below meth c H locs cells slots Q (F0 m pc ls rest)) : W p l e R s m args below meth c H locs cells slots Q (F0 m pc ls (.int i :: .null :: rest)) := by
  intro T hT X
  obtain ⟨t, st, q⟩ := k T hT X
  exact ⟨t, X.ialoadNull hexec (g := F0 m pc ls (.int i :: .null :: rest)) rfl (rest := rest) rfl (by rw [hb]; exact hdg) t st, q⟩
theorem vx_laloadN (hexec : p.tables.exec = Jvm.exec) (hb : c.code = cc) {i : Int32} (hdg : decode cc pc = .ok (.laload, 1)) (k : vx_NoteN p l e R s m args below meth c H locs cells slots Q (F0 m pc ls rest)) : W p l e R s m args below meth c H locs cells slots Q (F0 m pc ls (.int i :: .null :: rest)) := by
  intro T hT X
  obtain ⟨t, st, q⟩ := k T hT X
  exact ⟨t, X.laloadNull hexec (g := F0 m pc ls (.int i :: .null :: rest)) rfl (rest := rest) rfl (by rw [hb]; exact hdg) t st, q⟩
theorem vx_faloadN (hexec : p.tables.exec = Jvm.exec) (hb : c.code = cc) {i : Int32} (hdg : decode cc pc = .ok (.faload, 1)) (k : vx_NoteN p l e R s m args below meth c H locs cells slots Q (F0 m pc ls rest)) : W p l e R s m args below meth c H locs cells slots Q (F0 m pc ls (.int i :: .null :: rest)) := by
  intro T hT X
  obtain ⟨t, st, q⟩ := k T hT X
  exact ⟨t, X.faloadNull hexec (g := F0 m pc ls (.int i :: .null :: rest)) rfl (rest := rest) rfl (by rw [hb]; exact hdg) t st, q⟩
theorem vx_daloadN (hexec : p.tables.exec = Jvm.exec) (hb : c.code = cc) {i : Int32} (hdg : decode cc pc = .ok (.daload, 1)) (k : vx_NoteN p l e R s m args below meth c H locs cells slots Q (F0 m pc ls rest)) : W p l e R s m args below meth c H locs cells slots Q (F0 m pc ls (.int i :: .null :: rest)) := by
  intro T hT X
  obtain ⟨t, st, q⟩ := k T hT X
  exact ⟨t, X.daloadNull hexec (g := F0 m pc ls (.int i :: .null :: rest)) rfl (rest := rest) rfl (by rw [hb]; exact hdg) t st, q⟩
theorem vx_aaloadN (hexec : p.tables.exec = Jvm.exec) (hb : c.code = cc) {i : Int32} (hdg : decode cc pc = .ok (.aaload, 1)) (k : vx_NoteN p l e R s m args below meth c H locs cells slots Q (F0 m pc ls rest)) : W p l e R s m args below meth c H locs cells slots Q (F0 m pc ls (.int i :: .null :: rest)) := by
  intro T hT X
  obtain ⟨t, st, q⟩ := k T hT X
  exact ⟨t, X.aaloadNull hexec (g := F0 m pc ls (.int i :: .null :: rest)) rfl (rest := rest) rfl (by rw [hb]; exact hdg) t st, q⟩
theorem vx_baloadN (hexec : p.tables.exec = Jvm.exec) (hb : c.code = cc) {i : Int32} (hdg : decode cc pc = .ok (.baload, 1)) (k : vx_NoteN p l e R s m args below meth c H locs cells slots Q (F0 m pc ls rest)) : W p l e R s m args below meth c H locs cells slots Q (F0 m pc ls (.int i :: .null :: rest)) := by
  intro T hT X
  obtain ⟨t, st, q⟩ := k T hT X
  exact ⟨t, X.baloadNull hexec (g := F0 m pc ls (.int i :: .null :: rest)) rfl (rest := rest) rfl (by rw [hb]; exact hdg) t st, q⟩
theorem vx_caloadN (hexec : p.tables.exec = Jvm.exec) (hb : c.code = cc) {i : Int32} (hdg : decode cc pc = .ok (.caload, 1)) (k : vx_NoteN p l e R s m args below meth c H locs cells slots Q (F0 m pc ls rest)) : W p l e R s m args below meth c H locs cells slots Q (F0 m pc ls (.int i :: .null :: rest)) := by
  intro T hT X
  obtain ⟨t, st, q⟩ := k T hT X
  exact ⟨t, X.caloadNull hexec (g := F0 m pc ls (.int i :: .null :: rest)) rfl (rest := rest) rfl (by rw [hb]; exact hdg) t st, q⟩
theorem vx_saloadN (hexec : p.tables.exec = Jvm.exec) (hb : c.code = cc) {i : Int32} (hdg : decode cc pc = .ok (.saload, 1)) (k : vx_NoteN p l e R s m args below meth c H locs cells slots Q (F0 m pc ls rest)) : W p l e R s m args below meth c H locs cells slots Q (F0 m pc ls (.int i :: .null :: rest)) := by
  intro T hT X
  obtain ⟨t, st, q⟩ := k T hT X
  exact ⟨t, X.saloadNull hexec (g := F0 m pc ls (.int i :: .null :: rest)) rfl (rest := rest) rfl (by rw [hb]; exact hdg) t st, q⟩
theorem vx_iastoreN (hexec : p.tables.exec = Jvm.exec) (hb : c.code = cc) {x : Int32} {i : Int32} (hdg : decode cc pc = .ok (.iastore, 1)) (k : vx_NoteN p l e R s m args below meth c H locs cells slots Q (F0 m pc ls rest)) : W p l e R s m args below meth c H locs cells slots Q (F0 m pc ls (.int x :: .int i :: .null :: rest)) := by
  intro T hT X
  obtain ⟨t, st, q⟩ := k T hT X
  exact ⟨t, X.iastoreNull hexec (g := F0 m pc ls (.int x :: .int i :: .null :: rest)) rfl (rest := rest) rfl (by rw [hb]; exact hdg) t st, q⟩
theorem vx_lastoreN (hexec : p.tables.exec = Jvm.exec) (hb : c.code = cc) {x : Int64} {i : Int32} (hdg : decode cc pc = .ok (.lastore, 1)) (k : vx_NoteN p l e R s m args below meth c H locs cells slots Q (F0 m pc ls rest)) : W p l e R s m args below meth c H locs cells slots Q (F0 m pc ls (.long x :: .int i :: .null :: rest)) := by
  intro T hT X
  obtain ⟨t, st, q⟩ := k T hT X
  exact ⟨t, X.lastoreNull hexec (g := F0 m pc ls (.long x :: .int i :: .null :: rest)) rfl (rest := rest) rfl (by rw [hb]; exact hdg) t st, q⟩
theorem vx_fastoreN (hexec : p.tables.exec = Jvm.exec) (hb : c.code = cc) {x : UInt32} {i : Int32} (hdg : decode cc pc = .ok (.fastore, 1)) (k : vx_NoteN p l e R s m args below meth c H locs cells slots Q (F0 m pc ls rest)) : W p l e R s m args below meth c H locs cells slots Q (F0 m pc ls (.float x :: .int i :: .null :: rest)) := by
  intro T hT X
  obtain ⟨t, st, q⟩ := k T hT X
  exact ⟨t, X.fastoreNull hexec (g := F0 m pc ls (.float x :: .int i :: .null :: rest)) rfl (rest := rest) rfl (by rw [hb]; exact hdg) t st, q⟩
theorem vx_dastoreN (hexec : p.tables.exec = Jvm.exec) (hb : c.code = cc) {x : UInt64} {i : Int32} (hdg : decode cc pc = .ok (.dastore, 1)) (k : vx_NoteN p l e R s m args below meth c H locs cells slots Q (F0 m pc ls rest)) : W p l e R s m args below meth c H locs cells slots Q (F0 m pc ls (.double x :: .int i :: .null :: rest)) := by
  intro T hT X
  obtain ⟨t, st, q⟩ := k T hT X
  exact ⟨t, X.dastoreNull hexec (g := F0 m pc ls (.double x :: .int i :: .null :: rest)) rfl (rest := rest) rfl (by rw [hb]; exact hdg) t st, q⟩
theorem vx_bastoreN (hexec : p.tables.exec = Jvm.exec) (hb : c.code = cc) {x : Int32} {i : Int32} (hdg : decode cc pc = .ok (.bastore, 1)) (k : vx_NoteN p l e R s m args below meth c H locs cells slots Q (F0 m pc ls rest)) : W p l e R s m args below meth c H locs cells slots Q (F0 m pc ls (.int x :: .int i :: .null :: rest)) := by
  intro T hT X
  obtain ⟨t, st, q⟩ := k T hT X
  exact ⟨t, X.bastoreNull hexec (g := F0 m pc ls (.int x :: .int i :: .null :: rest)) rfl (rest := rest) rfl (by rw [hb]; exact hdg) t st, q⟩
theorem vx_castoreN (hexec : p.tables.exec = Jvm.exec) (hb : c.code = cc) {x : Int32} {i : Int32} (hdg : decode cc pc = .ok (.castore, 1)) (k : vx_NoteN p l e R s m args below meth c H locs cells slots Q (F0 m pc ls rest)) : W p l e R s m args below meth c H locs cells slots Q (F0 m pc ls (.int x :: .int i :: .null :: rest)) := by
  intro T hT X
  obtain ⟨t, st, q⟩ := k T hT X
  exact ⟨t, X.castoreNull hexec (g := F0 m pc ls (.int x :: .int i :: .null :: rest)) rfl (rest := rest) rfl (by rw [hb]; exact hdg) t st, q⟩
theorem vx_sastoreN (hexec : p.tables.exec = Jvm.exec) (hb : c.code = cc) {x : Int32} {i : Int32} (hdg : decode cc pc = .ok (.sastore, 1)) (k : vx_NoteN p l e R s m args below meth c H locs cells slots Q (F0 m pc ls rest)) : W p l e R s m args below meth c H locs cells slots Q (F0 m pc ls (.int x :: .int i :: .null :: rest)) := by
  intro T hT X
  obtain ⟨t, st, q⟩ := k T hT X
  exact ⟨t, X.sastoreNull hexec (g := F0 m pc ls (.int x :: .int i :: .null :: rest)) rfl (rest := rest) rfl (by rw [hb]; exact hdg) t st, q⟩
theorem vx_invokeN {own C : String} {index maxL : Nat} {y : MethodName} {bytes : ByteArray} {ret : Option FieldType} (hexec : p.tables.exec = Jvm.exec) (hb : c.code = cc) (hown : s.vm.findClass own = some m.cls) (hlink : (Cond.methodLink own index y).before args s = true) (hinst : (Cond.instanceMethod y).before args s = true) (hcode : (Cond.code y bytes maxL ret).before args s = true) (hsel : (Cond.selects C y y).before args s = true)
    (hx : y.cls ≠ "java/lang/invoke/MethodHandle" ∧ y.cls ≠ "java/lang/invoke/VarHandle") {As : List Value} (hlen : (parseMethodDescriptor y.desc).map (fun d => d.parameters.length) = some As.length) (hdg : decode cc pc = .ok (.invokevirtual index, 3))
    (k : vx_NoteN p l e R s m args below meth c H locs cells slots Q (F0 m pc ls rest)) {st0 : List Value} (hst : st0 = As.reverse ++ .null :: rest) : W p l e R s m args below meth c H locs cells slots Q (F0 m pc ls st0) := by
  intro T hT X
  obtain ⟨r0, r, hn, hrm, hstR, hsigR⟩ := va_Decl.of hinst hcode
  obtain ⟨c2, r2, m2, q1, q2, q3, q4, kP, hkP, hkPi⟩ := Cond.selects_spec hsel
  cases hn.symm.trans q3
  have hl9 : As.length = r.sig.parameters.length := by
    rw [hsigR] at hlen
    exact (Option.some.inj hlen).symm
  obtain ⟨vm', X1, st1⟩ := X.invokevirtualNull hexec hown hlink hn hrm hstR hkP hkPi hx (g := F0 m pc ls st0) rfl (argsL := As) (rest := rest) hl9 hst (by rw [hb]; exact hdg)
  obtain ⟨t, st, q⟩ := k (T.setVm vm') hT X1
  exact ⟨t, st1 t st, q⟩
theorem vx_newarrayZ {atype : ArrayType} (hexec : p.tables.exec = Jvm.exec) (hb : c.code = cc) {n : Int32} (h0 : n < 0) (hdg : decode cc pc = .ok (.newarray atype, 2)) (k : ∀ tx : String, tx = toString n → vx_Note p l e R s m args below meth c H locs cells slots Q (F0 m pc ls rest) "java/lang/NegativeArraySizeException" tx) : W p l e R s m args below meth c H locs cells slots Q (F0 m pc ls (.int n :: rest)) := by
  intro T hT X
  obtain ⟨t, st, q⟩ := k _ rfl T hT X
  exact ⟨t, X.newarrayNegative hexec (g := F0 m pc ls (.int n :: rest)) rfl h0 (rest := rest) rfl (by rw [hb]; exact hdg) t st, q⟩
end
end VXM
/-! ===== END ===== -/
/-! ===== BEGIN an exception as an object: made, kept, thrown later (no traces kept) ===== -/
section VXK
variable {p : Program} {l : Launch} {e : Env} {R : Room} {s : State} {m₀ : MethodId} {args : Array Value} {below : List Frame} {meth : Method} {c : Code} {W : State} {locs : List Loc} {cells slots : Nat}
set_option maxHeartbeats 1000000 in
theorem vx_ctorMadeS (X : Stand p l e R s m₀ args below meth c W locs cells slots) (hexec : p.tables.exec = Jvm.exec) (htr : e.platform.stackTraces = false) {own cls : String} {names : List String} {ic : Nat}
    (hown : s.vm.findClass own = some m₀.cls) (hcls : Bundle.fit cls = true) (hnames : ∀ n ∈ names, Bundle.fit n = true)
    (h : ∀ a ∈ Bundle.ownAtoms own ic cls names, a.before args s = true)
    (hlocs : ∀ x ∈ locs, ∀ cell, s.heap[x.base]? = some cell → cell.vm.isStatics = false)
    {a : Addr} {cX : ClassId} {kX : Class} (hfoundX : s.vm.findClass cls = some cX) (hkX : s.vm.classes[cX]? = some kX) (hcell : W.heap[a]? = some (freshCell cX kX)) (hnew : s.heap.size ≤ a)
    {msg : Value} (hmsg : msg.isRef = true)
    {g : JFrame} (hg : g.method = m₀) (hsize : g.locals.size = c.maxLocals) {rest : List Value} (hstack : g.stack = msg :: .ref a :: .ref a :: rest)
    (hd6 : decode c.code g.pc = .ok (.invokespecial ic, 3))
    (hRframes : names.length + 3 < R.frames) (hRlocals : 2 * g.monitorRoom + ((Value.ref a :: rest).map fun v => v.category).sum + (13 * (names.length + 1) + 42) ≤ R.locals) :
    ∃ (V : State) (ce : Cell) (L : List Loc), Stand p l e R s m₀ args below meth c (V.setCell a ce) (locs ++ L) cells slots ∧ (∀ y ∈ L, y.base = a) ∧ a < V.heap.size ∧ ce.cls = cX ∧ ce.vm = .none ∧
      ∀ target, Steps p.tables e below ((V.setCell a ce).setTop { g with stack := .ref a :: rest, pc := g.pc + 3 }) target → Steps p.tables e below (W.setTop g) target := by
  have howns : e.platform.frameOwnsMonitors = true := by rw [X.admits.platform]
  have hfin : e.platform.finalization = false := by rw [X.admits.platform]
  have hpl : e.platform.magicAccessors = ({} : Platform).magicAccessors := by rw [X.admits.platform]
  have a' : ∀ x, x ∈ Bundle.ownAtoms own ic cls names → x.holds args s none s [] = true := fun x hx => h x hx
  obtain ⟨T, Z0, L, -, Y⟩ := ThrowableC.of_atoms (args := args) howns hfin hpl (fun x hx => h x (by simp [Bundle.ownAtoms, hx]))
  obtain ⟨Z, M, LZ, LM, hnZ⟩ := Init0T.ofS_atoms (args := args) hpl L Y (fun x hx => h x (by simp [Bundle.ownAtoms, hx]))
  obtain ⟨P1, Ps, hlen, L1, hL, hP1m, hlink1, hlink⟩ := Bundle.chainS (args := args) hpl hnZ names cls hcls hnames (fun x hx => h x (by simp [Bundle.ownAtoms, hx]))
  have hfound : s.vm.findClass cls = some P1.m.cls := findClass_of_methodNamed hP1m
  cases Option.some.inj (hfoundX.symm.trans hfound)
  obtain ⟨c1, kX', hc1, hk, hord, -, -, hn6⟩ := Cond.instantiable_spec (a' (.instantiable cls 6) (by simp [Bundle.ownAtoms]))
  cases Option.some.inj (hc1.symm.trans hfound)
  cases Option.some.inj (hkX.symm.trans hk)
  have hsel0 : selectMethod e.platform s.vm P1.m.cls T.fill0 = .method T.fill0 := by
    obtain ⟨c2, r2, m2, q1, q2, q3, q4, -⟩ := Cond.selects_spec (a' (.selects cls Bundle.tFill0 Bundle.tFill0) (by simp [Bundle.ownAtoms]))
    cases Option.some.inj (q1.symm.trans hfound)
    cases Option.some.inj (q2.symm.trans (State.methodFound?_of_named Y.fill0 (by decide)))
    cases Option.some.inj (q3.symm.trans Y.fill0)
    rw [Launch.admits_selectMethod X.admits]; exact q4
  have hselF : selectMethod e.platform s.vm P1.m.cls T.fill = .method T.fill := by
    obtain ⟨c2, r2, m2, q1, q2, q3, q4, -⟩ := Cond.selects_spec (a' (.selects cls Bundle.tFill Bundle.tFill) (by simp [Bundle.ownAtoms]))
    cases Option.some.inj (q1.symm.trans hfound)
    cases Option.some.inj (q2.symm.trans (State.methodFound?_of_named Y.fill (by decide)))
    cases Option.some.inj (q3.symm.trans Y.fill)
    rw [Launch.admits_selectMethod X.admits]; exact q4
  obtain ⟨cellS0, hcS0, hiss⟩ := Y.statics
  obtain ⟨u0, hu0⟩ := Cond.staticRefV Y.unassigned L.unassignedStatic L.statics hcS0 hiss (a' (.isRef (.static Bundle.tN "UNASSIGNED_STACK" Bundle.steD)) (by simp [Bundle.ownAtoms]))
  obtain ⟨sen, hsen⟩ := Cond.staticRefV Y.sentinel L.sentinelStatic L.statics hcS0 hiss (a' (.isRef (.static Bundle.tN "SUPPRESSED_SENTINEL" Bundle.listD)) (by simp [Bundle.ownAtoms]))
  obtain ⟨ci198, i198, fB, hk198, hg198, ha198, hsB, -, hnB, htB, hffB⟩ := Cond.ownField (t := .object "java/lang/Object") Y.found L.cls (by decide +kernel) (a' (.fieldLink Bundle.tN 198 Bundle.tN "backtrace" "Ljava/lang/Object;") (by simp [Bundle.ownAtoms])) (a' (.lays Bundle.tN Bundle.tN "backtrace" "Ljava/lang/Object;") (by simp [Bundle.ownAtoms])) e.platform hpl
  obtain ⟨cellS, hcS', heS, -, hkeep⟩ := X.same.2.2.2.2.2 T.aS cellS0 hcS0
  have hcellS : W.heap[T.aS]? = some cellS := hcS'
  have hout' : ∀ i, (⟨T.aS, i⟩ : Loc) ∉ locs := fun i hmem => by
    have := hlocs _ hmem cellS0 hcS0
    rw [hiss] at this; cases this
  have hknownS : cellS.vm ≠ .unknown := by
    rw [heS]; intro hu
    rw [show cellS0.vm = .unknown from hu] at hiss
    cases hiss
  have hneS : T.aS ≠ a := Nat.ne_of_lt (Nat.lt_of_lt_of_le (Array.getElem?_eq_some_iff.mp hcS0).1 hnew)
  obtain ⟨iM, hffM⟩ := Y.msg
  obtain ⟨tyC, dC, hdC, hdnC⟩ := Cond.laysAt hfound hk Y.cause (a' (.lays cls Bundle.tN "cause" "Ljava/lang/Throwable;") (by simp [Bundle.ownAtoms]))
  obtain ⟨tyS, dS, hdS, hdnS⟩ := Cond.laysAt hfound hk Y.stack (a' (.lays cls Bundle.tN "stackTrace" Bundle.steD) (by simp [Bundle.ownAtoms]))
  obtain ⟨tyP, dP, hdP, hdnP⟩ := Cond.laysAt hfound hk Y.supp (a' (.lays cls Bundle.tN "suppressedExceptions" Bundle.listD) (by simp [Bundle.ownAtoms]))
  obtain ⟨tyM, dM, hdM, hdnM⟩ := Cond.laysAt hfound hk hffM (a' (.lays cls Bundle.tN "detailMessage" "Ljava/lang/String;") (by simp [Bundle.ownAtoms]))
  obtain ⟨tyB, dB, hdB, hdnB⟩ := Cond.laysAt hfound hk hffB (a' (.lays cls Bundle.tN "backtrace" "Ljava/lang/Object;") (by simp [Bundle.ownAtoms]))
  have bC := Cond.laysApart hdB hdC hdnB hdnC (by rw [hnB, Y.causeName]; decide)
  have bS := Cond.laysApart hdB hdS hdnB hdnS (by rw [hnB, Y.stackName]; decide)
  have bP := Cond.laysApart hdB hdP hdnB hdnP (by rw [hnB, Y.suppName]; decide)
  have hskip : SkipFacts T e.platform s (fun u => u) u0 ((preparedCellV T.toThrowableT (freshCell P1.m.cls kX) a u0 sen).withEntry W.cur) :=
    ⟨{ ci198 := ci198, i198 := i198, fBack := fB }, ⟨hk198, hg198, ha198, hsB⟩, by
      have := fresh_default (c := P1.m.cls) tyB
      rw [htB] at this
      simpa [preparedCellV, Cell.setSlot, Cell.withEntry, Array.getElem?_setIfInBounds, bC, bS, bP, bC.symm, bS.symm, bP.symm, defaultValue] using this, fun _ _ => rfl⟩
  obtain ⟨tm, methC, cdC, kC, vm₁, hnC, -, -, -, -, -, -, -, hW₁, st1⟩ := Steps.initColdS (tb := p.tables) (e := e) (below := below) (s := s) (U := W) X.here hexec X.warmed hpl hown (t := Bundle.initS cls) rfl rfl (Bundle.fit_spec hcls).2
    (a' (.methodLink own ic (Bundle.initS cls)) (by simp [Bundle.ownAtoms])) (h (.instanceMethod (Bundle.initS cls)) (by cases names <;> simp [Bundle.ownAtoms, Bundle.chainSAtoms, Bundle.passSAtoms])) (bytes := Bundle.six) (maxL := 2) (h (.code (Bundle.initS cls) Bundle.six 2 none) (by cases names <;> simp [Bundle.ownAtoms, Bundle.chainSAtoms, Bundle.passSAtoms]))
    (f := g) hg (a := a) (msg := msg) (rest := .ref a :: rest) hstack hd6
  cases Option.some.inj (hnC.symm.trans hP1m)
  have X₁ := X.noted hW₁
  obtain ⟨vm₂, X₂, st2⟩ := X₁.ctorMessageOffV hexec (g := { g with stack := .ref a :: rest }) hg hsize T L Z LZ M LM (P1 :: Ps)
    (fun P hP => by rcases List.mem_cons.mp hP with rfl | hP; exact L1; exact hL P hP) ⟨hlink1, hlink⟩ (u0 := u0) (sen := sen) (self := a) hmsg (cell := freshCell P1.m.cls kX) (cellS := cellS)
    hcell (fun _ => by simp) (by simp) rfl rfl hsel0 hselF hcellS hneS hknownS (by rw [hkeep _ (hout' _)]; exact hu0) (by rw [hkeep _ (hout' _)]; exact hsen)
    (Takes.of_laid hk hord tyC (by rw [Y.causeType]; rfl)) (Takes.of_laid hk hord tyS (by rw [Y.stackType]; exact fits_refV_array _ u0)) (Takes.of_laid hk hord tyP (by rw [Y.suppType]; exact fits_refV_object _ sen))
    (Takes.of_laid hk hord tyM (by rw [Y.msgType]; exact fits_refV_object _ ⟨msg, hmsg⟩)) Y.objLocals hskip htr [] hd6
    (by simp only [List.length_cons, hlen]; omega) (by simp only [List.length_cons, hlen]; exact hRlocals)
  have hlt : a < ((W.setVm vm₁).setVm vm₂).heap.size := (Array.getElem?_eq_some_iff.mp hcell).1
  refine ⟨(W.setVm vm₁).setVm vm₂, _, _, X₂, fun y hy => ?_, hlt, rfl, rfl, fun target hwalk => st1 _ (fun acts => ?_)⟩
  · simp only [List.mem_cons, List.not_mem_nil, or_false] at hy
    rcases hy with rfl | rfl | rfl | rfl | rfl <;> rfl
  · rw [doInvoke_state]
    exact st2 _ hwalk
set_option maxHeartbeats 1000000 in
theorem vx_ctorMade0 (X : Stand p l e R s m₀ args below meth c W locs cells slots) (hexec : p.tables.exec = Jvm.exec) (htr : e.platform.stackTraces = false) {own cls : String} {names : List String} {ic : Nat}
    (hown : s.vm.findClass own = some m₀.cls) (hcls : Bundle.fit cls = true) (hnames : ∀ n ∈ names, Bundle.fit n = true)
    (h : ∀ a ∈ Bundle.ownAtoms0 own ic cls names, a.before args s = true)
    (hlocs : ∀ x ∈ locs, ∀ cell, s.heap[x.base]? = some cell → cell.vm.isStatics = false)
    {a : Addr} {cX : ClassId} {kX : Class} (hfoundX : s.vm.findClass cls = some cX) (hkX : s.vm.classes[cX]? = some kX) (hcell : W.heap[a]? = some (freshCell cX kX)) (hnew : s.heap.size ≤ a)
    {g : JFrame} (hg : g.method = m₀) (hsize : g.locals.size = c.maxLocals) {rest : List Value} (hstack : g.stack = .ref a :: .ref a :: rest)
    (hd6 : decode c.code g.pc = .ok (.invokespecial ic, 3))
    (hRframes : names.length + 3 < R.frames) (hRlocals : 2 * g.monitorRoom + ((Value.ref a :: rest).map fun v => v.category).sum + (13 * (names.length + 1) + 41) ≤ R.locals) :
    ∃ (V : State) (ce : Cell) (L : List Loc), Stand p l e R s m₀ args below meth c (V.setCell a ce) (locs ++ L) cells slots ∧ (∀ y ∈ L, y.base = a) ∧ a < V.heap.size ∧ ce.cls = cX ∧ ce.vm = .none ∧
      ∀ target, Steps p.tables e below ((V.setCell a ce).setTop { g with stack := .ref a :: rest, pc := g.pc + 3 }) target → Steps p.tables e below (W.setTop g) target := by
  have howns : e.platform.frameOwnsMonitors = true := by rw [X.admits.platform]
  have hfin : e.platform.finalization = false := by rw [X.admits.platform]
  have hpl : e.platform.magicAccessors = ({} : Platform).magicAccessors := by rw [X.admits.platform]
  have a' : ∀ x, x ∈ Bundle.ownAtoms0 own ic cls names → x.holds args s none s [] = true := fun x hx => h x hx
  obtain ⟨T, Z, L, LZ, Y⟩ := ThrowableC.of_atoms (args := args) howns hfin hpl (fun x hx => h x (by simp [Bundle.ownAtoms0, hx]))
  obtain ⟨P1, Ps, hlen, L1, hL, hP1m, hlink1, hlink⟩ := Bundle.chain0 (args := args) hpl Y.init0 names cls hcls hnames (fun x hx => h x (by simp [Bundle.ownAtoms0, hx]))
  have hfound : s.vm.findClass cls = some P1.m.cls := findClass_of_methodNamed hP1m
  cases Option.some.inj (hfoundX.symm.trans hfound)
  obtain ⟨c1, kX', hc1, hk, hord, -, -, hn6⟩ := Cond.instantiable_spec (a' (.instantiable cls 6) (by simp [Bundle.ownAtoms0]))
  cases Option.some.inj (hc1.symm.trans hfound)
  cases Option.some.inj (hkX.symm.trans hk)
  have hsel0 : selectMethod e.platform s.vm P1.m.cls T.fill0 = .method T.fill0 := by
    obtain ⟨c2, r2, m2, q1, q2, q3, q4, -⟩ := Cond.selects_spec (a' (.selects cls Bundle.tFill0 Bundle.tFill0) (by simp [Bundle.ownAtoms0]))
    cases Option.some.inj (q1.symm.trans hfound)
    cases Option.some.inj (q2.symm.trans (State.methodFound?_of_named Y.fill0 (by decide)))
    cases Option.some.inj (q3.symm.trans Y.fill0)
    rw [Launch.admits_selectMethod X.admits]; exact q4
  have hselF : selectMethod e.platform s.vm P1.m.cls T.fill = .method T.fill := by
    obtain ⟨c2, r2, m2, q1, q2, q3, q4, -⟩ := Cond.selects_spec (a' (.selects cls Bundle.tFill Bundle.tFill) (by simp [Bundle.ownAtoms0]))
    cases Option.some.inj (q1.symm.trans hfound)
    cases Option.some.inj (q2.symm.trans (State.methodFound?_of_named Y.fill (by decide)))
    cases Option.some.inj (q3.symm.trans Y.fill)
    rw [Launch.admits_selectMethod X.admits]; exact q4
  obtain ⟨cellS0, hcS0, hiss⟩ := Y.statics
  obtain ⟨u0, hu0⟩ := Cond.staticRefV Y.unassigned L.unassignedStatic L.statics hcS0 hiss (a' (.isRef (.static Bundle.tN "UNASSIGNED_STACK" Bundle.steD)) (by simp [Bundle.ownAtoms0]))
  obtain ⟨sen, hsen⟩ := Cond.staticRefV Y.sentinel L.sentinelStatic L.statics hcS0 hiss (a' (.isRef (.static Bundle.tN "SUPPRESSED_SENTINEL" Bundle.listD)) (by simp [Bundle.ownAtoms0]))
  obtain ⟨ci198, i198, fB, hk198, hg198, ha198, hsB, -, hnB, htB, hffB⟩ := Cond.ownField (t := .object "java/lang/Object") Y.found L.cls (by decide +kernel) (a' (.fieldLink Bundle.tN 198 Bundle.tN "backtrace" "Ljava/lang/Object;") (by simp [Bundle.ownAtoms0])) (a' (.lays Bundle.tN Bundle.tN "backtrace" "Ljava/lang/Object;") (by simp [Bundle.ownAtoms0])) e.platform hpl
  obtain ⟨cellS, hcS', heS, -, hkeep⟩ := X.same.2.2.2.2.2 T.aS cellS0 hcS0
  have hcellS : W.heap[T.aS]? = some cellS := hcS'
  have hout' : ∀ i, (⟨T.aS, i⟩ : Loc) ∉ locs := fun i hmem => by
    have := hlocs _ hmem cellS0 hcS0
    rw [hiss] at this; cases this
  have hknownS : cellS.vm ≠ .unknown := by
    rw [heS]; intro hu
    rw [show cellS0.vm = .unknown from hu] at hiss
    cases hiss
  have hneS : T.aS ≠ a := Nat.ne_of_lt (Nat.lt_of_lt_of_le (Array.getElem?_eq_some_iff.mp hcS0).1 hnew)
  obtain ⟨iM, hffM⟩ := Y.msg
  obtain ⟨tyC, dC, hdC, hdnC⟩ := Cond.laysAt hfound hk Y.cause (a' (.lays cls Bundle.tN "cause" "Ljava/lang/Throwable;") (by simp [Bundle.ownAtoms0]))
  obtain ⟨tyS, dS, hdS, hdnS⟩ := Cond.laysAt hfound hk Y.stack (a' (.lays cls Bundle.tN "stackTrace" Bundle.steD) (by simp [Bundle.ownAtoms0]))
  obtain ⟨tyP, dP, hdP, hdnP⟩ := Cond.laysAt hfound hk Y.supp (a' (.lays cls Bundle.tN "suppressedExceptions" Bundle.listD) (by simp [Bundle.ownAtoms0]))
  obtain ⟨tyM, dM, hdM, hdnM⟩ := Cond.laysAt hfound hk hffM (a' (.lays cls Bundle.tN "detailMessage" "Ljava/lang/String;") (by simp [Bundle.ownAtoms0]))
  obtain ⟨tyB, dB, hdB, hdnB⟩ := Cond.laysAt hfound hk hffB (a' (.lays cls Bundle.tN "backtrace" "Ljava/lang/Object;") (by simp [Bundle.ownAtoms0]))
  have bC := Cond.laysApart hdB hdC hdnB hdnC (by rw [hnB, Y.causeName]; decide)
  have bS := Cond.laysApart hdB hdS hdnB hdnS (by rw [hnB, Y.stackName]; decide)
  have bP := Cond.laysApart hdB hdP hdnB hdnP (by rw [hnB, Y.suppName]; decide)
  have hskip : SkipFacts T e.platform s (fun u => u) u0 ((preparedCellV T.toThrowableT (freshCell P1.m.cls kX) a u0 sen).withEntry W.cur) :=
    ⟨{ ci198 := ci198, i198 := i198, fBack := fB }, ⟨hk198, hg198, ha198, hsB⟩, by
      have := fresh_default (c := P1.m.cls) tyB
      rw [htB] at this
      simpa [preparedCellV, Cell.setSlot, Cell.withEntry, Array.getElem?_setIfInBounds, bC, bS, bP, bC.symm, bS.symm, bP.symm, defaultValue] using this, fun _ _ => rfl⟩
  obtain ⟨tm, methC, cdC, kC, vm₁, hnC, -, -, -, -, -, -, -, hW₁, st1⟩ := Steps.initCold (tb := p.tables) (e := e) (below := below) (s := s) (U := W) X.here hexec X.warmed hpl hown (t := Bundle.init0 cls) rfl rfl (Bundle.fit_spec hcls).2
    (a' (.methodLink own ic (Bundle.init0 cls)) (by simp [Bundle.ownAtoms0])) (h (.instanceMethod (Bundle.init0 cls)) (by cases names <;> simp [Bundle.ownAtoms0, Bundle.chain0Atoms, Bundle.passAtoms])) (bytes := Bundle.five) (maxL := 1) (h (.code (Bundle.init0 cls) Bundle.five 1 none) (by cases names <;> simp [Bundle.ownAtoms0, Bundle.chain0Atoms, Bundle.passAtoms]))
    (f := g) hg (a := a) (rest := .ref a :: rest) hstack hd6
  cases Option.some.inj (hnC.symm.trans hP1m)
  have X₁ := X.noted hW₁
  obtain ⟨vm₂, X₂, st2⟩ := X₁.ctorPlainOffV hexec (g := { g with stack := .ref a :: rest }) hg hsize T L Z LZ (P1 :: Ps)
    (fun P hP => by rcases List.mem_cons.mp hP with rfl | hP; exact L1; exact hL P hP) ⟨hlink1, hlink⟩ (u0 := u0) (sen := sen) (self := a) (cell := freshCell P1.m.cls kX) (cellS := cellS)
    hcell (fun _ => by simp) (by simp) rfl rfl hsel0 hselF hcellS hneS hknownS (by rw [hkeep _ (hout' _)]; exact hu0) (by rw [hkeep _ (hout' _)]; exact hsen)
    (Takes.of_laid hk hord tyC (by rw [Y.causeType]; rfl)) (Takes.of_laid hk hord tyS (by rw [Y.stackType]; exact fits_refV_array _ u0)) (Takes.of_laid hk hord tyP (by rw [Y.suppType]; exact fits_refV_object _ sen)) Y.objLocals hskip htr [] hd6
    (by simp only [List.length_cons, hlen]; omega) (by simp only [List.length_cons, hlen]; exact hRlocals)
  have hlt : a < ((W.setVm vm₁).setVm vm₂).heap.size := (Array.getElem?_eq_some_iff.mp hcell).1
  refine ⟨(W.setVm vm₁).setVm vm₂, _, _, X₂, fun y hy => ?_, hlt, rfl, rfl, fun target hwalk => st1 _ (fun acts => ?_)⟩
  · simp only [List.mem_cons, List.not_mem_nil, or_false] at hy
    rcases hy with rfl | rfl | rfl | rfl <;> rfl
  · rw [doInvoke_state]
    exact st2 _ hwalk
end VXK
section VXK2
variable {p : Program} {l : Launch} {e : Env} {R : Room} {s : State} {m : MethodId} {args : Array Value} {below : List Frame} {meth : Method} {c : Code} {H : Heap} {locs : List Loc} {cells slots : Nat} {Q : State → Prop}
variable {ls : Array Slot} {rest : List Value} {D : va_G} {cl : List vw_C} {tys : List (ClassId × FieldType)} {ws : va_W}
/-- 'new E("text")' that isn't thrown at once: the object goes on the stack -/
theorem vx_makeS {cc : ByteArray} {pc : Nat} (hexec : p.tables.exec = Jvm.exec) (hb : c.code = cc) (hl : l.stackTraces = false) {own cls text : String} {names : List String} {ik is ic sa ci : Nat} {A : Nat → Prop} {T0 : u_T}
    (hown : s.vm.findClass own = some m.cls) (hcls : Bundle.fit cls = true) (hnames : ∀ n ∈ names, Bundle.fit n = true)
    (hk : (Cond.classLink own ik cls).before args s = true) (hini : (Cond.initialized cls).before args s = true) (hstr : vk_R own is text sa s) (hat : ∀ w ∈ vx_atS own ic cls names, w.before args s = true)
    (hgood : ∀ w ∈ Cond.classLink own ik cls :: Cond.initialized cls :: vx_atS own ic cls names, vx_ot w = true)
    (hU : vx_Zq Bundle.tN "UNASSIGNED_STACK" Bundle.steD A s s.heap) (hN : vx_Zq Bundle.tN "SUPPRESSED_SENTINEL" Bundle.listD A s s.heap) (hS : va_S A s.heap H locs) (hsize : ls.size = c.maxLocals)
    (d0 : decode cc pc = .ok (.new ik, 3)) (d3 : decode cc (pc + 3) = .ok (.dup, 1)) (d4 : decode cc (pc + 4) = .ok (.ldc is, 2)) (d6 : decode cc (pc + 6) = .ok (.invokespecial ic, 3))
    (hK : va_K D cl tys s) (hP : va_P D cl ws H) (hD : va_D A ws) (hA : ∀ q, s.heap.size ≤ q → A q) (hc : cl[ci]? = some (cls, T0, 0))
    (hRframes : names.length + 3 < R.frames) (hRlocals : (rest.map fun v => v.category).sum + (13 * (names.length + 1) + 43) ≤ R.locals) (hRcells : cells + 1 ≤ R.cells) (hRslots : slots + 6 ≤ R.slots)
    (kk : ∀ (q : Nat) (H1 : Heap), va_P D cl (ws ++ [(q, .inr (ci, []))]) H1 → va_D A (ws ++ [(q, .inr (ci, []))]) → va_S A s.heap H1 locs → W p l e R s m args below meth c H1 locs (cells + 1) (slots + 6) Q (F0 m (pc + 9) ls (.ref q :: rest))) :
    W p l e R s m args below meth c H locs cells slots Q (F0 m pc ls rest) := by
  intro T hT X
  subst hT
  have htr : e.platform.stackTraces = false := (show e.platform.stackTraces = l.stackTraces by rw [X.admits.platform]).trans hl
  have Y := vx_rebase X (R' := { frames := R.frames, locals := R.locals, cells := 1, slots := 6 }) (Nat.le_refl _) (Nat.le_refl _) hRcells hRslots
  obtain ⟨s', hA'⟩ : ∃ z, z = (T.setVm s.vm).setFrames (.invoking m args :: below) := ⟨_, rfl⟩
  rw [← hA'] at Y
  have hvm : s'.vm = s.vm := by rw [hA']; rfl
  have hhp : s'.heap = T.heap := by rw [hA']; rfl
  have hW0 : s.WarmedH s'.vm := by rw [hvm]; exact State.WarmedH.refl s
  have hat' : ∀ w ∈ vx_atS own ic cls names, w.before args s' = true := fun w hw => vx_ot_at hW0 hvm.symm (hgood w (List.mem_cons_of_mem _ (List.mem_cons_of_mem _ hw))) (hat w hw)
  have hk' : (Cond.classLink own ik cls).before args s' = true := vx_ot_at hW0 hvm.symm (hgood _ List.mem_cons_self) hk
  have hini' : (Cond.initialized cls).before args s' = true := vx_ot_at hW0 hvm.symm (hgood _ (List.mem_cons_of_mem _ List.mem_cons_self)) hini
  have hU' : vx_Zq Bundle.tN "UNASSIGNED_STACK" Bundle.steD A s' s'.heap := by rw [hhp]; exact vx_Zq.moved hW0.alike (hU.kept hS.2.1)
  have hN' : vx_Zq Bundle.tN "SUPPRESSED_SENTINEL" Bundle.listD A s' s'.heap := by rw [hhp]; exact vx_Zq.moved hW0.alike (hN.kept hS.2.1)
  have h : ∀ w ∈ Bundle.ownAtoms own ic cls names, w.before args s' = true := vx_own hat' (vx_isRefq hU'.1) (vx_isRefq hN'.1) hU'.2.word hN'.2.word
  have hown' : s'.vm.findClass own = some m.cls := by rw [hvm]; exact hown
  have hins : (Cond.instantiable cls 6).before args s' = true := h _ (by simp [Bundle.ownAtoms])
  obtain ⟨vm₁, cX, kX, hfX, hkX, -, -, X₁, st1⟩ := Y.newCold hexec (own := own) (C := cls) (index := ik) (n := 6) hown' hk' hins hini'
    (g := F0 m pc ls rest) rfl (by rw [hb]; exact d0) (Nat.le_refl _) (Nat.le_refl _)
  generalize hT1 : (T.setVm vm₁).pushCell { cls := cX, slots := kX.instanceTypes.map defaultValue, vm := .none } = T1 at X₁ st1
  have hcat : (Value.ref T.heap.size).category = 1 := rfl
  have hcellA : T1.heap[T.heap.size]? = some (freshCell cX kX) := by rw [← hT1]; exact State.heap_pushCell_size _ _
  have d3' : decode c.code (pc + 3) = .ok (.dup, 1) := by rw [hb]; exact d3
  have d4' : decode c.code (pc + 4) = .ok (.ldc is, 2) := by rw [hb]; exact d4
  have hstr' : vk_R own is text sa s' := vk_R.warm hW0 hstr
  obtain ⟨V, ce, L, Z, hL, hlt, hcl9, hvm9, st⟩ := vx_ctorMadeS X₁ hexec htr (own := own) (cls := cls) (names := names) (ic := ic) hown' hcls hnames h (fun x hx => nomatch hx) hfX hkX hcellA (by rw [hhp]; exact Nat.le_refl _) (msg := .ref sa) rfl
    (g := { method := m, pc := pc + 6, locals := ls, stack := .ref sa :: .ref T.heap.size :: .ref T.heap.size :: rest, locked := none }) rfl hsize (rest := rest) rfl
    (by rw [hb]; exact d6) hRframes (by simp only [List.map_cons, List.sum_cons, hcat]; omega)
  have Z0 := Stand.forget (locs := []) Z (fun y hy => by rw [hL y hy, hhp]; exact Nat.le_refl _)
  obtain ⟨f1, f2⟩ := vx_frame Z0.same
  rw [hhp] at f1 f2
  have hcid : ce.cls = D.1 ci := by
    rw [hcl9]
    have h1 := (hK.1 ci _ hc).2.1
    rw [hvm] at hfX
    exact Option.some.inj (hfX.symm.trans h1)
  have hh : (V.setCell T.heap.size ce).heap[T.heap.size]? = some ce := heapAt_setCell_self (s := V) ce hlt
  subst hA'
  have X5 := vx_back9 X Y Z0
  have X6 : Stand p l e R s m args below meth c (V.setCell T.heap.size ce) locs (cells + 1) (slots + 6) := { X5 with same := X5.same.mono (by omega) (by omega) }
  have hk9 : ∀ (k : Nat) (x : Nat × va_E), ws[k]? = some x → (V.setCell T.heap.size ce).heap[x.1]? = T.heap[x.1]? := fun k x hx => f2 x.1 ((hP k x hx).lt) (fun z hz => nomatch hz)
  obtain ⟨t, a1, b1⟩ := kk T.heap.size (V.setCell T.heap.size ce).heap ((hP.kept hk9).app (fun k x hx => by
      have hz : k < 1 := (List.getElem?_eq_some_iff.mp hx).1
      rw [show k = 0 by omega] at hx
      cases hx
      exact ⟨_, hc, ce, hh, hcid, hvm9, fun k hk => absurd hk (Nat.not_lt_zero k)⟩)) (hD.push hP rfl (hA _ hS.1)) ⟨Nat.le_trans hS.1 f1, fun q h1 h2 => (f2 q (Nat.lt_of_lt_of_le h1 hS.1) (fun z hz => nomatch hz)).trans (hS.2.1 q h1 h2), hS.2.2⟩ _ rfl X6
  refine ⟨t, st1 _ ?_, b1⟩
  show Steps p.tables e below (T1.setTop { method := m, pc := pc + 3, locals := ls, stack := .ref T.heap.size :: rest, locked := none }) _
  jvm_step X₁.here [X₁.here.top, hexec, d3', Value.category]
  exact X₁.ldcString hexec (own := own) (text := text) (index := is) (a := sa) hown' hstr'.1 hstr'.2
    (g := { method := m, pc := pc + 4, locals := ls, stack := .ref T.heap.size :: .ref T.heap.size :: rest, locked := none }) rfl d4' _ (st _ a1)
/-- 'new E()' that isn't thrown at once: the object goes on the stack -/
theorem vx_make0 {cc : ByteArray} {pc : Nat} (hexec : p.tables.exec = Jvm.exec) (hb : c.code = cc) (hl : l.stackTraces = false) {own cls : String} {names : List String} {ik ic ci : Nat} {A : Nat → Prop} {T0 : u_T}
    (hown : s.vm.findClass own = some m.cls) (hcls : Bundle.fit cls = true) (hnames : ∀ n ∈ names, Bundle.fit n = true)
    (hk : (Cond.classLink own ik cls).before args s = true) (hini : (Cond.initialized cls).before args s = true) (hat : ∀ w ∈ vx_at0 own ic cls names, w.before args s = true)
    (hgood : ∀ w ∈ Cond.classLink own ik cls :: Cond.initialized cls :: vx_at0 own ic cls names, vx_ot w = true)
    (hU : vx_Zq Bundle.tN "UNASSIGNED_STACK" Bundle.steD A s s.heap) (hN : vx_Zq Bundle.tN "SUPPRESSED_SENTINEL" Bundle.listD A s s.heap) (hS : va_S A s.heap H locs) (hsize : ls.size = c.maxLocals)
    (d0 : decode cc pc = .ok (.new ik, 3)) (d3 : decode cc (pc + 3) = .ok (.dup, 1)) (d4 : decode cc (pc + 4) = .ok (.invokespecial ic, 3))
    (hK : va_K D cl tys s) (hP : va_P D cl ws H) (hD : va_D A ws) (hA : ∀ q, s.heap.size ≤ q → A q) (hc : cl[ci]? = some (cls, T0, 0))
    (hRframes : names.length + 3 < R.frames) (hRlocals : (rest.map fun v => v.category).sum + (13 * (names.length + 1) + 42) ≤ R.locals) (hRcells : cells + 1 ≤ R.cells) (hRslots : slots + 6 ≤ R.slots)
    (kk : ∀ (q : Nat) (H1 : Heap), va_P D cl (ws ++ [(q, .inr (ci, []))]) H1 → va_D A (ws ++ [(q, .inr (ci, []))]) → va_S A s.heap H1 locs → W p l e R s m args below meth c H1 locs (cells + 1) (slots + 6) Q (F0 m (pc + 7) ls (.ref q :: rest))) :
    W p l e R s m args below meth c H locs cells slots Q (F0 m pc ls rest) := by
  intro T hT X
  subst hT
  have htr : e.platform.stackTraces = false := (show e.platform.stackTraces = l.stackTraces by rw [X.admits.platform]).trans hl
  have Y := vx_rebase X (R' := { frames := R.frames, locals := R.locals, cells := 1, slots := 6 }) (Nat.le_refl _) (Nat.le_refl _) hRcells hRslots
  obtain ⟨s', hA'⟩ : ∃ z, z = (T.setVm s.vm).setFrames (.invoking m args :: below) := ⟨_, rfl⟩
  rw [← hA'] at Y
  have hvm : s'.vm = s.vm := by rw [hA']; rfl
  have hhp : s'.heap = T.heap := by rw [hA']; rfl
  have hW0 : s.WarmedH s'.vm := by rw [hvm]; exact State.WarmedH.refl s
  have hat' : ∀ w ∈ vx_at0 own ic cls names, w.before args s' = true := fun w hw => vx_ot_at hW0 hvm.symm (hgood w (List.mem_cons_of_mem _ (List.mem_cons_of_mem _ hw))) (hat w hw)
  have hk' : (Cond.classLink own ik cls).before args s' = true := vx_ot_at hW0 hvm.symm (hgood _ List.mem_cons_self) hk
  have hini' : (Cond.initialized cls).before args s' = true := vx_ot_at hW0 hvm.symm (hgood _ (List.mem_cons_of_mem _ List.mem_cons_self)) hini
  have hU' : vx_Zq Bundle.tN "UNASSIGNED_STACK" Bundle.steD A s' s'.heap := by rw [hhp]; exact vx_Zq.moved hW0.alike (hU.kept hS.2.1)
  have hN' : vx_Zq Bundle.tN "SUPPRESSED_SENTINEL" Bundle.listD A s' s'.heap := by rw [hhp]; exact vx_Zq.moved hW0.alike (hN.kept hS.2.1)
  have h : ∀ w ∈ Bundle.ownAtoms0 own ic cls names, w.before args s' = true := vx_own hat' (vx_isRefq hU'.1) (vx_isRefq hN'.1) hU'.2.word hN'.2.word
  have hown' : s'.vm.findClass own = some m.cls := by rw [hvm]; exact hown
  have hins : (Cond.instantiable cls 6).before args s' = true := h _ (by simp [Bundle.ownAtoms0])
  obtain ⟨vm₁, cX, kX, hfX, hkX, -, -, X₁, st1⟩ := Y.newCold hexec (own := own) (C := cls) (index := ik) (n := 6) hown' hk' hins hini'
    (g := F0 m pc ls rest) rfl (by rw [hb]; exact d0) (Nat.le_refl _) (Nat.le_refl _)
  generalize hT1 : (T.setVm vm₁).pushCell { cls := cX, slots := kX.instanceTypes.map defaultValue, vm := .none } = T1 at X₁ st1
  have hcat : (Value.ref T.heap.size).category = 1 := rfl
  have hcellA : T1.heap[T.heap.size]? = some (freshCell cX kX) := by rw [← hT1]; exact State.heap_pushCell_size _ _
  have d3' : decode c.code (pc + 3) = .ok (.dup, 1) := by rw [hb]; exact d3
  obtain ⟨V, ce, L, Z, hL, hlt, hcl9, hvm9, st⟩ := vx_ctorMade0 X₁ hexec htr (own := own) (cls := cls) (names := names) (ic := ic) hown' hcls hnames h (fun x hx => nomatch hx) hfX hkX hcellA (by rw [hhp]; exact Nat.le_refl _)
    (g := { method := m, pc := pc + 4, locals := ls, stack := .ref T.heap.size :: .ref T.heap.size :: rest, locked := none }) rfl hsize (rest := rest) rfl
    (by rw [hb]; exact d4) hRframes (by simp only [List.map_cons, List.sum_cons, hcat]; omega)
  have Z0 := Stand.forget (locs := []) Z (fun y hy => by rw [hL y hy, hhp]; exact Nat.le_refl _)
  obtain ⟨f1, f2⟩ := vx_frame Z0.same
  rw [hhp] at f1 f2
  have hcid : ce.cls = D.1 ci := by
    rw [hcl9]
    have h1 := (hK.1 ci _ hc).2.1
    rw [hvm] at hfX
    exact Option.some.inj (hfX.symm.trans h1)
  have hh : (V.setCell T.heap.size ce).heap[T.heap.size]? = some ce := heapAt_setCell_self (s := V) ce hlt
  subst hA'
  have X5 := vx_back9 X Y Z0
  have X6 : Stand p l e R s m args below meth c (V.setCell T.heap.size ce) locs (cells + 1) (slots + 6) := { X5 with same := X5.same.mono (by omega) (by omega) }
  have hk9 : ∀ (k : Nat) (x : Nat × va_E), ws[k]? = some x → (V.setCell T.heap.size ce).heap[x.1]? = T.heap[x.1]? := fun k x hx => f2 x.1 ((hP k x hx).lt) (fun z hz => nomatch hz)
  obtain ⟨t, a1, b1⟩ := kk T.heap.size (V.setCell T.heap.size ce).heap ((hP.kept hk9).app (fun k x hx => by
      have hz : k < 1 := (List.getElem?_eq_some_iff.mp hx).1
      rw [show k = 0 by omega] at hx
      cases hx
      exact ⟨_, hc, ce, hh, hcid, hvm9, fun k hk => absurd hk (Nat.not_lt_zero k)⟩)) (hD.push hP rfl (hA _ hS.1)) ⟨Nat.le_trans hS.1 f1, fun q h1 h2 => (f2 q (Nat.lt_of_lt_of_le h1 hS.1) (fun z hz => nomatch hz)).trans (hS.2.1 q h1 h2), hS.2.2⟩ _ rfl X6
  refine ⟨t, st1 _ ?_, b1⟩
  show Steps p.tables e below (T1.setTop { method := m, pc := pc + 3, locals := ls, stack := .ref T.heap.size :: rest, locked := none }) _
  jvm_step X₁.here [X₁.here.top, hexec, d3', Value.category]
  exact st _ a1
/-- 'throw x' of an object that was made before -/
theorem vx_athrow {cc : ByteArray} {pc : Nat} (hexec : p.tables.exec = Jvm.exec) (hb : c.code = cc) {q : Addr} (hdg : decode cc pc = .ok (.athrow, 1)) (k : vx_W p l e R s m args below meth c H locs cells slots Q (F0 m pc ls rest) q) : W p l e R s m args below meth c H locs cells slots Q (F0 m pc ls (.ref q :: rest)) := by
  intro T hT X
  obtain ⟨t, st, hq⟩ := k T hT X
  refine ⟨t, ?_, hq⟩
  have hdg' : decode c.code pc = .ok (.athrow, 1) := by rw [hb]; exact hdg
  jvm_step X.here [X.here.top, hexec, hdg', athrow.wp_sem]
  exact st
end VXK2
/-! ===== END ===== -/
/-! ===== BEGIN a constructor that throws (launches without stack traces) ===== -/
section VXIA
variable {p : Program} {l : Launch} {e : Env} {R : Room} {s : State} {m : MethodId} {args : Array Value} {below : List Frame} {meth : Method} {c : Code} {T : State} {locs : List Loc} {cells slots : Nat}
theorem vx_callI (X : Stand p l e R s m args below meth c T locs cells slots) (hexec : p.tables.exec = Jvm.exec) {own : String} {index : Nat} {y : MethodName} {bytes : ByteArray} {maxL : Nat}
    (hown : s.vm.findClass own = some m.cls) (hy1 : y.name = "<init>") (hlink : (Cond.methodLink own index y).before args s = true) (hinst : (Cond.instanceMethod y).before args s = true)
    (hcode : (Cond.code y bytes maxL none).before args s = true) (hy : y.cls ≠ "java/lang/invoke/MethodHandle" ∧ y.cls ≠ "java/lang/invoke/VarHandle")
    {W9 : Nat} {Pre : Pt → Array Value → Prop} {Post : Pt → Array Value → Option Value → Pt → Prop} {PostX : Pt → Array Value → Addr → Pt → Prop} (hK : vx_Back l R p e below s args y 3 W9 Pre Post PostX)
    {g : JFrame} (hg : g.method = m) (hsize : g.locals.size = c.maxLocals) {a : Addr} {argsL rest : List Value} (hlen : ∀ sig, parseMethodDescriptor y.desc = some sig → argsL.length = sig.parameters.length)
    (hstack : g.stack = argsL.reverse ++ .ref a :: rest) (hW : 2 * g.monitorRoom + (rest.map fun v => v.category).sum ≤ W9) (hdg : decode c.code g.pc = .ok (.invokespecial index, 3))
    (hpre : ∀ vm₁, s.WarmedH vm₁ → Pre ⟨T.setVm vm₁, locs, cells, slots⟩ (Value.ref a :: argsL).toArray) :
    (∃ (v : Option Value) (vm₁ : Vm) (B : Pt), s.WarmedH vm₁ ∧ Stand p l e R s m args below meth c B.U B.locs B.cells B.slots ∧ Post ⟨T.setVm vm₁, locs, cells, slots⟩ (Value.ref a :: argsL).toArray v B ∧
      ∀ target, Steps p.tables e below (B.U.setTop { g with pc := g.pc + 3, stack := v.toList ++ rest }) target → Steps p.tables e below (T.setTop g) target) ∨
    (∃ (q : Addr) (vm₁ : Vm) (B : Pt), s.WarmedH vm₁ ∧ Stand p l e R s m args below meth c B.U B.locs B.cells B.slots ∧ PostX ⟨T.setVm vm₁, locs, cells, slots⟩ (Value.ref a :: argsL).toArray q B ∧
      Steps p.tables e below (T.setTop g) ((B.U.setTop { g with stack := rest }).pushFrame (.throwing q))) := by
  subst hg
  have hpl : e.platform.magicAccessors = ({} : Platform).magicAccessors := by rw [X.admits.platform]
  obtain ⟨mk, methM, cM, kP, vm₁, hnamed, hmethM, hcodeM, -, hlocalsM, -, hkP, -, hW₁, hstep₁⟩ := Steps.initColdArgs (e := e) X.here hexec X.warmed hpl hown hy1 hy hlink hinst hcode (f := g) rfl hlen hstack hdg
  have X₁ := X.noted hW₁
  rcases hK g.method meth c ⟨T.setVm vm₁, locs, cells, slots⟩ { g with stack := rest } (.invokespecial index) mk (Value.ref a :: argsL).toArray X₁ rfl hsize hdg hW (X₁.named hnamed) (hpre vm₁ X₁.warmed) with ⟨v, B, X', hpost, hsteps⟩ | ⟨q, B, X', hpost, hsteps⟩
  · exact Or.inl ⟨v, vm₁, B, X₁.warmed, X', hpost, fun target h => hstep₁ _ fun acts => by rw [doInvoke_state]; exact hsteps.trans h⟩
  · exact Or.inr ⟨q, vm₁, B, X₁.warmed, X', hpost, hstep₁ _ fun acts => by rw [doInvoke_state]; exact hsteps⟩
end VXIA
section VXIB
variable {p : Program} {l : Launch} {e : Env} {R : Room} {s : State} {m : MethodId} {args : Array Value} {below : List Frame} {meth : Method} {c : Code} {H : Heap} {locs : List Loc} {cells slots : Nat}
variable {y : MethodName} {bytes cc : ByteArray} {maxL nL mc ms n index : Nat} {ret : Option FieldType} {ws : List Cond} {rm : Room} {Pc : Array Value → State → Prop} {Qc : Array Value → State → Outcome → State → Prop} {XC : String → State → State → Prop} {free : Addr → Prop} {Ts : List Cond} {own C : String} {b : Addr} {As rest : List Value} {g : JFrame}
theorem vx_runI (S : CallFix p m c cc nL s args Ts own) (hM : vx_Met l y ws rm Pc Qc XC mc ms free) (cw : CallB R s args own index y bytes maxL none ws rm mc ms n ∧ y.name = "<init>" ∧ (Cond.instanceMethod y).before args s = true) (hp : PreS s H Pc (.ref b :: As))
    (hg : g.method = m) (hn : As.length = n) (hsize : g.locals.size = nL) (hstack : g.stack = As.reverse ++ .ref b :: rest) (hW : 2 * g.monitorRoom + (rest.map fun v => v.category).sum ≤ 8) (hdg : decode cc g.pc = .ok (.invokespecial index, 3)) (hf : cells + mc ≤ R.cells ∧ slots + ms ≤ R.slots) :
    vx_Run p l e R s m args below meth c H locs cells slots mc ms g rest (Qc (Value.ref b :: As).toArray) XC free := by
  have hK : vx_Back l R p e below s args y 3 8 (PreOf R mc ms Pc) (PostOf Qc mc ms free) (vx_Post XC mc ms free) := vx_callBack cw.1 hM hp.1
  obtain ⟨⟨-, -, -, -, -, -, hcode, -, hy, hlen, hl⟩, hy1, hin⟩ := cw
  obtain ⟨hx, hb, hml, ho, -⟩ := S
  have hPc := hp.2
  intro T hT X
  rcases vx_callI X hx (bytes := bytes) (maxL := maxL) ho hy1 hl hin hcode hy hK hg (hsize.trans hml.symm) (a := b) (argsL := As) (rest := rest) (fun sig h => hn.trans (hlen sig h)) hstack hW (by rw [hb]; exact hdg)
    (fun vm₁ hW₁ => ⟨hf.1, hf.2, hPc (T.setVm vm₁) hT hW₁⟩) with ⟨v, vm₁, ⟨U', l2, c2, s2⟩, hW₁, X', ⟨g', mk, t, L, e1, e2, hq, h1, hL, h2, h3⟩, st⟩ | ⟨q, vm₁, ⟨U', l2, c2, s2⟩, hW₁, X', ⟨g', mk, t, L, E, ce, e1, e2, hq, hce, hcv, hcl, h1, hL, h2, h3⟩, st⟩
  · dsimp only [Pt.U, Pt.locs, Pt.cells, Pt.slots] at X' e1 e2 h1 h2 h3 st
    subst h1; subst h2; subst h3
    exact Or.inl ⟨v, (T.setVm vm₁).calling g' mk (Value.ref b :: As).toArray, t, U', L, hT, X', hL, e1, e2, hq, st⟩
  · dsimp only [Pt.U, Pt.locs, Pt.cells, Pt.slots] at X' e1 e2 h1 h2 h3 st hcl
    subst h1; subst h2; subst h3
    exact Or.inr ⟨q, (T.setVm vm₁).calling g' mk (Value.ref b :: As).toArray, t, U', L, E, ce, hT, X', hL, e1, e2, hq, hce, hcv, vx_cls hW₁ hcl, st⟩
end VXIB
/-! ===== END ===== -/
/-! ===== BEGIN a private constructor of a nest mate that throws ===== -/
section VXIC
variable {p : Program} {l : Launch} {e : Env} {R : Room} {s : State} {m : MethodId} {args : Array Value} {below : List Frame} {meth : Method} {c : Code} {T : State} {locs : List Loc} {cells slots : Nat}
theorem vx_callIN (X : Stand p l e R s m args below meth c T locs cells slots) (hexec : p.tables.exec = Jvm.exec) {own : String} {index : Nat} {host : String} {y : MethodName} {bytes : ByteArray} {maxL : Nat}
    (hown : s.vm.findClass own = some m.cls) (hy1 : y.name = "<init>") (hlink : (Cond.methodLinkNest own index y host).before args s = true) (hinst : (Cond.instanceMethod y).before args s = true)
    (hcode : (Cond.code y bytes maxL none).before args s = true) (hy : y.cls ≠ "java/lang/invoke/MethodHandle" ∧ y.cls ≠ "java/lang/invoke/VarHandle")
    {W9 : Nat} {Pre : Pt → Array Value → Prop} {Post : Pt → Array Value → Option Value → Pt → Prop} {PostX : Pt → Array Value → Addr → Pt → Prop} (hK : vx_Back l R p e below s args y 3 W9 Pre Post PostX)
    {g : JFrame} (hg : g.method = m) (hsize : g.locals.size = c.maxLocals) {a : Addr} {argsL rest : List Value} (hlen : ∀ sig, parseMethodDescriptor y.desc = some sig → argsL.length = sig.parameters.length)
    (hstack : g.stack = argsL.reverse ++ .ref a :: rest) (hW : 2 * g.monitorRoom + (rest.map fun v => v.category).sum ≤ W9) (hdg : decode c.code g.pc = .ok (.invokespecial index, 3))
    (hpre : ∀ vm₁, s.WarmedH vm₁ → Pre ⟨T.setVm vm₁, locs, cells, slots⟩ (Value.ref a :: argsL).toArray) :
    (∃ (v : Option Value) (vm₁ : Vm) (B : Pt), s.WarmedH vm₁ ∧ Stand p l e R s m args below meth c B.U B.locs B.cells B.slots ∧ Post ⟨T.setVm vm₁, locs, cells, slots⟩ (Value.ref a :: argsL).toArray v B ∧
      ∀ target, Steps p.tables e below (B.U.setTop { g with pc := g.pc + 3, stack := v.toList ++ rest }) target → Steps p.tables e below (T.setTop g) target) ∨
    (∃ (q : Addr) (vm₁ : Vm) (B : Pt), s.WarmedH vm₁ ∧ Stand p l e R s m args below meth c B.U B.locs B.cells B.slots ∧ PostX ⟨T.setVm vm₁, locs, cells, slots⟩ (Value.ref a :: argsL).toArray q B ∧
      Steps p.tables e below (T.setTop g) ((B.U.setTop { g with stack := rest }).pushFrame (.throwing q))) := by
  subst hg
  have hpl : e.platform.magicAccessors = ({} : Platform).magicAccessors := by rw [X.admits.platform]
  obtain ⟨mk, methM, cM, kP, vm₁, hnamed, hmethM, hcodeM, -, hlocalsM, -, hkP, -, hW₁, hstep₁⟩ := Steps.initColdArgsNest (e := e) X.here hexec X.warmed hpl hown hy1 hy hlink hinst hcode (f := g) rfl hlen hstack hdg
  have X₁ := X.noted hW₁
  rcases hK g.method meth c ⟨T.setVm vm₁, locs, cells, slots⟩ { g with stack := rest } (.invokespecial index) mk (Value.ref a :: argsL).toArray X₁ rfl hsize hdg hW (X₁.named hnamed) (hpre vm₁ X₁.warmed) with ⟨v, B, X', hpost, hsteps⟩ | ⟨q, B, X', hpost, hsteps⟩
  · exact Or.inl ⟨v, vm₁, B, X₁.warmed, X', hpost, fun target h => hstep₁ _ fun acts => by rw [doInvoke_state]; exact hsteps.trans h⟩
  · exact Or.inr ⟨q, vm₁, B, X₁.warmed, X', hpost, hstep₁ _ fun acts => by rw [doInvoke_state]; exact hsteps⟩
end VXIC
section VXID
variable {p : Program} {l : Launch} {e : Env} {R : Room} {s : State} {m : MethodId} {args : Array Value} {below : List Frame} {meth : Method} {c : Code} {H : Heap} {locs : List Loc} {cells slots : Nat}
theorem vx_runIN {y : MethodName} {bytes cc : ByteArray} {maxL nL mc ms n index : Nat} {ws : List Cond} {rm : Room} {Pc : Array Value → State → Prop} {Qc : Array Value → State → Outcome → State → Prop} {XC : String → State → State → Prop} {free : Addr → Prop} {Ts : List Cond} {own host : String} {b : Addr} {As rest : List Value} {g : JFrame}
    (S : CallFix p m c cc nL s args Ts own) (hM : vx_Met l y ws rm Pc Qc XC mc ms free) (cw : va_CN R s args own index y host bytes maxL none ws rm mc ms n ∧ y.name = "<init>" ∧ (Cond.instanceMethod y).before args s = true) (hp : PreS s H Pc (.ref b :: As))
    (hg : g.method = m) (hn : As.length = n) (hsize : g.locals.size = nL) (hstack : g.stack = As.reverse ++ .ref b :: rest) (hW : 2 * g.monitorRoom + (rest.map fun v => v.category).sum ≤ 8) (hdg : decode cc g.pc = .ok (.invokespecial index, 3)) (hf : cells + mc ≤ R.cells ∧ slots + ms ≤ R.slots) :
    vx_Run p l e R s m args below meth c H locs cells slots mc ms g rest (Qc (Value.ref b :: As).toArray) XC free := by
  obtain ⟨⟨⟨hrc, hrs, hfr, hlo, hws, hcw⟩, hcode, hini, hy, hlen, hl⟩, hx1, hx2⟩ := cw
  have hK : vx_Back l R p e below s args y 3 8 (PreOf R mc ms Pc) (PostOf Qc mc ms free) (vx_Post XC mc ms free) := vx_back (bytes := bytes) (maxL := maxL) (ret := none) hM hp.1 hrc hrs hfr hlo hws hcw (fun a' U hW => word_at hW (Or.inl (by first | rfl | simp [Cond.onTables, Cond.keeps, Cond.steady])) hini)
  obtain ⟨hx, hb, hml, ho, -⟩ := S
  have hPc := hp.2
  intro T hT X
  rcases vx_callIN X hx (bytes := bytes) (maxL := maxL) ho hx1 hl hx2 hcode hy hK hg (hsize.trans hml.symm) (a := b) (argsL := As) (rest := rest) (fun sig h => hn.trans (hlen sig h)) hstack hW (by rw [hb]; exact hdg)
    (fun vm₁ hW₁ => ⟨hf.1, hf.2, hPc (T.setVm vm₁) hT hW₁⟩) with ⟨v, vm₁, ⟨U', l2, c2, s2⟩, hW₁, X', ⟨g', mk, t, L, e1, e2, hq, h1, hL, h2, h3⟩, st⟩ | ⟨q, vm₁, ⟨U', l2, c2, s2⟩, hW₁, X', ⟨g', mk, t, L, E, ce, e1, e2, hq, hce, hcv, hcl, h1, hL, h2, h3⟩, st⟩
  · dsimp only [Pt.U, Pt.locs, Pt.cells, Pt.slots] at X' e1 e2 h1 h2 h3 st
    subst h1; subst h2; subst h3
    exact Or.inl ⟨v, (T.setVm vm₁).calling g' mk (Value.ref b :: As).toArray, t, U', L, hT, X', hL, e1, e2, hq, st⟩
  · dsimp only [Pt.U, Pt.locs, Pt.cells, Pt.slots] at X' e1 e2 h1 h2 h3 st hcl
    subst h1; subst h2; subst h3
    exact Or.inr ⟨q, (T.setVm vm₁).calling g' mk (Value.ref b :: As).toArray, t, U', L, E, ce, hT, X', hL, e1, e2, hq, hce, hcv, vx_cls hW₁ hcl, st⟩
end VXID
/-! ===== END ===== -/
/-! ===== BEGIN a method of a class above, found by the receiver, that may throw (follows va_callVU, va_runU of this kit) ===== -/
section
variable {p : Program} {l : Launch} {e : Env} {R : Room} {s : State} {m : MethodId} {args : Array Value} {below : List Frame} {meth : Method} {c : Code} {H : Heap} {locs : List Loc} {cells slots : Nat}
theorem vx_callVU {T : State} {locs : List Loc} {cells slots : Nat} (X : Stand p l e R s m args below meth c T locs cells slots) (hexec : p.tables.exec = Jvm.exec) {own C owner : String} {index : Nat} {x y : MethodName} {bytes : ByteArray} {maxL : Nat} {ret : Option FieldType}
    (hown : s.vm.findClass own = some m.cls) (hlink : (Cond.methodLink own index x).before args s = true) (hsame : (Cond.sameMethod x.cls owner x.name x.desc).before args s = true)
    (hd0 : va_Decl s ⟨owner, x.name, x.desc⟩) (howner : owner ≠ "java/lang/invoke/MethodHandle" ∧ owner ≠ "java/lang/invoke/VarHandle")
    (hsel : (Cond.selects C x y).before args s = true) (hinst : (Cond.instanceMethod y).before args s = true) (hcode : (Cond.code y bytes maxL ret).before args s = true)
    {W : Nat} {Pre : Pt → Array Value → Prop} {Post : Pt → Array Value → Option Value → Pt → Prop} {PostX : Pt → Array Value → Addr → Pt → Prop} (hK : vx_Back l R p e below s args y 3 W Pre Post PostX)
    {b : Addr} {cellB : Cell} (hcell : T.heap[b]? = some cellB) (hobj : cellB.vm.isStatics = false) (hcls : s.vm.findClass C = some cellB.cls)
    {g : JFrame} (hg : g.method = m) (hsize : g.locals.size = c.maxLocals) {argsL rest : List Value} (hlen : ∀ sig, parseMethodDescriptor x.desc = some sig → argsL.length = sig.parameters.length)
    (hstack : g.stack = argsL.reverse ++ .ref b :: rest) (hW : 2 * g.monitorRoom + (rest.map fun v => v.category).sum ≤ W) (hdg : decode c.code g.pc = .ok (.invokevirtual index, 3))
    (hpre : ∀ vm₁, s.WarmedH vm₁ → Pre ⟨T.setVm vm₁, locs, cells, slots⟩ (Value.ref b :: argsL).toArray) :
    (∃ (v : Option Value) (vm₁ : Vm) (B : Pt), s.WarmedH vm₁ ∧ Stand p l e R s m args below meth c B.U B.locs B.cells B.slots ∧ Post ⟨T.setVm vm₁, locs, cells, slots⟩ (Value.ref b :: argsL).toArray v B ∧
      ∀ target, Steps p.tables e below (B.U.setTop { g with pc := g.pc + 3, stack := v.toList ++ rest }) target → Steps p.tables e below (T.setTop g) target) ∨
    (∃ (q : Addr) (vm₁ : Vm) (B : Pt), s.WarmedH vm₁ ∧ Stand p l e R s m args below meth c B.U B.locs B.cells B.slots ∧ PostX ⟨T.setVm vm₁, locs, cells, slots⟩ (Value.ref b :: argsL).toArray q B ∧
      Steps p.tables e below (T.setTop g) ((B.U.setTop { g with stack := rest }).pushFrame (.throwing q))) := by
  obtain ⟨r0, r, hn, hrm, hstR, hsigR⟩ := hd0
  obtain ⟨cn, ck, r1, hcn, hck, hni, hf, hn1⟩ := Cond.sameMethod_found hsame
  cases hn.symm.trans hn1
  obtain ⟨mk, methM, hnamed, hmethM, -, habM⟩ := Cond.instanceMethod_spec hinst
  obtain ⟨c2, r2, m2, q1, q2, q3, q4, kP, hkP, hkPi⟩ := Cond.selects_spec hsel
  cases hcls.symm.trans q1
  cases hf.symm.trans q2
  cases hnamed.symm.trans q3
  have hselP : selectMethod e.platform s.vm cellB.cls r0 = .method mk := by rw [Launch.admits_selectMethod X.admits]; exact q4
  obtain ⟨vm₁, X₁, hstep₁⟩ := X.invokevirtualUp hexec hown hlink hsame howner hn hrm hstR (a := b) (cell := cellB) hcell
    (fun z h => by rw [h] at hobj; cases hobj) hselP hmethM habM hkP hkPi (g := g) hg (argsL := argsL) (rest := rest) (hlen _ hsigR) hstack hdg
  rcases hK m meth c ⟨T.setVm vm₁, locs, cells, slots⟩ { g with stack := rest } (.invokevirtual index) mk (Value.ref b :: argsL).toArray X₁ hg hsize hdg hW (X₁.named hnamed) (hpre vm₁ X₁.warmed) with ⟨v, B, X', hpost, hsteps⟩ | ⟨q, B, X', hpost, hsteps⟩
  · exact Or.inl ⟨v, vm₁, B, X₁.warmed, X', hpost, fun target h => hstep₁ _ fun acts => by rw [doInvoke_state]; exact hsteps.trans h⟩
  · exact Or.inr ⟨q, vm₁, B, X₁.warmed, X', hpost, hstep₁ _ fun acts => by rw [doInvoke_state]; exact hsteps⟩
theorem vx_runU {x y : MethodName} {bytes cc : ByteArray} {maxL nL mc ms n index : Nat} {ret : Option FieldType} {ws : List Cond} {rm : Room} {Pc : Array Value → State → Prop} {Qc : Array Value → State → Outcome → State → Prop} {XC : String → State → State → Prop} {free : Addr → Prop} {Ts : List Cond} {own C owner : String} {b : Addr} {As rest : List Value} {g : JFrame}
    (S : CallFix p m c cc nL s args Ts own) (hM : vx_Met l y ws rm Pc Qc XC mc ms free) (cw : va_CU R s args own C owner index x y bytes maxL ret ws rm mc ms n) (hp : PreV s H C b Pc As)
    (hg : g.method = m) (hn : As.length = n) (hsize : g.locals.size = nL) (hstack : g.stack = As.reverse ++ .ref b :: rest) (hW : 2 * g.monitorRoom + (rest.map fun v => v.category).sum ≤ 8) (hdg : decode cc g.pc = .ok (.invokevirtual index, 3)) (hf : cells + mc ≤ R.cells ∧ slots + ms ≤ R.slots) :
    vx_Run p l e R s m args below meth c H locs cells slots mc ms g rest (Qc (Value.ref b :: As).toArray) XC free := by
  obtain ⟨hrc, hrs, hfr, hlo, hws, hcw⟩ := cw.back
  have hini := cw.init
  have hK : vx_Back l R p e below s args y 3 8 (PreOf R mc ms Pc) (PostOf Qc mc ms free) (vx_Post XC mc ms free) := vx_back (bytes := bytes) (maxL := maxL) (ret := ret) hM hp.1 hrc hrs hfr hlo hws hcw (fun a' U hW => word_at hW (Or.inl (by first | rfl | simp [Cond.onTables, Cond.keeps, Cond.steady])) hini)
  obtain ⟨hx, hb, hml, ho, -⟩ := S
  obtain ⟨-, ⟨cellB, hcB, hoB, hclB⟩, hPc⟩ := hp
  intro T hT X
  rcases vx_callVU X hx (C := C) (owner := owner) (bytes := bytes) (maxL := maxL) (ret := ret) ho cw.link cw.same cw.decl cw.notMH cw.sel cw.inst cw.code hK (by rw [hT]; exact hcB) hoB hclB hg (hsize.trans hml.symm) (argsL := As) (rest := rest) (fun sig h => hn.trans (cw.len sig h)) hstack hW (by rw [hb]; exact hdg)
    (fun vm₁ hW₁ => ⟨hf.1, hf.2, hPc (T.setVm vm₁) hT hW₁⟩) with ⟨v, vm₁, ⟨U', l2, c2, s2⟩, hW₁, X', ⟨g', mk, t, L, e1, e2, hq, h1, hL, h2, h3⟩, st⟩ | ⟨q, vm₁, ⟨U', l2, c2, s2⟩, hW₁, X', ⟨g', mk, t, L, E, ce, e1, e2, hq, hce, hcv, hcl, h1, hL, h2, h3⟩, st⟩
  · dsimp only [Pt.U, Pt.locs, Pt.cells, Pt.slots] at X' e1 e2 h1 h2 h3 st
    subst h1; subst h2; subst h3
    exact Or.inl ⟨v, (T.setVm vm₁).calling g' mk (Value.ref b :: As).toArray, t, U', L, hT, X', hL, e1, e2, hq, st⟩
  · dsimp only [Pt.U, Pt.locs, Pt.cells, Pt.slots] at X' e1 e2 h1 h2 h3 st hcl
    subst h1; subst h2; subst h3
    exact Or.inr ⟨q, (T.setVm vm₁).calling g' mk (Value.ref b :: As).toArray, t, U', L, E, ce, hT, X', hL, e1, e2, hq, hce, hcv, vx_cls hW₁ hcl, st⟩
end
/-! ===== END ===== -/
/-! ===== BEGIN super.m(..) that may throw (follows va_callSU, va_runSU) ===== -/
section
variable {p : Program} {l : Launch} {e : Env} {R : Room} {s : State} {m : MethodId} {args : Array Value} {below : List Frame} {meth : Method} {c : Code} {H : Heap} {locs : List Loc} {cells slots : Nat}
theorem vx_callSU {T : State} {locs : List Loc} {cells slots : Nat} (X : Stand p l e R s m args below meth c T locs cells slots) (hexec : p.tables.exec = Jvm.exec) {own : String} {index : Nat} {y : MethodName} {bytes : ByteArray} {maxL : Nat} {ret : Option FieldType}
    (hown : s.vm.findClass own = some m.cls) (hlink : (Cond.methodLink own index y).before args s = true) (hsame : (Cond.sameMethod y.cls y.cls y.name y.desc).before args s = true) (hsup : (Cond.superclass own y.cls).before args s = true)
    (hinst : (Cond.instanceMethod y).before args s = true) (hcode : (Cond.code y bytes maxL ret).before args s = true) (hno : y.name ≠ "<init>")
    {W : Nat} {Pre : Pt → Array Value → Prop} {Post : Pt → Array Value → Option Value → Pt → Prop} {PostX : Pt → Array Value → Addr → Pt → Prop} (hK : vx_Back l R p e below s args y 3 W Pre Post PostX)
    {b : Addr} {cellB : Cell} {kB : Class} (hcell : T.heap[b]? = some cellB) (hobj : cellB.vm.isStatics = false) (hkB : s.vm.classes[cellB.cls]? = some kB)
    {g : JFrame} (hg : g.method = m) (hsize : g.locals.size = c.maxLocals) {argsL rest : List Value} (hlen : ∀ sig, parseMethodDescriptor y.desc = some sig → argsL.length = sig.parameters.length)
    (hstack : g.stack = argsL.reverse ++ .ref b :: rest) (hW : 2 * g.monitorRoom + (rest.map fun v => v.category).sum ≤ W) (hdg : decode c.code g.pc = .ok (.invokespecial index, 3))
    (hpre : ∀ vm₁, s.WarmedH vm₁ → Pre ⟨T.setVm vm₁, locs, cells, slots⟩ (Value.ref b :: argsL).toArray) :
    (∃ (v : Option Value) (vm₁ : Vm) (B : Pt), s.WarmedH vm₁ ∧ Stand p l e R s m args below meth c B.U B.locs B.cells B.slots ∧ Post ⟨T.setVm vm₁, locs, cells, slots⟩ (Value.ref b :: argsL).toArray v B ∧
      ∀ target, Steps p.tables e below (B.U.setTop { g with pc := g.pc + 3, stack := v.toList ++ rest }) target → Steps p.tables e below (T.setTop g) target) ∨
    (∃ (q : Addr) (vm₁ : Vm) (B : Pt), s.WarmedH vm₁ ∧ Stand p l e R s m args below meth c B.U B.locs B.cells B.slots ∧ PostX ⟨T.setVm vm₁, locs, cells, slots⟩ (Value.ref b :: argsL).toArray q B ∧
      Steps p.tables e below (T.setTop g) ((B.U.setTop { g with stack := rest }).pushFrame (.throwing q))) := by
  obtain ⟨mk, methM, hnamed, hmethM, hstM, habM⟩ := Cond.instanceMethod_spec hinst
  obtain ⟨methM', cM, hmethM', -, -, -, -, -, -, hsigM⟩ := Cond.code_spec hnamed hcode
  cases hmethM.symm.trans hmethM'
  obtain ⟨ps, dk, kp, hps, hdk, hkp, hsuper, -, -, hnid⟩ := Cond.superclass_spec hown hsup
  have hn : s.methodNamed? ⟨y.cls, y.name, y.desc⟩ = some mk := hnamed
  have hpm : ps = mk.cls := Option.some.inj (hps.symm.trans (findClass_of_methodNamed hnamed))
  have hsub : s.vm.isSubclass ps mk.cls = true := by rw [hpm]; simp [Vm.isSubclass, Vm.isSubclassAux]
  obtain ⟨vm₁, X₁, hstep₁⟩ := X.invokespecialUp hexec hown hlink hsame hn hmethM hstM habM hno hdk hnid hps hsuper hsub (a := b) (cell := cellB) hcell
    (fun z h => by rw [h] at hobj; cases hobj) hkB (g := g) hg (argsL := argsL) (rest := rest) (hlen _ hsigM) hstack hdg
  rcases hK m meth c ⟨T.setVm vm₁, locs, cells, slots⟩ { g with stack := rest } (.invokespecial index) mk (Value.ref b :: argsL).toArray X₁ hg hsize hdg hW (X₁.named hnamed) (hpre vm₁ X₁.warmed) with ⟨v, B, X', hpost, hsteps⟩ | ⟨q, B, X', hpost, hsteps⟩
  · exact Or.inl ⟨v, vm₁, B, X₁.warmed, X', hpost, fun target h => hstep₁ _ (by rw [doInvoke_state]; exact hsteps.trans h)⟩
  · exact Or.inr ⟨q, vm₁, B, X₁.warmed, X', hpost, hstep₁ _ (by rw [doInvoke_state]; exact hsteps)⟩
theorem vx_runSU {y : MethodName} {bytes cc : ByteArray} {maxL nL mc ms n index : Nat} {ret : Option FieldType} {ws : List Cond} {rm : Room} {Pc : Array Value → State → Prop} {Qc : Array Value → State → Outcome → State → Prop} {XC : String → State → State → Prop} {free : Addr → Prop} {Ts : List Cond} {own C : String} {cC : ClassId} {b : Addr} {As rest : List Value} {g : JFrame}
    (hat : ClassAt s C cC) (S : CallFix p m c cc nL s args Ts own) (hM : vx_Met l y ws rm Pc Qc XC mc ms free) (cw : va_CS R s args own index y bytes maxL ret ws rm mc ms n) (hp : PreV s H C b Pc As)
    (hg : g.method = m) (hn : As.length = n) (hsize : g.locals.size = nL) (hstack : g.stack = As.reverse ++ .ref b :: rest) (hW : 2 * g.monitorRoom + (rest.map fun v => v.category).sum ≤ 8) (hdg : decode cc g.pc = .ok (.invokespecial index, 3)) (hf : cells + mc ≤ R.cells ∧ slots + ms ≤ R.slots) :
    vx_Run p l e R s m args below meth c H locs cells slots mc ms g rest (Qc (Value.ref b :: As).toArray) XC free := by
  obtain ⟨⟨hrc, hrs, hfr, hlo, hws, hcw⟩, hl1, hl2, hl3, hl4, hini, hcode, hno, hlen⟩ := cw
  have hK : vx_Back l R p e below s args y 3 8 (PreOf R mc ms Pc) (PostOf Qc mc ms free) (vx_Post XC mc ms free) := vx_back (bytes := bytes) (maxL := maxL) (ret := ret) hM hp.1 hrc hrs hfr hlo hws hcw (fun a' U hW => word_at hW (Or.inl (by first | rfl | simp [Cond.onTables, Cond.keeps, Cond.steady])) hini)
  obtain ⟨hx, hb, hml, ho, -⟩ := S
  obtain ⟨-, ⟨cellB, hcB, hoB, hclB⟩, hPc⟩ := hp
  obtain ⟨hfc, kB, hkB, -⟩ := hat
  cases hfc.symm.trans hclB
  intro T hT X
  rcases vx_callSU X hx (bytes := bytes) (maxL := maxL) (ret := ret) ho hl1 hl2 hl3 hl4 hcode hno hK (by rw [hT]; exact hcB) hoB hkB hg (hsize.trans hml.symm) (argsL := As) (rest := rest) (fun sig h => hn.trans (hlen sig h)) hstack hW (by rw [hb]; exact hdg)
    (fun vm₁ hW₁ => ⟨hf.1, hf.2, hPc (T.setVm vm₁) hT hW₁⟩) with ⟨v, vm₁, ⟨U', l2, c2, s2⟩, hW₁, X', ⟨g', mk, t, L, e1, e2, hq, h1, hL, h2, h3⟩, st⟩ | ⟨q, vm₁, ⟨U', l2, c2, s2⟩, hW₁, X', ⟨g', mk, t, L, E, ce, e1, e2, hq, hce, hcv, hcl, h1, hL, h2, h3⟩, st⟩
  · dsimp only [Pt.U, Pt.locs, Pt.cells, Pt.slots] at X' e1 e2 h1 h2 h3 st
    subst h1; subst h2; subst h3
    exact Or.inl ⟨v, (T.setVm vm₁).calling g' mk (Value.ref b :: As).toArray, t, U', L, hT, X', hL, e1, e2, hq, st⟩
  · dsimp only [Pt.U, Pt.locs, Pt.cells, Pt.slots] at X' e1 e2 h1 h2 h3 st hcl
    subst h1; subst h2; subst h3
    exact Or.inr ⟨q, (T.setVm vm₁).calling g' mk (Value.ref b :: As).toArray, t, U', L, E, ce, hT, X', hL, e1, e2, hq, hce, hcv, vx_cls hW₁ hcl, st⟩
end
/-! ===== END ===== -/
/-! ===== BEGIN a private method of a nest mate that may throw (follows va_callVN, va_callSN, va_runVN, va_runSN) ===== -/
section
variable {p : Program} {l : Launch} {e : Env} {R : Room} {s : State} {m : MethodId} {args : Array Value} {below : List Frame} {meth : Method} {c : Code} {H : Heap} {locs : List Loc} {cells slots : Nat}
variable {T : State}
theorem vx_callVN (X : Stand p l e R s m args below meth c T locs cells slots) (hexec : p.tables.exec = Jvm.exec) {own C : String} {index : Nat} {host : String} {y : MethodName} {bytes : ByteArray} {maxL : Nat} {ret : Option FieldType}
    (hown : s.vm.findClass own = some m.cls) (hlink : (Cond.methodLinkNest own index y host).before args s = true) (hinst : (Cond.instanceMethod y).before args s = true) (hsel : (Cond.selects C y y).before args s = true)
    (hcode : (Cond.code y bytes maxL ret).before args s = true) (hy : y.cls ≠ "java/lang/invoke/MethodHandle" ∧ y.cls ≠ "java/lang/invoke/VarHandle")
    {W : Nat} {Pre : Pt → Array Value → Prop} {Post : Pt → Array Value → Option Value → Pt → Prop} {PostX : Pt → Array Value → Addr → Pt → Prop} (hK : vx_Back l R p e below s args y 3 W Pre Post PostX)
    {b : Addr} {cellB : Cell} (hcell : T.heap[b]? = some cellB) (hobj : cellB.vm.isStatics = false) (hcls : s.vm.findClass C = some cellB.cls)
    {g : JFrame} (hg : g.method = m) (hsize : g.locals.size = c.maxLocals) {argsL rest : List Value} (hlen : ∀ sig, parseMethodDescriptor y.desc = some sig → argsL.length = sig.parameters.length)
    (hstack : g.stack = argsL.reverse ++ .ref b :: rest) (hW : 2 * g.monitorRoom + (rest.map fun v => v.category).sum ≤ W) (hdg : decode c.code g.pc = .ok (.invokevirtual index, 3))
    (hpre : ∀ vm₁, s.WarmedH vm₁ → Pre ⟨T.setVm vm₁, locs, cells, slots⟩ (Value.ref b :: argsL).toArray) :
    (∃ (v : Option Value) (vm₁ : Vm) (B : Pt), s.WarmedH vm₁ ∧ Stand p l e R s m args below meth c B.U B.locs B.cells B.slots ∧ Post ⟨T.setVm vm₁, locs, cells, slots⟩ (Value.ref b :: argsL).toArray v B ∧
      ∀ target, Steps p.tables e below (B.U.setTop { g with pc := g.pc + 3, stack := v.toList ++ rest }) target → Steps p.tables e below (T.setTop g) target) ∨
    (∃ (q : Addr) (vm₁ : Vm) (B : Pt), s.WarmedH vm₁ ∧ Stand p l e R s m args below meth c B.U B.locs B.cells B.slots ∧ PostX ⟨T.setVm vm₁, locs, cells, slots⟩ (Value.ref b :: argsL).toArray q B ∧
      Steps p.tables e below (T.setTop g) ((B.U.setTop { g with stack := rest }).pushFrame (.throwing q))) := by
  obtain ⟨mk, methM, hnamed, hmethM, hstM, habM⟩ := Cond.instanceMethod_spec hinst
  obtain ⟨methM', cM, hmethM', -, -, -, -, -, -, hsigM⟩ := Cond.code_spec hnamed hcode
  cases hmethM.symm.trans hmethM'
  obtain ⟨c2, r2, m2, q1, q2, q3, q4, kP, hkP, hkPi⟩ := Cond.selects_spec hsel
  cases hcls.symm.trans q1
  cases (State.methodFound?_of_named hnamed hy).symm.trans q2
  cases hnamed.symm.trans q3
  have hselP : selectMethod e.platform s.vm cellB.cls mk = .method mk := by rw [Launch.admits_selectMethod X.admits]; exact q4
  obtain ⟨vm₁, X₁, hstep₁⟩ := X.invokevirtualNest hexec hown hlink hnamed hmethM hstM hkP hkPi hy (a := b) (cell := cellB) hcell
    (fun z h => by rw [h] at hobj; cases hobj) hselP hmethM habM hkP hkPi (g := g) hg (argsL := argsL) (rest := rest) (hlen _ hsigM) hstack hdg
  rcases hK m meth c ⟨T.setVm vm₁, locs, cells, slots⟩ { g with stack := rest } (.invokevirtual index) mk (Value.ref b :: argsL).toArray X₁ hg hsize hdg hW (X₁.named hnamed) (hpre vm₁ X₁.warmed) with ⟨v, B, X', hpost, hsteps⟩ | ⟨q, B, X', hpost, hsteps⟩
  · exact Or.inl ⟨v, vm₁, B, X₁.warmed, X', hpost, fun target h => hstep₁ _ fun acts => by rw [doInvoke_state]; exact hsteps.trans h⟩
  · exact Or.inr ⟨q, vm₁, B, X₁.warmed, X', hpost, hstep₁ _ fun acts => by rw [doInvoke_state]; exact hsteps⟩
theorem vx_callSN (X : Stand p l e R s m args below meth c T locs cells slots) (hexec : p.tables.exec = Jvm.exec) {own : String} {index : Nat} {host : String} {y : MethodName} {bytes : ByteArray} {maxL : Nat} {ret : Option FieldType}
    (hown : s.vm.findClass own = some m.cls) (hlink : (Cond.methodLinkNest own index y host).before args s = true) (hstat : (Cond.static y).before args s = true) (hinit : (Cond.initialized y.cls).before args s = true)
    (hcode : (Cond.code y bytes maxL ret).before args s = true) (hy : y.cls ≠ "java/lang/invoke/MethodHandle" ∧ y.cls ≠ "java/lang/invoke/VarHandle")
    {W : Nat} {Pre : Pt → Array Value → Prop} {Post : Pt → Array Value → Option Value → Pt → Prop} {PostX : Pt → Array Value → Addr → Pt → Prop} (hK : vx_Back l R p e below s args y 3 W Pre Post PostX)
    {g : JFrame} (hg : g.method = m) (hsize : g.locals.size = c.maxLocals) {argsL rest : List Value} (hlen : ∀ sig, parseMethodDescriptor y.desc = some sig → argsL.length = sig.parameters.length)
    (hstack : g.stack = argsL.reverse ++ rest) (hW : 2 * g.monitorRoom + (rest.map fun v => v.category).sum ≤ W) (hdg : decode c.code g.pc = .ok (.invokestatic index, 3))
    (hpre : ∀ vm₁, s.WarmedH vm₁ → Pre ⟨T.setVm vm₁, locs, cells, slots⟩ argsL.toArray) :
    (∃ (v : Option Value) (vm₁ : Vm) (B : Pt), s.WarmedH vm₁ ∧ Stand p l e R s m args below meth c B.U B.locs B.cells B.slots ∧ Post ⟨T.setVm vm₁, locs, cells, slots⟩ argsL.toArray v B ∧
      ∀ target, Steps p.tables e below (B.U.setTop { g with pc := g.pc + 3, stack := v.toList ++ rest }) target → Steps p.tables e below (T.setTop g) target) ∨
    (∃ (q : Addr) (vm₁ : Vm) (B : Pt), s.WarmedH vm₁ ∧ Stand p l e R s m args below meth c B.U B.locs B.cells B.slots ∧ PostX ⟨T.setVm vm₁, locs, cells, slots⟩ argsL.toArray q B ∧
      Steps p.tables e below (T.setTop g) ((B.U.setTop { g with stack := rest }).pushFrame (.throwing q))) := by
  obtain ⟨mk, hnamed⟩ := Cond.code_named hcode
  obtain ⟨methM, cM, hmethM, -, -, -, -, -, -, hsigM⟩ := Cond.code_spec hnamed hcode
  have hstatic : methM.isStatic = true := Cond.static_spec hnamed hmethM hstat
  obtain ⟨kP, hkP, -⟩ := className_of_methodNamed hnamed
  have hinitP : kP.init = .initialized := Cond.initialized_spec (findClass_of_methodNamed hnamed) hkP hinit
  obtain ⟨vm₁, X₁, hstep₁⟩ := X.invokestaticNest hexec hown hlink hnamed hmethM hstatic hkP hinitP hy (g := g) hg (argsL := argsL) (rest := rest) (hlen _ hsigM) hstack hdg
  rcases hK m meth c ⟨T.setVm vm₁, locs, cells, slots⟩ { g with stack := rest } (.invokestatic index) mk argsL.toArray X₁ hg hsize hdg hW (X₁.named hnamed) (hpre vm₁ X₁.warmed) with ⟨v, B, X', hpost, hsteps⟩ | ⟨q, B, X', hpost, hsteps⟩
  · exact Or.inl ⟨v, vm₁, B, X₁.warmed, X', hpost, fun target h => hstep₁ _ fun acts => by rw [doInvoke_state]; exact hsteps.trans h⟩
  · exact Or.inr ⟨q, vm₁, B, X₁.warmed, X', hpost, hstep₁ _ fun acts => by rw [doInvoke_state]; exact hsteps⟩
theorem vx_runVN {y : MethodName} {bytes cc : ByteArray} {maxL nL mc ms n index : Nat} {ret : Option FieldType} {ws : List Cond} {rm : Room} {Pc : Array Value → State → Prop} {Qc : Array Value → State → Outcome → State → Prop} {XC : String → State → State → Prop} {free : Addr → Prop} {Ts : List Cond} {own C host : String} {b : Addr} {As rest : List Value} {g : JFrame}
    (S : CallFix p m c cc nL s args Ts own) (hM : vx_Met l y ws rm Pc Qc XC mc ms free) (cw : va_CN R s args own index y host bytes maxL ret ws rm mc ms n ∧ (Cond.instanceMethod y).before args s = true ∧ (Cond.selects C y y).before args s = true) (hp : PreV s H C b Pc As)
    (hg : g.method = m) (hn : As.length = n) (hsize : g.locals.size = nL) (hstack : g.stack = As.reverse ++ .ref b :: rest) (hW : 2 * g.monitorRoom + (rest.map fun v => v.category).sum ≤ 8) (hdg : decode cc g.pc = .ok (.invokevirtual index, 3)) (hf : cells + mc ≤ R.cells ∧ slots + ms ≤ R.slots) :
    vx_Run p l e R s m args below meth c H locs cells slots mc ms g rest (Qc (Value.ref b :: As).toArray) XC free := by
  obtain ⟨⟨⟨hrc, hrs, hfr, hlo, hws, hcw⟩, hcode, hini, hy, hlen, hl⟩, hx1, hx2⟩ := cw
  have hK : vx_Back l R p e below s args y 3 8 (PreOf R mc ms Pc) (PostOf Qc mc ms free) (vx_Post XC mc ms free) := vx_back (bytes := bytes) (maxL := maxL) (ret := ret) hM hp.1 hrc hrs hfr hlo hws hcw (fun a' U hW => word_at hW (Or.inl (by first | rfl | simp [Cond.onTables, Cond.keeps, Cond.steady])) hini)
  obtain ⟨hx, hb, hml, ho, -⟩ := S
  obtain ⟨-, ⟨cellB, hcB, hoB, hclB⟩, hPc⟩ := hp
  intro T hT X
  rcases vx_callVN X hx (C := C) (bytes := bytes) (maxL := maxL) (ret := ret) ho hl hx1 hx2 hcode hy hK (by rw [hT]; exact hcB) hoB hclB hg (hsize.trans hml.symm) (argsL := As) (rest := rest) (fun sig h => hn.trans (hlen sig h)) hstack hW (by rw [hb]; exact hdg)
    (fun vm₁ hW₁ => ⟨hf.1, hf.2, hPc (T.setVm vm₁) hT hW₁⟩) with ⟨v, vm₁, ⟨U', l2, c2, s2⟩, hW₁, X', ⟨g', mk, t, L, e1, e2, hq, h1, hL, h2, h3⟩, st⟩ | ⟨q, vm₁, ⟨U', l2, c2, s2⟩, hW₁, X', ⟨g', mk, t, L, E, ce, e1, e2, hq, hce, hcv, hcl, h1, hL, h2, h3⟩, st⟩
  · dsimp only [Pt.U, Pt.locs, Pt.cells, Pt.slots] at X' e1 e2 h1 h2 h3 st
    subst h1; subst h2; subst h3
    exact Or.inl ⟨v, (T.setVm vm₁).calling g' mk (Value.ref b :: As).toArray, t, U', L, hT, X', hL, e1, e2, hq, st⟩
  · dsimp only [Pt.U, Pt.locs, Pt.cells, Pt.slots] at X' e1 e2 h1 h2 h3 st hcl
    subst h1; subst h2; subst h3
    exact Or.inr ⟨q, (T.setVm vm₁).calling g' mk (Value.ref b :: As).toArray, t, U', L, E, ce, hT, X', hL, e1, e2, hq, hce, hcv, vx_cls hW₁ hcl, st⟩
theorem vx_runSN {y : MethodName} {bytes cc : ByteArray} {maxL nL mc ms n index : Nat} {ret : Option FieldType} {ws : List Cond} {rm : Room} {Pc : Array Value → State → Prop} {Qc : Array Value → State → Outcome → State → Prop} {XC : String → State → State → Prop} {free : Addr → Prop} {Ts : List Cond} {own host : String} {As rest : List Value} {g : JFrame}
    (S : CallFix p m c cc nL s args Ts own) (hM : vx_Met l y ws rm Pc Qc XC mc ms free) (cw : va_CN R s args own index y host bytes maxL ret ws rm mc ms n ∧ (Cond.static y).before args s = true ∧ True) (hp : PreS s H Pc As)
    (hg : g.method = m) (hn : As.length = n) (hsize : g.locals.size = nL) (hstack : g.stack = As.reverse ++ rest) (hW : 2 * g.monitorRoom + (rest.map fun v => v.category).sum ≤ 8) (hdg : decode cc g.pc = .ok (.invokestatic index, 3)) (hf : cells + mc ≤ R.cells ∧ slots + ms ≤ R.slots) :
    vx_Run p l e R s m args below meth c H locs cells slots mc ms g rest (Qc As.toArray) XC free := by
  obtain ⟨⟨⟨hrc, hrs, hfr, hlo, hws, hcw⟩, hcode, hini, hy, hlen, hl⟩, hx1, hx2⟩ := cw
  have hK : vx_Back l R p e below s args y 3 8 (PreOf R mc ms Pc) (PostOf Qc mc ms free) (vx_Post XC mc ms free) := vx_back (bytes := bytes) (maxL := maxL) (ret := ret) hM hp.1 hrc hrs hfr hlo hws hcw (fun a' U hW => word_at hW (Or.inl (by first | rfl | simp [Cond.onTables, Cond.keeps, Cond.steady])) hini)
  obtain ⟨hx, hb, hml, ho, -⟩ := S
  have hPc := hp.2
  intro T hT X
  rcases vx_callSN X hx (bytes := bytes) (maxL := maxL) (ret := ret) ho hl hx1 hini hcode hy hK hg (hsize.trans hml.symm) (argsL := As) (rest := rest) (fun sig h => hn.trans (hlen sig h)) hstack hW (by rw [hb]; exact hdg)
    (fun vm₁ hW₁ => ⟨hf.1, hf.2, hPc (T.setVm vm₁) hT hW₁⟩) with ⟨v, vm₁, ⟨U', l2, c2, s2⟩, hW₁, X', ⟨g', mk, t, L, e1, e2, hq, h1, hL, h2, h3⟩, st⟩ | ⟨q, vm₁, ⟨U', l2, c2, s2⟩, hW₁, X', ⟨g', mk, t, L, E, ce, e1, e2, hq, hce, hcv, hcl, h1, hL, h2, h3⟩, st⟩
  · dsimp only [Pt.U, Pt.locs, Pt.cells, Pt.slots] at X' e1 e2 h1 h2 h3 st
    subst h1; subst h2; subst h3
    exact Or.inl ⟨v, (T.setVm vm₁).calling g' mk As.toArray, t, U', L, hT, X', hL, e1, e2, hq, st⟩
  · dsimp only [Pt.U, Pt.locs, Pt.cells, Pt.slots] at X' e1 e2 h1 h2 h3 st hcl
    subst h1; subst h2; subst h3
    exact Or.inr ⟨q, (T.setVm vm₁).calling g' mk As.toArray, t, U', L, E, ce, hT, X', hL, e1, e2, hq, hce, hcv, vx_cls hW₁ hcl, st⟩
end
/-! ===== END ===== -/
/-! ===== BEGIN calls by an interface of methods that may throw (vx_callIF, vx_runF follow va_callIF, va_runF of this kit) ===== -/
section
variable {p : Program} {l : Launch} {e : Env} {R : Room} {s : State} {m : MethodId} {args : Array Value} {below : List Frame} {meth : Method} {c : Code} {H : Heap} {locs : List Loc} {cells slots : Nat} {Q : State → Prop}
variable {mc ms : Nat} {free : Addr → Prop} {A0 A1 : Nat → Prop} {H0 : Heap} {a : Array Value} {pc : Nat} {ls : Array Slot} {st0 rest : List Value}
def vx_Run5 (p : Program) (l : Launch) (e : Env) (R : Room) (s : State) (m : MethodId) (args : Array Value) (below : List Frame) (meth : Method) (c : Code) (H : Heap) (locs : List Loc) (cells slots mc ms : Nat) (g : JFrame) (rest : List Value) (Qa : State → Outcome → State → Prop) (XC : String → State → State → Prop) (free : Addr → Prop) : Prop :=
  ∀ T : State, T.heap = H → Stand p l e R s m args below meth c T locs cells slots →
    (∃ (v : Option Value) (st₀ t T' : State) (L : List Loc), st₀.heap = H ∧ Stand p l e R s m args below meth c T' (locs ++ L) (cells + mc) (slots + ms) ∧ (∀ q ∈ L, free q.base) ∧ T'.heap = t.heap ∧ T'.vm = t.vm ∧ Qa st₀ (.returned v) t ∧
      Goes p e below T g T' { g with pc := g.pc + 5, stack := v.toList ++ rest }) ∨
    (∃ (q : Addr) (st₀ t T' : State) (L : List Loc) (E : String) (ce : Cell), st₀.heap = H ∧ Stand p l e R s m args below meth c T' (locs ++ L) (cells + mc) (slots + ms) ∧ (∀ z ∈ L, free z.base) ∧ T'.heap = t.heap ∧ T'.vm = t.vm ∧ XC E st₀ t ∧ t.heap[q]? = some ce ∧ ce.vm = .none ∧ s.vm.findClass E = some ce.cls ∧
      Steps p.tables e below (T.setTop g) ((T'.setTop { g with stack := rest }).pushFrame (.throwing q)))
theorem vx_callIF {T : State} (X : Stand p l e R s m args below meth c T locs cells slots) (hexec : p.tables.exec = Jvm.exec) {own C : String} {index count : Nat} {x y : MethodName} {bytes : ByteArray} {maxL : Nat} {ret : Option FieldType}
    (hown : s.vm.findClass own = some m.cls) (hlink : (Cond.methodLink own index x).before args s = true) (hdecl : (Cond.declares x).before args s = true) (hface : (Cond.interfaceMethod x.cls x.cls x.name x.desc).before args s = true)
    (hsel : (Cond.selects C x y).before args s = true) (hinst : (Cond.instanceMethod y).before args s = true) (hpub : (Cond.publicMethod y).before args s = true) (hunh : (Cond.unhidden C x.name x.desc).before args s = true)
    (hcast : (Cond.castable C x.cls).before args s = true) (hcode : (Cond.code y bytes maxL ret).before args s = true) (hx : x.cls ≠ "java/lang/invoke/MethodHandle" ∧ x.cls ≠ "java/lang/invoke/VarHandle")
    {W9 : Nat} {Pre : Pt → Array Value → Prop} {Post : Pt → Array Value → Option Value → Pt → Prop} {PostX : Pt → Array Value → Addr → Pt → Prop} (hK : vx_Back l R p e below s args y 5 W9 Pre Post PostX)
    {b : Addr} {cellB : Cell} {kB : Class} (hcell : T.heap[b]? = some cellB) (hobj : cellB.vm.isStatics = false) (hcls : s.vm.findClass C = some cellB.cls) (hkB : s.vm.classes[cellB.cls]? = some kB)
    {g : JFrame} (hg : g.method = m) (hsize : g.locals.size = c.maxLocals) {argsL rest : List Value} (hlen : ∀ sig, parseMethodDescriptor x.desc = some sig → argsL.length = sig.parameters.length)
    (hstack : g.stack = argsL.reverse ++ .ref b :: rest) (hW : 2 * g.monitorRoom + (rest.map fun v => v.category).sum ≤ W9) (hdg : decode c.code g.pc = .ok (.invokeinterface index count, 5))
    (hpre : ∀ vm₁, s.WarmedH vm₁ → Pre ⟨T.setVm vm₁, locs, cells, slots⟩ (Value.ref b :: argsL).toArray) :
    (∃ (v : Option Value) (vm₁ : Vm) (B : Pt), s.WarmedH vm₁ ∧ Stand p l e R s m args below meth c B.U B.locs B.cells B.slots ∧ Post ⟨T.setVm vm₁, locs, cells, slots⟩ (Value.ref b :: argsL).toArray v B ∧
      ∀ target, Steps p.tables e below (B.U.setTop { g with pc := g.pc + 5, stack := v.toList ++ rest }) target → Steps p.tables e below (T.setTop g) target) ∨
    (∃ (q : Addr) (vm₁ : Vm) (B : Pt), s.WarmedH vm₁ ∧ Stand p l e R s m args below meth c B.U B.locs B.cells B.slots ∧ PostX ⟨T.setVm vm₁, locs, cells, slots⟩ (Value.ref b :: argsL).toArray q B ∧
      Steps p.tables e below (T.setTop g) ((B.U.setTop { g with stack := rest }).pushFrame (.throwing q))) := by
  obtain ⟨r0, r, hn, hrm, hstR, hsigR⟩ := Cond.declares_spec hdecl
  obtain ⟨cL, kL, r1, hcL, hkL, hiL, hfoundL, hn1⟩ := Cond.interfaceMethod_spec hface
  cases hn.symm.trans hn1
  have hr0cls : r0.cls = cL := Option.some.inj ((findClass_of_methodNamed hn).symm.trans hcL)
  obtain ⟨hnameR, hdescR⟩ := name_of_methodNamed hn hrm
  obtain ⟨mk, methM, hnamed, hmethM, -, habM⟩ := Cond.instanceMethod_spec hinst
  obtain ⟨c2, r2, m2, q1, q2, q3, q4, -⟩ := Cond.selects_spec hsel
  cases hcls.symm.trans q1
  cases hfoundL.symm.trans q2
  cases hnamed.symm.trans q3
  have hselP : selectMethod e.platform s.vm cellB.cls r0 = .method mk := by rw [Launch.admits_selectMethod X.admits]; exact q4
  have hpubM : hasFlag methM.accessFlags Acc.public_ = true := Cond.publicMethod_spec hnamed hmethM hpub
  have hway : ((cellB.cls :: s.vm.superclasses cellB.cls).any fun k => (declaredIn s.vm r.name r.desc k).any fun (_, z) => z.isPrivate || z.isStatic) = false := by
    rw [hnameR, hdescR]; exact Cond.unhidden_spec hcls hunh
  obtain ⟨c3, t3, w1, w2, w3⟩ := Cond.castable_spec hcast
  cases hcls.symm.trans w1
  cases hcL.symm.trans w2
  obtain ⟨vm₁, X₁, hstep₁⟩ := X.invokeinterface hexec hown hlink hn hrm hstR (by rw [hr0cls]; exact hkL) hiL hx (a := b) (cell := cellB) (kcell := kB) hcell
    (fun z h => by rw [h] at hobj; cases hobj) hkB (by rw [hr0cls]; exact w3) hselP hmethM hway hpubM habM (g := g) hg (argsL := argsL) (rest := rest) (hlen _ hsigR) hstack hdg
  rcases hK m meth c ⟨T.setVm vm₁, locs, cells, slots⟩ { g with stack := rest } (.invokeinterface index count) mk (Value.ref b :: argsL).toArray X₁ hg hsize hdg hW (X₁.named hnamed) (hpre vm₁ X₁.warmed) with ⟨v, B, X', hpost, hsteps⟩ | ⟨q, B, X', hpost, hsteps⟩
  · exact Or.inl ⟨v, vm₁, B, X₁.warmed, X', hpost, fun target h => hstep₁ _ fun acts => by rw [doInvoke_state]; exact hsteps.trans h⟩
  · exact Or.inr ⟨q, vm₁, B, X₁.warmed, X', hpost, hstep₁ _ fun acts => by rw [doInvoke_state]; exact hsteps⟩
theorem vx_runF {x y : MethodName} {bytes cc : ByteArray} {maxL nL mc ms n index count : Nat} {ret : Option FieldType} {ws : List Cond} {rm : Room} {Pc : Array Value → State → Prop} {Qc : Array Value → State → Outcome → State → Prop} {XC : String → State → State → Prop} {free : Addr → Prop} {Ts : List Cond} {own C : String} {cC : ClassId} {b : Addr} {As rest : List Value} {g : JFrame}
    (hat : ClassAt s C cC) (S : CallFix p m c cc nL s args Ts own) (hM : vx_Met l y ws rm Pc Qc XC mc ms free) (cw : va_CI R s args own C index x y bytes maxL ret ws rm mc ms n) (hp : PreV s H C b Pc As)
    (hg : g.method = m) (hn : As.length = n) (hsize : g.locals.size = nL) (hstack : g.stack = As.reverse ++ .ref b :: rest) (hW : 2 * g.monitorRoom + (rest.map fun v => v.category).sum ≤ 8) (hdg : decode cc g.pc = .ok (.invokeinterface index count, 5)) (hf : cells + mc ≤ R.cells ∧ slots + ms ≤ R.slots) :
    vx_Run5 p l e R s m args below meth c H locs cells slots mc ms g rest (Qc (Value.ref b :: As).toArray) XC free := by
  obtain ⟨hrc, hrs, hfr, hlo, hws, hcw⟩ := cw.back
  have hini := cw.init
  have hK : vx_Back l R p e below s args y 5 8 (PreOf R mc ms Pc) (PostOf Qc mc ms free) (vx_Post XC mc ms free) := vx_back (bytes := bytes) (maxL := maxL) (ret := ret) hM hp.1 hrc hrs hfr hlo hws hcw (fun a' U hW => word_at hW (Or.inl (by first | rfl | simp [Cond.onTables, Cond.keeps, Cond.steady])) hini)
  obtain ⟨hx, hb, hml, ho, -⟩ := S
  obtain ⟨-, ⟨cellB, hcB, hoB, hclB⟩, hPc⟩ := hp
  obtain ⟨hfc, kB, hkB, -⟩ := hat
  cases hfc.symm.trans hclB
  intro T hT X
  rcases vx_callIF X hx (C := C) (bytes := bytes) (maxL := maxL) (ret := ret) ho cw.link cw.decl cw.face cw.sel cw.inst cw.pub cw.unh cw.cast cw.code cw.notMH hK (by rw [hT]; exact hcB) hoB hclB hkB hg (hsize.trans hml.symm) (argsL := As) (rest := rest) (fun sig h => hn.trans (cw.len sig h)) hstack hW (by rw [hb]; exact hdg)
    (fun vm₁ hW₁ => ⟨hf.1, hf.2, hPc (T.setVm vm₁) hT hW₁⟩) with ⟨v, vm₁, ⟨U', l2, c2, s2⟩, hW₁, X', ⟨g', mk, t, L, e1, e2, hq, h1, hL, h2, h3⟩, st⟩ | ⟨q, vm₁, ⟨U', l2, c2, s2⟩, hW₁, X', ⟨g', mk, t, L, E, ce, e1, e2, hq, hce, hcv, hcl, h1, hL, h2, h3⟩, st⟩
  · dsimp only [Pt.U, Pt.locs, Pt.cells, Pt.slots] at X' e1 e2 h1 h2 h3 st
    subst h1; subst h2; subst h3
    exact Or.inl ⟨v, (T.setVm vm₁).calling g' mk (Value.ref b :: As).toArray, t, U', L, hT, X', hL, e1, e2, hq, st⟩
  · dsimp only [Pt.U, Pt.locs, Pt.cells, Pt.slots] at X' e1 e2 h1 h2 h3 st hcl
    subst h1; subst h2; subst h3
    exact Or.inr ⟨q, (T.setVm vm₁).calling g' mk (Value.ref b :: As).toArray, t, U', L, E, ce, hT, X', hL, e1, e2, hq, hce, hcv, vx_cls hW₁ hcl, st⟩
theorem vx_callFv {S SX : Type} {post : S → Prop} {px : SX → Prop} {B : S → State → Prop} {BX : String → SX → State → Prop} {AX : Nat → Prop} (hr : vx_Run5 p l e R s m args below meth c H locs cells slots mc ms (F0 m pc ls st0) rest (va_Qv post B A1 a) (vx_X px BX AX) free) (hS : va_S A0 H0 H locs) (hA : ∀ q, q < H.size → A1 q → A0 q) (hf : ∀ q, free q → A0 q) (hAX : ∀ q, q < H.size → AX q → A0 q)
    (kx : ∀ (E : String) (ce : Cell) (q9 : Addr) (u : SX) (t : State) (H1 : Heap) (locs1 : List Loc), t.heap = H1 → s.vm.Alike t.vm → px u → BX E u t → H.size ≤ H1.size → (∀ q : Nat, q < H.size → ¬ AX q → H1[q]? = H[q]?) → va_S A0 H0 H1 locs1 → H1[q9]? = some ce → ce.vm = .none → s.vm.findClass E = some ce.cls → vx_W p l e R s m args below meth c H1 locs1 (cells + mc) (slots + ms) Q (F0 m pc ls rest) q9)
    (kk : ∀ (u : S) (t : State) (H1 : Heap) (locs1 : List Loc), t.heap = H1 → s.vm.Alike t.vm → post u → B u t → H.size ≤ H1.size → (∀ q : Nat, q < H.size → ¬ A1 q → H1[q]? = H[q]?) → va_S A0 H0 H1 locs1 → W p l e R s m args below meth c H1 locs1 (cells + mc) (slots + ms) Q (F0 m (pc + 5) ls (rest))) : W p l e R s m args below meth c H locs cells slots Q (F0 m pc ls st0) := by
  intro T hT X
  rcases hr T hT X with ⟨v, st₀, t, T', L, h0, X', hL, e1, e2, ⟨⟨u, hv, hp, hb⟩, hF⟩, st⟩ | ⟨q, st₀, t, T', L, E, ce, h0, X', hL, e1, e2, ⟨u, hp, hb, hF⟩, hce, hcv, hcl, st⟩
  · cases hv
    obtain ⟨k1, k2, k3⟩ := vx_keep h0 e1 hS hA hf hL hF
    obtain ⟨t2, a1, b1⟩ := kk u t T'.heap (locs ++ L) e1.symm (by rw [← e2]; exact X'.warmed.alike) hp hb k1 k2 k3 T' rfl X'
    exact ⟨t2, st t2 a1, b1⟩
  · obtain ⟨k1, k2, k3⟩ := vx_keep h0 e1 hS hAX hf hL hF
    obtain ⟨t2, a1, b1⟩ := kx E ce q u t T'.heap (locs ++ L) e1.symm (by rw [← e2]; exact X'.warmed.alike) hp hb k1 k2 k3 (by rw [e1]; exact hce) hcv hcl T' rfl X'
    exact ⟨t2, st.trans a1, b1⟩
theorem vx_callFi {S SX : Type} {post : Int32 → S → Prop} {px : SX → Prop} {B : S → State → Prop} {BX : String → SX → State → Prop} {AX : Nat → Prop} (hr : vx_Run5 p l e R s m args below meth c H locs cells slots mc ms (F0 m pc ls st0) rest (va_Qi post B A1 a) (vx_X px BX AX) free) (hS : va_S A0 H0 H locs) (hA : ∀ q, q < H.size → A1 q → A0 q) (hf : ∀ q, free q → A0 q) (hAX : ∀ q, q < H.size → AX q → A0 q)
    (kx : ∀ (E : String) (ce : Cell) (q9 : Addr) (u : SX) (t : State) (H1 : Heap) (locs1 : List Loc), t.heap = H1 → s.vm.Alike t.vm → px u → BX E u t → H.size ≤ H1.size → (∀ q : Nat, q < H.size → ¬ AX q → H1[q]? = H[q]?) → va_S A0 H0 H1 locs1 → H1[q9]? = some ce → ce.vm = .none → s.vm.findClass E = some ce.cls → vx_W p l e R s m args below meth c H1 locs1 (cells + mc) (slots + ms) Q (F0 m pc ls rest) q9)
    (kk : ∀ (r : Int32) (u : S) (t : State) (H1 : Heap) (locs1 : List Loc), t.heap = H1 → s.vm.Alike t.vm → post r u → B u t → H.size ≤ H1.size → (∀ q : Nat, q < H.size → ¬ A1 q → H1[q]? = H[q]?) → va_S A0 H0 H1 locs1 → W p l e R s m args below meth c H1 locs1 (cells + mc) (slots + ms) Q (F0 m (pc + 5) ls (.int r :: rest))) : W p l e R s m args below meth c H locs cells slots Q (F0 m pc ls st0) := by
  intro T hT X
  rcases hr T hT X with ⟨v, st₀, t, T', L, h0, X', hL, e1, e2, ⟨⟨r, u, hv, hp, hb⟩, hF⟩, st⟩ | ⟨q, st₀, t, T', L, E, ce, h0, X', hL, e1, e2, ⟨u, hp, hb, hF⟩, hce, hcv, hcl, st⟩
  · cases hv
    obtain ⟨k1, k2, k3⟩ := vx_keep h0 e1 hS hA hf hL hF
    obtain ⟨t2, a1, b1⟩ := kk r u t T'.heap (locs ++ L) e1.symm (by rw [← e2]; exact X'.warmed.alike) hp hb k1 k2 k3 T' rfl X'
    exact ⟨t2, st t2 a1, b1⟩
  · obtain ⟨k1, k2, k3⟩ := vx_keep h0 e1 hS hAX hf hL hF
    obtain ⟨t2, a1, b1⟩ := kx E ce q u t T'.heap (locs ++ L) e1.symm (by rw [← e2]; exact X'.warmed.alike) hp hb k1 k2 k3 (by rw [e1]; exact hce) hcv hcl T' rfl X'
    exact ⟨t2, st.trans a1, b1⟩
theorem vx_callFl {S SX : Type} {post : Int64 → S → Prop} {px : SX → Prop} {B : S → State → Prop} {BX : String → SX → State → Prop} {AX : Nat → Prop} (hr : vx_Run5 p l e R s m args below meth c H locs cells slots mc ms (F0 m pc ls st0) rest (va_Ql post B A1 a) (vx_X px BX AX) free) (hS : va_S A0 H0 H locs) (hA : ∀ q, q < H.size → A1 q → A0 q) (hf : ∀ q, free q → A0 q) (hAX : ∀ q, q < H.size → AX q → A0 q)
    (kx : ∀ (E : String) (ce : Cell) (q9 : Addr) (u : SX) (t : State) (H1 : Heap) (locs1 : List Loc), t.heap = H1 → s.vm.Alike t.vm → px u → BX E u t → H.size ≤ H1.size → (∀ q : Nat, q < H.size → ¬ AX q → H1[q]? = H[q]?) → va_S A0 H0 H1 locs1 → H1[q9]? = some ce → ce.vm = .none → s.vm.findClass E = some ce.cls → vx_W p l e R s m args below meth c H1 locs1 (cells + mc) (slots + ms) Q (F0 m pc ls rest) q9)
    (kk : ∀ (r : Int64) (u : S) (t : State) (H1 : Heap) (locs1 : List Loc), t.heap = H1 → s.vm.Alike t.vm → post r u → B u t → H.size ≤ H1.size → (∀ q : Nat, q < H.size → ¬ A1 q → H1[q]? = H[q]?) → va_S A0 H0 H1 locs1 → W p l e R s m args below meth c H1 locs1 (cells + mc) (slots + ms) Q (F0 m (pc + 5) ls (.long r :: rest))) : W p l e R s m args below meth c H locs cells slots Q (F0 m pc ls st0) := by
  intro T hT X
  rcases hr T hT X with ⟨v, st₀, t, T', L, h0, X', hL, e1, e2, ⟨⟨r, u, hv, hp, hb⟩, hF⟩, st⟩ | ⟨q, st₀, t, T', L, E, ce, h0, X', hL, e1, e2, ⟨u, hp, hb, hF⟩, hce, hcv, hcl, st⟩
  · cases hv
    obtain ⟨k1, k2, k3⟩ := vx_keep h0 e1 hS hA hf hL hF
    obtain ⟨t2, a1, b1⟩ := kk r u t T'.heap (locs ++ L) e1.symm (by rw [← e2]; exact X'.warmed.alike) hp hb k1 k2 k3 T' rfl X'
    exact ⟨t2, st t2 a1, b1⟩
  · obtain ⟨k1, k2, k3⟩ := vx_keep h0 e1 hS hAX hf hL hF
    obtain ⟨t2, a1, b1⟩ := kx E ce q u t T'.heap (locs ++ L) e1.symm (by rw [← e2]; exact X'.warmed.alike) hp hb k1 k2 k3 (by rw [e1]; exact hce) hcv hcl T' rfl X'
    exact ⟨t2, st.trans a1, b1⟩
theorem vx_callFf {S SX : Type} {post : UInt32 → S → Prop} {px : SX → Prop} {B : S → State → Prop} {BX : String → SX → State → Prop} {AX : Nat → Prop} (hr : vx_Run5 p l e R s m args below meth c H locs cells slots mc ms (F0 m pc ls st0) rest (va_Qf post B A1 a) (vx_X px BX AX) free) (hS : va_S A0 H0 H locs) (hA : ∀ q, q < H.size → A1 q → A0 q) (hf : ∀ q, free q → A0 q) (hAX : ∀ q, q < H.size → AX q → A0 q)
    (kx : ∀ (E : String) (ce : Cell) (q9 : Addr) (u : SX) (t : State) (H1 : Heap) (locs1 : List Loc), t.heap = H1 → s.vm.Alike t.vm → px u → BX E u t → H.size ≤ H1.size → (∀ q : Nat, q < H.size → ¬ AX q → H1[q]? = H[q]?) → va_S A0 H0 H1 locs1 → H1[q9]? = some ce → ce.vm = .none → s.vm.findClass E = some ce.cls → vx_W p l e R s m args below meth c H1 locs1 (cells + mc) (slots + ms) Q (F0 m pc ls rest) q9)
    (kk : ∀ (r : UInt32) (u : S) (t : State) (H1 : Heap) (locs1 : List Loc), t.heap = H1 → s.vm.Alike t.vm → post r u → B u t → H.size ≤ H1.size → (∀ q : Nat, q < H.size → ¬ A1 q → H1[q]? = H[q]?) → va_S A0 H0 H1 locs1 → W p l e R s m args below meth c H1 locs1 (cells + mc) (slots + ms) Q (F0 m (pc + 5) ls (.float r :: rest))) : W p l e R s m args below meth c H locs cells slots Q (F0 m pc ls st0) := by
  intro T hT X
  rcases hr T hT X with ⟨v, st₀, t, T', L, h0, X', hL, e1, e2, ⟨⟨r, u, hv, hp, hb⟩, hF⟩, st⟩ | ⟨q, st₀, t, T', L, E, ce, h0, X', hL, e1, e2, ⟨u, hp, hb, hF⟩, hce, hcv, hcl, st⟩
  · cases hv
    obtain ⟨k1, k2, k3⟩ := vx_keep h0 e1 hS hA hf hL hF
    obtain ⟨t2, a1, b1⟩ := kk r u t T'.heap (locs ++ L) e1.symm (by rw [← e2]; exact X'.warmed.alike) hp hb k1 k2 k3 T' rfl X'
    exact ⟨t2, st t2 a1, b1⟩
  · obtain ⟨k1, k2, k3⟩ := vx_keep h0 e1 hS hAX hf hL hF
    obtain ⟨t2, a1, b1⟩ := kx E ce q u t T'.heap (locs ++ L) e1.symm (by rw [← e2]; exact X'.warmed.alike) hp hb k1 k2 k3 (by rw [e1]; exact hce) hcv hcl T' rfl X'
    exact ⟨t2, st.trans a1, b1⟩
theorem vx_callFd {S SX : Type} {post : UInt64 → S → Prop} {px : SX → Prop} {B : S → State → Prop} {BX : String → SX → State → Prop} {AX : Nat → Prop} (hr : vx_Run5 p l e R s m args below meth c H locs cells slots mc ms (F0 m pc ls st0) rest (va_Qd post B A1 a) (vx_X px BX AX) free) (hS : va_S A0 H0 H locs) (hA : ∀ q, q < H.size → A1 q → A0 q) (hf : ∀ q, free q → A0 q) (hAX : ∀ q, q < H.size → AX q → A0 q)
    (kx : ∀ (E : String) (ce : Cell) (q9 : Addr) (u : SX) (t : State) (H1 : Heap) (locs1 : List Loc), t.heap = H1 → s.vm.Alike t.vm → px u → BX E u t → H.size ≤ H1.size → (∀ q : Nat, q < H.size → ¬ AX q → H1[q]? = H[q]?) → va_S A0 H0 H1 locs1 → H1[q9]? = some ce → ce.vm = .none → s.vm.findClass E = some ce.cls → vx_W p l e R s m args below meth c H1 locs1 (cells + mc) (slots + ms) Q (F0 m pc ls rest) q9)
    (kk : ∀ (r : UInt64) (u : S) (t : State) (H1 : Heap) (locs1 : List Loc), t.heap = H1 → s.vm.Alike t.vm → post r u → B u t → H.size ≤ H1.size → (∀ q : Nat, q < H.size → ¬ A1 q → H1[q]? = H[q]?) → va_S A0 H0 H1 locs1 → W p l e R s m args below meth c H1 locs1 (cells + mc) (slots + ms) Q (F0 m (pc + 5) ls (.double r :: rest))) : W p l e R s m args below meth c H locs cells slots Q (F0 m pc ls st0) := by
  intro T hT X
  rcases hr T hT X with ⟨v, st₀, t, T', L, h0, X', hL, e1, e2, ⟨⟨r, u, hv, hp, hb⟩, hF⟩, st⟩ | ⟨q, st₀, t, T', L, E, ce, h0, X', hL, e1, e2, ⟨u, hp, hb, hF⟩, hce, hcv, hcl, st⟩
  · cases hv
    obtain ⟨k1, k2, k3⟩ := vx_keep h0 e1 hS hA hf hL hF
    obtain ⟨t2, a1, b1⟩ := kk r u t T'.heap (locs ++ L) e1.symm (by rw [← e2]; exact X'.warmed.alike) hp hb k1 k2 k3 T' rfl X'
    exact ⟨t2, st t2 a1, b1⟩
  · obtain ⟨k1, k2, k3⟩ := vx_keep h0 e1 hS hAX hf hL hF
    obtain ⟨t2, a1, b1⟩ := kx E ce q u t T'.heap (locs ++ L) e1.symm (by rw [← e2]; exact X'.warmed.alike) hp hb k1 k2 k3 (by rw [e1]; exact hce) hcv hcl T' rfl X'
    exact ⟨t2, st.trans a1, b1⟩
end
/-! ===== END ===== -/
/-! ===== BEGIN by an interface, a method with a table of its own that may throw (follows va_callIFW, va_runFW) ===== -/
section
variable {p : Program} {l : Launch} {e : Env} {R : Room} {s : State} {m : MethodId} {args : Array Value} {below : List Frame} {meth : Method} {c : Code} {H : Heap} {locs : List Loc} {cells slots : Nat}
theorem vx_callIFW {T : State} (X : Stand p l e R s m args below meth c T locs cells slots) (hexec : p.tables.exec = Jvm.exec) {own C : String} {index count : Nat} {x y : MethodName} {bytes : ByteArray} {maxL : Nat} {ret : Option FieldType} {hh : List (Nat × Nat × Nat × Nat)}
    (hown : s.vm.findClass own = some m.cls) (hlink : (Cond.methodLink own index x).before args s = true) (hdecl : (Cond.declares x).before args s = true) (hface : (Cond.interfaceMethod x.cls x.cls x.name x.desc).before args s = true)
    (hsel : (Cond.selects C x y).before args s = true) (hinst : (Cond.instanceMethod y).before args s = true) (hpub : (Cond.publicMethod y).before args s = true) (hunh : (Cond.unhidden C x.name x.desc).before args s = true)
    (hcast : (Cond.castable C x.cls).before args s = true) (hcode : (Cond.codeWith y bytes maxL ret hh).before args s = true) (hx : x.cls ≠ "java/lang/invoke/MethodHandle" ∧ x.cls ≠ "java/lang/invoke/VarHandle")
    {W : Nat} {Pre : Pt → Array Value → Prop} {Post : Pt → Array Value → Option Value → Pt → Prop} {PostX : Pt → Array Value → Addr → Pt → Prop} (hK : vx_Back l R p e below s args y 5 W Pre Post PostX)
    {b : Addr} {cellB : Cell} {kB : Class} (hcell : T.heap[b]? = some cellB) (hobj : cellB.vm.isStatics = false) (hcls : s.vm.findClass C = some cellB.cls) (hkB : s.vm.classes[cellB.cls]? = some kB)
    {g : JFrame} (hg : g.method = m) (hsize : g.locals.size = c.maxLocals) {argsL rest : List Value} (hlen : ∀ sig, parseMethodDescriptor x.desc = some sig → argsL.length = sig.parameters.length)
    (hstack : g.stack = argsL.reverse ++ .ref b :: rest) (hW : 2 * g.monitorRoom + (rest.map fun v => v.category).sum ≤ W) (hdg : decode c.code g.pc = .ok (.invokeinterface index count, 5))
    (hpre : ∀ vm₁, s.WarmedH vm₁ → Pre ⟨T.setVm vm₁, locs, cells, slots⟩ (Value.ref b :: argsL).toArray) :
    (∃ (v : Option Value) (vm₁ : Vm) (B : Pt), s.WarmedH vm₁ ∧ Stand p l e R s m args below meth c B.U B.locs B.cells B.slots ∧ Post ⟨T.setVm vm₁, locs, cells, slots⟩ (Value.ref b :: argsL).toArray v B ∧
      ∀ target, Steps p.tables e below (B.U.setTop { g with pc := g.pc + 5, stack := v.toList ++ rest }) target → Steps p.tables e below (T.setTop g) target) ∨
    (∃ (q : Addr) (vm₁ : Vm) (B : Pt), s.WarmedH vm₁ ∧ Stand p l e R s m args below meth c B.U B.locs B.cells B.slots ∧ PostX ⟨T.setVm vm₁, locs, cells, slots⟩ (Value.ref b :: argsL).toArray q B ∧
      Steps p.tables e below (T.setTop g) ((B.U.setTop { g with stack := rest }).pushFrame (.throwing q))) := by
  obtain ⟨r0, r, hn, hrm, hstR, hsigR⟩ := Cond.declares_spec hdecl
  obtain ⟨cL, kL, r1, hcL, hkL, hiL, hfoundL, hn1⟩ := Cond.interfaceMethod_spec hface
  cases hn.symm.trans hn1
  have hr0cls : r0.cls = cL := Option.some.inj ((findClass_of_methodNamed hn).symm.trans hcL)
  obtain ⟨hnameR, hdescR⟩ := name_of_methodNamed hn hrm
  obtain ⟨mk, methM, hnamed, hmethM, -, habM⟩ := Cond.instanceMethod_spec hinst
  obtain ⟨c2, r2, m2, q1, q2, q3, q4, -⟩ := Cond.selects_spec hsel
  cases hcls.symm.trans q1
  cases hfoundL.symm.trans q2
  cases hnamed.symm.trans q3
  have hselP : selectMethod e.platform s.vm cellB.cls r0 = .method mk := by rw [Launch.admits_selectMethod X.admits]; exact q4
  have hpubM : hasFlag methM.accessFlags Acc.public_ = true := Cond.publicMethod_spec hnamed hmethM hpub
  have hway : ((cellB.cls :: s.vm.superclasses cellB.cls).any fun k => (declaredIn s.vm r.name r.desc k).any fun (_, z) => z.isPrivate || z.isStatic) = false := by
    rw [hnameR, hdescR]; exact Cond.unhidden_spec hcls hunh
  obtain ⟨c3, t3, w1, w2, w3⟩ := Cond.castable_spec hcast
  cases hcls.symm.trans w1
  cases hcL.symm.trans w2
  obtain ⟨vm₁, X₁, hstep₁⟩ := X.invokeinterface hexec hown hlink hn hrm hstR (by rw [hr0cls]; exact hkL) hiL hx (a := b) (cell := cellB) (kcell := kB) hcell
    (fun z h => by rw [h] at hobj; cases hobj) hkB (by rw [hr0cls]; exact w3) hselP hmethM hway hpubM habM (g := g) hg (argsL := argsL) (rest := rest) (hlen _ hsigR) hstack hdg
  rcases hK m meth c ⟨T.setVm vm₁, locs, cells, slots⟩ { g with stack := rest } (.invokeinterface index count) mk (Value.ref b :: argsL).toArray X₁ hg hsize hdg hW (X₁.named hnamed) (hpre vm₁ X₁.warmed) with ⟨v, B, X', hpost, hsteps⟩ | ⟨q, B, X', hpost, hsteps⟩
  · exact Or.inl ⟨v, vm₁, B, X₁.warmed, X', hpost, fun target h => hstep₁ _ fun acts => by rw [doInvoke_state]; exact hsteps.trans h⟩
  · exact Or.inr ⟨q, vm₁, B, X₁.warmed, X', hpost, hstep₁ _ fun acts => by rw [doInvoke_state]; exact hsteps⟩
theorem vx_runFW {x y : MethodName} {bytes cc : ByteArray} {maxL nL mc ms n index count : Nat} {ret : Option FieldType} {hh : List (Nat × Nat × Nat × Nat)} {ws : List Cond} {rm : Room} {Pc : Array Value → State → Prop} {Qc : Array Value → State → Outcome → State → Prop} {XC : String → State → State → Prop} {free : Addr → Prop} {Ts : List Cond} {own C : String} {cC : ClassId} {b : Addr} {As rest : List Value} {g : JFrame}
    (hat : ClassAt s C cC) (S : CallFix p m c cc nL s args Ts own) (hM : vx_Met l y ws rm Pc Qc XC mc ms free) (cw : va_CIW R s args own C index x y bytes maxL ret hh ws rm mc ms n) (hp : PreV s H C b Pc As)
    (hg : g.method = m) (hn : As.length = n) (hsize : g.locals.size = nL) (hstack : g.stack = As.reverse ++ .ref b :: rest) (hW : 2 * g.monitorRoom + (rest.map fun v => v.category).sum ≤ 8) (hdg : decode cc g.pc = .ok (.invokeinterface index count, 5)) (hf : cells + mc ≤ R.cells ∧ slots + ms ≤ R.slots) :
    vx_Run5 p l e R s m args below meth c H locs cells slots mc ms g rest (Qc (Value.ref b :: As).toArray) XC free := by
  obtain ⟨hrc, hrs, hfr, hlo, hws, hcw⟩ := cw.back
  have hini := cw.init
  have hK : vx_Back l R p e below s args y 5 8 (PreOf R mc ms Pc) (PostOf Qc mc ms free) (vx_Post XC mc ms free) := vx_backW (hh := hh) (bytes := bytes) (maxL := maxL) (ret := ret) hM hp.1 hrc hrs hfr hlo hws hcw (fun a' U hW => word_at hW (Or.inl (by first | rfl | simp [Cond.onTables, Cond.keeps, Cond.steady])) hini)
  obtain ⟨hx, hb, hml, ho, -⟩ := S
  obtain ⟨-, ⟨cellB, hcB, hoB, hclB⟩, hPc⟩ := hp
  obtain ⟨hfc, kB, hkB, -⟩ := hat
  cases hfc.symm.trans hclB
  intro T hT X
  rcases vx_callIFW X hx (C := C) (hh := hh) (bytes := bytes) (maxL := maxL) (ret := ret) ho cw.link cw.decl cw.face cw.sel cw.inst cw.pub cw.unh cw.cast cw.code cw.notMH hK (by rw [hT]; exact hcB) hoB hclB hkB hg (hsize.trans hml.symm) (argsL := As) (rest := rest) (fun sig h => hn.trans (cw.len sig h)) hstack hW (by rw [hb]; exact hdg)
    (fun vm₁ hW₁ => ⟨hf.1, hf.2, hPc (T.setVm vm₁) hT hW₁⟩) with ⟨v, vm₁, ⟨U', l2, c2, s2⟩, hW₁, X', ⟨g', mk, t, L, e1, e2, hq, h1, hL, h2, h3⟩, st⟩ | ⟨q, vm₁, ⟨U', l2, c2, s2⟩, hW₁, X', ⟨g', mk, t, L, E, ce, e1, e2, hq, hce, hcv, hcl, h1, hL, h2, h3⟩, st⟩
  · dsimp only [Pt.U, Pt.locs, Pt.cells, Pt.slots] at X' e1 e2 h1 h2 h3 st
    subst h1; subst h2; subst h3
    exact Or.inl ⟨v, (T.setVm vm₁).calling g' mk (Value.ref b :: As).toArray, t, U', L, hT, X', hL, e1, e2, hq, st⟩
  · dsimp only [Pt.U, Pt.locs, Pt.cells, Pt.slots] at X' e1 e2 h1 h2 h3 st hcl
    subst h1; subst h2; subst h3
    exact Or.inr ⟨q, (T.setVm vm₁).calling g' mk (Value.ref b :: As).toArray, t, U', L, E, ce, hT, X', hL, e1, e2, hq, hce, hcv, vx_cls hW₁ hcl, st⟩
end
/-! ===== END ===== -/
/-! ===== BEGIN .. of methods that hand back an object of the pool ===== -/
section
variable {p : Program} {l : Launch} {e : Env} {R : Room} {s : State} {m : MethodId} {args : Array Value} {below : List Frame} {meth : Method} {c : Code} {H : Heap} {locs : List Loc} {cells slots : Nat} {Q : State → Prop}
variable {mc ms : Nat} {free : Addr → Prop} {A0 A1 : Nat → Prop} {H0 : Heap} {a : Array Value} {pc : Nat} {ls : Array Slot} {st0 rest : List Value}
theorem vx_callq {S SX : Type} {post : Option Nat → S → Prop} {px : SX → Prop} {B : S → State → Prop} {BX : String → SX → State → Prop} {AX : Nat → Prop} (hr : vx_Run p l e R s m args below meth c H locs cells slots mc ms (F0 m pc ls st0) rest (va_Qq post B A1 a) (vx_X px BX AX) free) (hS : va_S A0 H0 H locs) (hA : ∀ q, q < H.size → A1 q → A0 q) (hf : ∀ q, free q → A0 q) (hAX : ∀ q, q < H.size → AX q → A0 q)
    (kx : ∀ (E : String) (ce : Cell) (q9 : Addr) (u : SX) (t : State) (H1 : Heap) (locs1 : List Loc), t.heap = H1 → s.vm.Alike t.vm → px u → BX E u t → H.size ≤ H1.size → (∀ q : Nat, q < H.size → ¬ AX q → H1[q]? = H[q]?) → va_S A0 H0 H1 locs1 → H1[q9]? = some ce → ce.vm = .none → s.vm.findClass E = some ce.cls → vx_W p l e R s m args below meth c H1 locs1 (cells + mc) (slots + ms) Q (F0 m pc ls rest) q9)
    (kk : ∀ (r : Option Nat) (u : S) (t : State) (H1 : Heap) (locs1 : List Loc), t.heap = H1 → s.vm.Alike t.vm → post r u → B u t → H.size ≤ H1.size → (∀ q : Nat, q < H.size → ¬ A1 q → H1[q]? = H[q]?) → va_S A0 H0 H1 locs1 → W p l e R s m args below meth c H1 locs1 (cells + mc) (slots + ms) Q (F0 m (pc + 3) ls (va_rf r :: rest))) : W p l e R s m args below meth c H locs cells slots Q (F0 m pc ls st0) := by
  intro T hT X
  rcases hr T hT X with ⟨v, st₀, t, T', L, h0, X', hL, e1, e2, ⟨⟨r, u, hv, hp, hb⟩, hF⟩, st⟩ | ⟨q, st₀, t, T', L, E, ce, h0, X', hL, e1, e2, ⟨u, hp, hb, hF⟩, hce, hcv, hcl, st⟩
  · cases hv
    obtain ⟨k1, k2, k3⟩ := vx_keep h0 e1 hS hA hf hL hF
    obtain ⟨t2, a1, b1⟩ := kk r u t T'.heap (locs ++ L) e1.symm (by rw [← e2]; exact X'.warmed.alike) hp hb k1 k2 k3 T' rfl X'
    exact ⟨t2, st t2 a1, b1⟩
  · obtain ⟨k1, k2, k3⟩ := vx_keep h0 e1 hS hAX hf hL hF
    obtain ⟨t2, a1, b1⟩ := kx E ce q u t T'.heap (locs ++ L) e1.symm (by rw [← e2]; exact X'.warmed.alike) hp hb k1 k2 k3 (by rw [e1]; exact hce) hcv hcl T' rfl X'
    exact ⟨t2, st.trans a1, b1⟩
end
/-! ===== END ===== -/
/-! ===== BEGIN .. a constant ===== -/
section
variable {p : Program} {l : Launch} {e : Env} {R : Room} {s : State} {m : MethodId} {args : Array Value} {below : List Frame} {meth : Method} {c : Code} {H : Heap} {locs : List Loc} {cells slots : Nat} {Q : State → Prop}
variable {mc ms : Nat} {free : Addr → Prop} {A0 A1 : Nat → Prop} {H0 : Heap} {a : Array Value} {pc : Nat} {ls : Array Slot} {st0 rest : List Value}
theorem vx_calle {ad : Nat → Nat} {S SX : Type} {post : Option Nat → S → Prop} {px : SX → Prop} {B : S → State → Prop} {BX : String → SX → State → Prop} {AX : Nat → Prop} (hr : vx_Run p l e R s m args below meth c H locs cells slots mc ms (F0 m pc ls st0) rest (va_Qe ad post B A1 a) (vx_X px BX AX) free) (hS : va_S A0 H0 H locs) (hA : ∀ q, q < H.size → A1 q → A0 q) (hf : ∀ q, free q → A0 q) (hAX : ∀ q, q < H.size → AX q → A0 q)
    (kx : ∀ (E : String) (ce : Cell) (q9 : Addr) (u : SX) (t : State) (H1 : Heap) (locs1 : List Loc), t.heap = H1 → s.vm.Alike t.vm → px u → BX E u t → H.size ≤ H1.size → (∀ q : Nat, q < H.size → ¬ AX q → H1[q]? = H[q]?) → va_S A0 H0 H1 locs1 → H1[q9]? = some ce → ce.vm = .none → s.vm.findClass E = some ce.cls → vx_W p l e R s m args below meth c H1 locs1 (cells + mc) (slots + ms) Q (F0 m pc ls rest) q9)
    (kk : ∀ (r : Option Nat) (u : S) (t : State) (H1 : Heap) (locs1 : List Loc), t.heap = H1 → s.vm.Alike t.vm → post r u → B u t → H.size ≤ H1.size → (∀ q : Nat, q < H.size → ¬ A1 q → H1[q]? = H[q]?) → va_S A0 H0 H1 locs1 → W p l e R s m args below meth c H1 locs1 (cells + mc) (slots + ms) Q (F0 m (pc + 3) ls (va_re ad r :: rest))) : W p l e R s m args below meth c H locs cells slots Q (F0 m pc ls st0) := by
  intro T hT X
  rcases hr T hT X with ⟨v, st₀, t, T', L, h0, X', hL, e1, e2, ⟨⟨r, u, hv, hp, hb⟩, hF⟩, st⟩ | ⟨q, st₀, t, T', L, E, ce, h0, X', hL, e1, e2, ⟨u, hp, hb, hF⟩, hce, hcv, hcl, st⟩
  · cases hv
    obtain ⟨k1, k2, k3⟩ := vx_keep h0 e1 hS hA hf hL hF
    obtain ⟨t2, a1, b1⟩ := kk r u t T'.heap (locs ++ L) e1.symm (by rw [← e2]; exact X'.warmed.alike) hp hb k1 k2 k3 T' rfl X'
    exact ⟨t2, st t2 a1, b1⟩
  · obtain ⟨k1, k2, k3⟩ := vx_keep h0 e1 hS hAX hf hL hF
    obtain ⟨t2, a1, b1⟩ := kx E ce q u t T'.heap (locs ++ L) e1.symm (by rw [← e2]; exact X'.warmed.alike) hp hb k1 k2 k3 (by rw [e1]; exact hce) hcv hcl T' rfl X'
    exact ⟨t2, st.trans a1, b1⟩
end
/-! ===== END ===== -/
/-! ===== BEGIN .. by an interface, an object ===== -/
section
variable {p : Program} {l : Launch} {e : Env} {R : Room} {s : State} {m : MethodId} {args : Array Value} {below : List Frame} {meth : Method} {c : Code} {H : Heap} {locs : List Loc} {cells slots : Nat} {Q : State → Prop}
variable {mc ms : Nat} {free : Addr → Prop} {A0 A1 : Nat → Prop} {H0 : Heap} {a : Array Value} {pc : Nat} {ls : Array Slot} {st0 rest : List Value}
theorem vx_callFq {S SX : Type} {post : Option Nat → S → Prop} {px : SX → Prop} {B : S → State → Prop} {BX : String → SX → State → Prop} {AX : Nat → Prop} (hr : vx_Run5 p l e R s m args below meth c H locs cells slots mc ms (F0 m pc ls st0) rest (va_Qq post B A1 a) (vx_X px BX AX) free) (hS : va_S A0 H0 H locs) (hA : ∀ q, q < H.size → A1 q → A0 q) (hf : ∀ q, free q → A0 q) (hAX : ∀ q, q < H.size → AX q → A0 q)
    (kx : ∀ (E : String) (ce : Cell) (q9 : Addr) (u : SX) (t : State) (H1 : Heap) (locs1 : List Loc), t.heap = H1 → s.vm.Alike t.vm → px u → BX E u t → H.size ≤ H1.size → (∀ q : Nat, q < H.size → ¬ AX q → H1[q]? = H[q]?) → va_S A0 H0 H1 locs1 → H1[q9]? = some ce → ce.vm = .none → s.vm.findClass E = some ce.cls → vx_W p l e R s m args below meth c H1 locs1 (cells + mc) (slots + ms) Q (F0 m pc ls rest) q9)
    (kk : ∀ (r : Option Nat) (u : S) (t : State) (H1 : Heap) (locs1 : List Loc), t.heap = H1 → s.vm.Alike t.vm → post r u → B u t → H.size ≤ H1.size → (∀ q : Nat, q < H.size → ¬ A1 q → H1[q]? = H[q]?) → va_S A0 H0 H1 locs1 → W p l e R s m args below meth c H1 locs1 (cells + mc) (slots + ms) Q (F0 m (pc + 5) ls (va_rf r :: rest))) : W p l e R s m args below meth c H locs cells slots Q (F0 m pc ls st0) := by
  intro T hT X
  rcases hr T hT X with ⟨v, st₀, t, T', L, h0, X', hL, e1, e2, ⟨⟨r, u, hv, hp, hb⟩, hF⟩, st⟩ | ⟨q, st₀, t, T', L, E, ce, h0, X', hL, e1, e2, ⟨u, hp, hb, hF⟩, hce, hcv, hcl, st⟩
  · cases hv
    obtain ⟨k1, k2, k3⟩ := vx_keep h0 e1 hS hA hf hL hF
    obtain ⟨t2, a1, b1⟩ := kk r u t T'.heap (locs ++ L) e1.symm (by rw [← e2]; exact X'.warmed.alike) hp hb k1 k2 k3 T' rfl X'
    exact ⟨t2, st t2 a1, b1⟩
  · obtain ⟨k1, k2, k3⟩ := vx_keep h0 e1 hS hAX hf hL hF
    obtain ⟨t2, a1, b1⟩ := kx E ce q u t T'.heap (locs ++ L) e1.symm (by rw [← e2]; exact X'.warmed.alike) hp hb k1 k2 k3 (by rw [e1]; exact hce) hcv hcl T' rfl X'
    exact ⟨t2, st.trans a1, b1⟩
end
/-! ===== END ===== -/
/-! ===== BEGIN .. by an interface, a constant ===== -/
section
variable {p : Program} {l : Launch} {e : Env} {R : Room} {s : State} {m : MethodId} {args : Array Value} {below : List Frame} {meth : Method} {c : Code} {H : Heap} {locs : List Loc} {cells slots : Nat} {Q : State → Prop}
variable {mc ms : Nat} {free : Addr → Prop} {A0 A1 : Nat → Prop} {H0 : Heap} {a : Array Value} {pc : Nat} {ls : Array Slot} {st0 rest : List Value}
theorem vx_callFe {ad : Nat → Nat} {S SX : Type} {post : Option Nat → S → Prop} {px : SX → Prop} {B : S → State → Prop} {BX : String → SX → State → Prop} {AX : Nat → Prop} (hr : vx_Run5 p l e R s m args below meth c H locs cells slots mc ms (F0 m pc ls st0) rest (va_Qe ad post B A1 a) (vx_X px BX AX) free) (hS : va_S A0 H0 H locs) (hA : ∀ q, q < H.size → A1 q → A0 q) (hf : ∀ q, free q → A0 q) (hAX : ∀ q, q < H.size → AX q → A0 q)
    (kx : ∀ (E : String) (ce : Cell) (q9 : Addr) (u : SX) (t : State) (H1 : Heap) (locs1 : List Loc), t.heap = H1 → s.vm.Alike t.vm → px u → BX E u t → H.size ≤ H1.size → (∀ q : Nat, q < H.size → ¬ AX q → H1[q]? = H[q]?) → va_S A0 H0 H1 locs1 → H1[q9]? = some ce → ce.vm = .none → s.vm.findClass E = some ce.cls → vx_W p l e R s m args below meth c H1 locs1 (cells + mc) (slots + ms) Q (F0 m pc ls rest) q9)
    (kk : ∀ (r : Option Nat) (u : S) (t : State) (H1 : Heap) (locs1 : List Loc), t.heap = H1 → s.vm.Alike t.vm → post r u → B u t → H.size ≤ H1.size → (∀ q : Nat, q < H.size → ¬ A1 q → H1[q]? = H[q]?) → va_S A0 H0 H1 locs1 → W p l e R s m args below meth c H1 locs1 (cells + mc) (slots + ms) Q (F0 m (pc + 5) ls (va_re ad r :: rest))) : W p l e R s m args below meth c H locs cells slots Q (F0 m pc ls st0) := by
  intro T hT X
  rcases hr T hT X with ⟨v, st₀, t, T', L, h0, X', hL, e1, e2, ⟨⟨r, u, hv, hp, hb⟩, hF⟩, st⟩ | ⟨q, st₀, t, T', L, E, ce, h0, X', hL, e1, e2, ⟨u, hp, hb, hF⟩, hce, hcv, hcl, st⟩
  · cases hv
    obtain ⟨k1, k2, k3⟩ := vx_keep h0 e1 hS hA hf hL hF
    obtain ⟨t2, a1, b1⟩ := kk r u t T'.heap (locs ++ L) e1.symm (by rw [← e2]; exact X'.warmed.alike) hp hb k1 k2 k3 T' rfl X'
    exact ⟨t2, st t2 a1, b1⟩
  · obtain ⟨k1, k2, k3⟩ := vx_keep h0 e1 hS hAX hf hL hF
    obtain ⟨t2, a1, b1⟩ := kx E ce q u t T'.heap (locs ++ L) e1.symm (by rw [← e2]; exact X'.warmed.alike) hp hb k1 k2 k3 (by rw [e1]; exact hce) hcv hcl T' rfl X'
    exact ⟨t2, st.trans a1, b1⟩
end
/-! ===== END ===== -/
/-! ===== BEGIN what the machine throws by itself: null at a field, at athrow ===== -/
section VXM2
variable {p : Program} {l : Launch} {e : Env} {R : Room} {s : State} {m : MethodId} {args : Array Value} {below : List Frame} {meth : Method} {c : Code} {H : Heap} {locs : List Loc} {cells slots : Nat}
variable {Q : State → Prop} {cc : ByteArray} {pc : Nat} {ls : Array Slot} {rest : List Value}
theorem vx_getfN {D cl tys} {own ref C : String} {T : u_T} {N ci index : Nat} {Ts : List Cond} (hexec : p.tables.exec = Jvm.exec) (hb : c.code = cc) (hts : ∀ w ∈ Ts, w.before args s = true) (hin : ∀ w ∈ u_ws C T N, w ∈ Ts) (hown : s.vm.findClass own = some m.cls) (hK : va_K D cl tys s) (hc : cl[ci]? = some (C, T, N)) (k : Nat) (hk : k < N) (hlink : (Cond.fieldLink own index ref (T k).2.1 (T k).2.2.1).before args s = true) (hsame : ∀ x, s.fieldFound? (T k).1 (T k).2.1 (T k).2.2.1 = some x → s.fieldFound? ref (T k).2.1 (T k).2.2.1 = some x) (hdg : decode cc pc = .ok (.getfield index, 3)) (kk : vx_NoteN p l e R s m args below meth c H locs cells slots Q (F0 m pc ls rest)) : W p l e R s m args below meth c H locs cells slots Q (F0 m pc ls (.null :: rest)) := by
  obtain ⟨hS, hfc, kC, hkC, -⟩ := hK.1 ci _ hc
  obtain ⟨cf, kf, fi, f, hi, -⟩ := hS k hk
  intro U hU X
  obtain ⟨vm', X1, st1⟩ := X.getfieldNull hexec hown hlink (hsame _ hi) (u_facts hfc hkC (u_lays hts hin hk) hi).1 (g := F0 m pc ls (.null :: rest)) rfl (rest := rest) rfl (by rw [hb]; exact hdg)
  obtain ⟨t, st, q⟩ := kk (U.setVm vm') hU X1
  exact ⟨t, st1 t st, q⟩
theorem vx_getfNN {D cl tys} {own ref C host : String} {T : u_T} {N ci index : Nat} {Ts : List Cond} (hexec : p.tables.exec = Jvm.exec) (hb : c.code = cc) (hts : ∀ w ∈ Ts, w.before args s = true) (hin : ∀ w ∈ u_ws C T N, w ∈ Ts) (hown : s.vm.findClass own = some m.cls) (hK : va_K D cl tys s) (hc : cl[ci]? = some (C, T, N)) (k : Nat) (hk : k < N) (hlink : (Cond.fieldLinkNest own index ref (T k).2.1 (T k).2.2.1 host).before args s = true) (hsame : ∀ x, s.fieldFound? (T k).1 (T k).2.1 (T k).2.2.1 = some x → s.fieldFound? ref (T k).2.1 (T k).2.2.1 = some x) (hdg : decode cc pc = .ok (.getfield index, 3)) (kk : vx_NoteN p l e R s m args below meth c H locs cells slots Q (F0 m pc ls rest)) : W p l e R s m args below meth c H locs cells slots Q (F0 m pc ls (.null :: rest)) := by
  obtain ⟨hS, hfc, kC, hkC, -⟩ := hK.1 ci _ hc
  obtain ⟨cf, kf, fi, f, hi, -⟩ := hS k hk
  intro U hU X
  obtain ⟨vm', X1, st1⟩ := X.getfieldNullNest hexec hown hlink (hsame _ hi) (u_facts hfc hkC (u_lays hts hin hk) hi).1 (g := F0 m pc ls (.null :: rest)) rfl (rest := rest) rfl (by rw [hb]; exact hdg)
  obtain ⟨t, st, q⟩ := kk (U.setVm vm') hU X1
  exact ⟨t, st1 t st, q⟩
theorem vx_putfN {D cl tys} {own ref C : String} {T : u_T} {N ci index : Nat} {Ts : List Cond} (hexec : p.tables.exec = Jvm.exec) (hb : c.code = cc) (hts : ∀ w ∈ Ts, w.before args s = true) (hin : ∀ w ∈ u_ws C T N, w ∈ Ts) (hown : s.vm.findClass own = some m.cls) (hK : va_K D cl tys s) (hc : cl[ci]? = some (C, T, N)) (k : Nat) (hk : k < N) (hlink : (Cond.fieldLink own index ref (T k).2.1 (T k).2.2.1).before args s = true) (hsame : ∀ x, s.fieldFound? (T k).1 (T k).2.1 (T k).2.2.1 = some x → s.fieldFound? ref (T k).2.1 (T k).2.2.1 = some x) (hfin : (T k).2.2.2 = false) {v : Value} (hdg : decode cc pc = .ok (.putfield index, 3)) (kk : vx_NoteN p l e R s m args below meth c H locs cells slots Q (F0 m pc ls rest)) : W p l e R s m args below meth c H locs cells slots Q (F0 m pc ls (v :: .null :: rest)) := by
  obtain ⟨hS, hfc, kC, hkC, -⟩ := hK.1 ci _ hc
  obtain ⟨cf, kf, fi, f, hi, -⟩ := hS k hk
  have hlay := hts _ (hin _ (u_in_lay hk))
  unfold u_lay at hlay
  rw [if_neg (by rw [hfin]; decide)] at hlay
  obtain ⟨c9, k9, cf9, kf9, fi9, f9, -, -, hi9, hst9, hnf9, -⟩ := Cond.lays_spec hlay
  cases hi.symm.trans hi9
  intro U hU X
  obtain ⟨vm', X1, st1⟩ := X.putfieldNull hexec hown hlink (hsame _ hi) hst9 hnf9 (g := F0 m pc ls (v :: .null :: rest)) rfl (v := v) (rest := rest) rfl (by rw [hb]; exact hdg)
  obtain ⟨t, st, q⟩ := kk (U.setVm vm') hU X1
  exact ⟨t, st1 t st, q⟩
theorem vx_putfNN {D cl tys} {own ref C host : String} {T : u_T} {N ci index : Nat} {Ts : List Cond} (hexec : p.tables.exec = Jvm.exec) (hb : c.code = cc) (hts : ∀ w ∈ Ts, w.before args s = true) (hin : ∀ w ∈ u_ws C T N, w ∈ Ts) (hown : s.vm.findClass own = some m.cls) (hK : va_K D cl tys s) (hc : cl[ci]? = some (C, T, N)) (k : Nat) (hk : k < N) (hlink : (Cond.fieldLinkNest own index ref (T k).2.1 (T k).2.2.1 host).before args s = true) (hsame : ∀ x, s.fieldFound? (T k).1 (T k).2.1 (T k).2.2.1 = some x → s.fieldFound? ref (T k).2.1 (T k).2.2.1 = some x) (hfin : (T k).2.2.2 = false) {v : Value} (hdg : decode cc pc = .ok (.putfield index, 3)) (kk : vx_NoteN p l e R s m args below meth c H locs cells slots Q (F0 m pc ls rest)) : W p l e R s m args below meth c H locs cells slots Q (F0 m pc ls (v :: .null :: rest)) := by
  obtain ⟨hS, hfc, kC, hkC, -⟩ := hK.1 ci _ hc
  obtain ⟨cf, kf, fi, f, hi, -⟩ := hS k hk
  have hlay := hts _ (hin _ (u_in_lay hk))
  unfold u_lay at hlay
  rw [if_neg (by rw [hfin]; decide)] at hlay
  obtain ⟨c9, k9, cf9, kf9, fi9, f9, -, -, hi9, hst9, hnf9, -⟩ := Cond.lays_spec hlay
  cases hi.symm.trans hi9
  intro U hU X
  obtain ⟨vm', X1, st1⟩ := X.putfieldNullNest hexec hown hlink (hsame _ hi) hst9 hnf9 (g := F0 m pc ls (v :: .null :: rest)) rfl (v := v) (rest := rest) rfl (by rw [hb]; exact hdg)
  obtain ⟨t, st, q⟩ := kk (U.setVm vm') hU X1
  exact ⟨t, st1 t st, q⟩
theorem vx_athrowN (hexec : p.tables.exec = Jvm.exec) (hb : c.code = cc) (hdg : decode cc pc = .ok (.athrow, 1)) (k : vx_NoteN p l e R s m args below meth c H locs cells slots Q (F0 m pc ls rest)) : W p l e R s m args below meth c H locs cells slots Q (F0 m pc ls (.null :: rest)) := by
  intro T hT X
  obtain ⟨t, st, q⟩ := k T hT X
  exact ⟨t, X.athrowNull hexec (g := F0 m pc ls (.null :: rest)) rfl (rest := rest) rfl (by rw [hb]; exact hdg) t st, q⟩
end VXM2
/-! ===== END ===== -/
end
section
def RX0 : String := "PrecedentHall$Bot"
def TX0 : u_T := fun k => match k with
  | 0 => ("PrecedentHall$Bot", "kind", "I", true)
  | _ => ("PrecedentHall$Bot", "threshold", "I", false)
def tyX0 : Nat → FieldType := fun k => match k with
  | 0 => .int
  | _ => .int
abbrev wsX00 : List Cond := u_ws RX0 TX0 2
theorem nmX0 : ∀ a, a < 2 → ∀ b, b < 2 → a ≠ b → (TX0 a).2.1 ≠ (TX0 b).2.1 := by decide +kernel
theorem tyX0_ok : ∀ k, k < 2 → parseFieldDescriptor (TX0 k).2.2.1 = some (tyX0 k) := by decide +kernel
abbrev cX0_init : ByteArray := prog_2_method_1_code
def yX0_init : MethodName := ⟨RX0, "<init>", "(II)V"⟩
abbrev cX0_learn : ByteArray := prog_2_method_2_code
def yX0_learn : MethodName := ⟨RX0, "learn", "(Z)V"⟩
def RX1 : String := "PrecedentHall$Entry"
def TX1 : u_T := fun k => match k with
  | 0 => ("PrecedentHall$Entry", "report", "LPrecedentHall$Report;", true)
  | 1 => ("PrecedentHall$Entry", "isAppeal", "Z", true)
  | 2 => ("PrecedentHall$Entry", "sumFor", "I", true)
  | _ => ("PrecedentHall$Entry", "sumAgainst", "I", true)
def tyX1 : Nat → FieldType := fun k => match k with
  | 0 => .object "PrecedentHall$Report"
  | 1 => .boolean
  | 2 => .int
  | _ => .int
abbrev wsX10 : List Cond := u_ws RX1 TX1 4
theorem nmX1 : ∀ a, a < 4 → ∀ b, b < 4 → a ≠ b → (TX1 a).2.1 ≠ (TX1 b).2.1 := by decide +kernel
theorem tyX1_ok : ∀ k, k < 4 → parseFieldDescriptor (TX1 k).2.2.1 = some (tyX1 k) := by decide +kernel
abbrev cX1_init : ByteArray := prog_3_method_1_code
def yX1_init : MethodName := ⟨RX1, "<init>", "(LPrecedentHall$Report;ZII)V"⟩
def RX2 : String := "PrecedentHall$Report"
def TX2 : u_T := fun k => match k with
  | 0 => ("PrecedentHall$Report", "number", "I", true)
  | 1 => ("PrecedentHall$Report", "reporter", "LPrecedentHall$User;", true)
  | 2 => ("PrecedentHall$Report", "accused", "LPrecedentHall$User;", true)
  | 3 => ("PrecedentHall$Report", "facts", "I", true)
  | 4 => ("PrecedentHall$Report", "evidence", "I", true)
  | 5 => ("PrecedentHall$Report", "day", "I", true)
  | 6 => ("PrecedentHall$Report", "votes", "[I", true)
  | 7 => ("PrecedentHall$Report", "state", "C", false)
  | 8 => ("PrecedentHall$Report", "bot", "LPrecedentHall$Bot;", false)
  | 9 => ("PrecedentHall$Report", "sanction", "LPrecedentHall$Sanction;", false)
  | 10 => ("PrecedentHall$Report", "wasAppealed", "Z", false)
  | 11 => ("PrecedentHall$Report", "earlierOutcome", "C", false)
  | _ => ("PrecedentHall$Report", "isReversed", "Z", false)
def tyX2 : Nat → FieldType := fun k => match k with
  | 0 => .int
  | 1 => .object "PrecedentHall$User"
  | 2 => .object "PrecedentHall$User"
  | 3 => .int
  | 4 => .int
  | 5 => .int
  | 6 => .array .int
  | 7 => .char
  | 8 => .object "PrecedentHall$Bot"
  | 9 => .object "PrecedentHall$Sanction"
  | 10 => .boolean
  | 11 => .char
  | _ => .boolean
abbrev wsX20 : List Cond := u_ws RX2 TX2 13
theorem nmX2 : ∀ a, a < 13 → ∀ b, b < 13 → a ≠ b → (TX2 a).2.1 ≠ (TX2 b).2.1 := by decide +kernel
theorem tyX2_ok : ∀ k, k < 13 → parseFieldDescriptor (TX2 k).2.2.1 = some (tyX2 k) := by decide +kernel
abbrev cX2_init : ByteArray := prog_4_method_1_code
def yX2_init : MethodName := ⟨RX2, "<init>", "(ILPrecedentHall$User;LPrecedentHall$User;III)V"⟩
abbrev cX2_tells : ByteArray := prog_4_method_2_code
def yX2_tells : MethodName := ⟨RX2, "tells", "(I)Z"⟩
abbrev cX2_enterVote : ByteArray := prog_4_method_3_code
def yX2_enterVote : MethodName := ⟨RX2, "enterVote", "(II)V"⟩
abbrev cX2_sumFor : ByteArray := prog_4_method_4_code
def yX2_sumFor : MethodName := ⟨RX2, "sumFor", "()I"⟩
abbrev cX2_sumAgainst : ByteArray := prog_4_method_5_code
def yX2_sumAgainst : MethodName := ⟨RX2, "sumAgainst", "()I"⟩
abbrev cX2_hasNewDecision : ByteArray := prog_4_method_6_code
def yX2_hasNewDecision : MethodName := ⟨RX2, "hasNewDecision", "()Z"⟩
abbrev cX2_standsByBot : ByteArray := prog_4_method_7_code
def yX2_standsByBot : MethodName := ⟨RX2, "standsByBot", "()Z"⟩
def RX3 : String := "PrecedentHall$Rule"
def TX3 : u_T := fun k => match k with
  | 0 => ("PrecedentHall$Rule", "kind", "I", true)
  | 1 => ("PrecedentHall$Rule", "isForbidding", "Z", true)
  | 2 => ("PrecedentHall$Rule", "rank", "I", true)
  | 3 => ("PrecedentHall$Rule", "days", "I", true)
  | 4 => ("PrecedentHall$Rule", "first", "I", true)
  | _ => ("PrecedentHall$Rule", "end", "I", false)
def tyX3 : Nat → FieldType := fun k => match k with
  | 0 => .int
  | 1 => .boolean
  | 2 => .int
  | 3 => .int
  | 4 => .int
  | _ => .int
abbrev wsX30 : List Cond := u_ws RX3 TX3 6
theorem nmX3 : ∀ a, a < 6 → ∀ b, b < 6 → a ≠ b → (TX3 a).2.1 ≠ (TX3 b).2.1 := by decide +kernel
theorem tyX3_ok : ∀ k, k < 6 → parseFieldDescriptor (TX3 k).2.2.1 = some (tyX3 k) := by decide +kernel
abbrev cX3_init : ByteArray := prog_5_method_1_code
def yX3_init : MethodName := ⟨RX3, "<init>", "(IZIII)V"⟩
abbrev cX3_holdsOn : ByteArray := prog_5_method_2_code
def yX3_holdsOn : MethodName := ⟨RX3, "holdsOn", "(I)Z"⟩
abbrev cX3_isRepealed : ByteArray := prog_5_method_3_code
def yX3_isRepealed : MethodName := ⟨RX3, "isRepealed", "()Z"⟩
def RX4 : String := "PrecedentHall$Sanction"
def TX4 : u_T := fun k => match k with
  | 0 => ("PrecedentHall$Sanction", "user", "LPrecedentHall$User;", true)
  | 1 => ("PrecedentHall$Sanction", "start", "I", true)
  | _ => ("PrecedentHall$Sanction", "end", "I", false)
def tyX4 : Nat → FieldType := fun k => match k with
  | 0 => .object "PrecedentHall$User"
  | 1 => .int
  | _ => .int
abbrev wsX40 : List Cond := u_ws RX4 TX4 3
theorem nmX4 : ∀ a, a < 3 → ∀ b, b < 3 → a ≠ b → (TX4 a).2.1 ≠ (TX4 b).2.1 := by decide +kernel
theorem tyX4_ok : ∀ k, k < 3 → parseFieldDescriptor (TX4 k).2.2.1 = some (tyX4 k) := by decide +kernel
abbrev cX4_init : ByteArray := prog_6_method_1_code
def yX4_init : MethodName := ⟨RX4, "<init>", "(LPrecedentHall$User;II)V"⟩
abbrev cX4_includes : ByteArray := prog_6_method_2_code
def yX4_includes : MethodName := ⟨RX4, "includes", "(I)Z"⟩
abbrev cX4_cutAt : ByteArray := prog_6_method_3_code
def yX4_cutAt : MethodName := ⟨RX4, "cutAt", "(I)V"⟩
abbrev cX4_daysBefore : ByteArray := prog_6_method_4_code
def yX4_daysBefore : MethodName := ⟨RX4, "daysBefore", "(I)I"⟩
def RX5 : String := "PrecedentHall$Standing"
def TX5 : u_T := fun k => match k with
  | 0 => ("PrecedentHall$Standing", "outcomes", "[C", true)
  | 1 => ("PrecedentHall$Standing", "turns", "[I", true)
  | _ => ("PrecedentHall$Standing", "made", "I", false)
def tyX5 : Nat → FieldType := fun k => match k with
  | 0 => .array .char
  | 1 => .array .int
  | _ => .int
abbrev wsX50 : List Cond := u_ws RX5 TX5 3
theorem nmX5 : ∀ a, a < 3 → ∀ b, b < 3 → a ≠ b → (TX5 a).2.1 ≠ (TX5 b).2.1 := by decide +kernel
theorem tyX5_ok : ∀ k, k < 3 → parseFieldDescriptor (TX5 k).2.2.1 = some (tyX5 k) := by decide +kernel
abbrev cX5_init : ByteArray := prog_7_method_1_code
def yX5_init : MethodName := ⟨RX5, "<init>", "()V"⟩
abbrev cX5_wipe : ByteArray := prog_7_method_2_code
def yX5_wipe : MethodName := ⟨RX5, "wipe", "()V"⟩
abbrev cX5_enter : ByteArray := prog_7_method_3_code
def yX5_enter : MethodName := ⟨RX5, "enter", "(IC)V"⟩
abbrev cX5_lift : ByteArray := prog_7_method_4_code
def yX5_lift : MethodName := ⟨RX5, "lift", "(I)V"⟩
abbrev cX5_outcomeOf : ByteArray := prog_7_method_5_code
def yX5_outcomeOf : MethodName := ⟨RX5, "outcomeOf", "(I)C"⟩
abbrev cX5_turnOf : ByteArray := prog_7_method_6_code
def yX5_turnOf : MethodName := ⟨RX5, "turnOf", "(I)I"⟩
abbrev cX5_isGuiltyOrInnocent : ByteArray := prog_7_method_7_code
def yX5_isGuiltyOrInnocent : MethodName := ⟨RX5, "isGuiltyOrInnocent", "(I)Z"⟩
abbrev cX5_isWithin : ByteArray := prog_7_method_8_code
def yX5_isWithin : MethodName := ⟨RX5, "isWithin", "(I)Z"⟩
def RX6 : String := "PrecedentHall$User"
def TX6 : u_T := fun k => match k with
  | _ => ("PrecedentHall$User", "weight", "I", false)
def tyX6 : Nat → FieldType := fun k => match k with
  | _ => .int
abbrev wsX60 : List Cond := u_ws RX6 TX6 1
theorem nmX6 : ∀ a, a < 1 → ∀ b, b < 1 → a ≠ b → (TX6 a).2.1 ≠ (TX6 b).2.1 := by decide +kernel
theorem tyX6_ok : ∀ k, k < 1 → parseFieldDescriptor (TX6 k).2.2.1 = some (tyX6 k) := by decide +kernel
abbrev cX6_init : ByteArray := prog_8_method_1_code
def yX6_init : MethodName := ⟨RX6, "<init>", "(I)V"⟩
def RX7 : String := "PrecedentHall"
def TX7 : u_T := fun k => match k with
  | 0 => ("PrecedentHall", "rules", "Ljava/util/ArrayList;", true)
  | 1 => ("PrecedentHall", "users", "Ljava/util/ArrayList;", true)
  | 2 => ("PrecedentHall", "bots", "Ljava/util/ArrayList;", true)
  | 3 => ("PrecedentHall", "reports", "Ljava/util/ArrayList;", true)
  | 4 => ("PrecedentHall", "sanctionsMade", "Ljava/util/ArrayList;", true)
  | 5 => ("PrecedentHall", "minutes", "Ljava/util/ArrayList;", true)
  | 6 => ("PrecedentHall", "asDecided", "LPrecedentHall$Standing;", true)
  | 7 => ("PrecedentHall", "foundAnew", "LPrecedentHall$Standing;", true)
  | 8 => ("PrecedentHall", "presentDay", "I", false)
  | _ => ("PrecedentHall", "quorum", "I", false)
def tyX7 : Nat → FieldType := fun k => match k with
  | 0 => .object "java/util/ArrayList"
  | 1 => .object "java/util/ArrayList"
  | 2 => .object "java/util/ArrayList"
  | 3 => .object "java/util/ArrayList"
  | 4 => .object "java/util/ArrayList"
  | 5 => .object "java/util/ArrayList"
  | 6 => .object "PrecedentHall$Standing"
  | 7 => .object "PrecedentHall$Standing"
  | 8 => .int
  | _ => .int
abbrev wsX70 : List Cond := u_ws RX7 TX7 10
theorem nmX7 : ∀ a, a < 10 → ∀ b, b < 10 → a ≠ b → (TX7 a).2.1 ≠ (TX7 b).2.1 := by decide +kernel
theorem tyX7_ok : ∀ k, k < 10 → parseFieldDescriptor (TX7 k).2.2.1 = some (tyX7 k) := by decide +kernel
abbrev cX7_init : ByteArray := prog_1_method_1_code
def yX7_init : MethodName := ⟨RX7, "<init>", "()V"⟩
abbrev cX7_addRule : ByteArray := prog_1_method_2_code
def yX7_addRule : MethodName := ⟨RX7, "addRule", "(IZIII)I"⟩
abbrev cX7_repeal : ByteArray := prog_1_method_3_code
def yX7_repeal : MethodName := ⟨RX7, "repeal", "(II)I"⟩
abbrev cX7_isInForce : ByteArray := prog_1_method_4_code
def yX7_isInForce : MethodName := ⟨RX7, "isInForce", "(II)Z"⟩
abbrev cX7_applying : ByteArray := prog_1_method_5_code
def yX7_applying : MethodName := ⟨RX7, "applying", "(I)I"⟩
abbrev cX7_conflicts : ByteArray := prog_1_method_6_code
def yX7_conflicts : MethodName := ⟨RX7, "conflicts", "(I)I"⟩
abbrev cX7_addUser : ByteArray := prog_1_method_7_code
def yX7_addUser : MethodName := ⟨RX7, "addUser", "(I)I"⟩
abbrev cX7_setWeight : ByteArray := prog_1_method_8_code
def yX7_setWeight : MethodName := ⟨RX7, "setWeight", "(II)I"⟩
abbrev cX7_sanctions : ByteArray := prog_1_method_9_code
def yX7_sanctions : MethodName := ⟨RX7, "sanctions", "(I)I"⟩
abbrev cX7_sanctionedUntil : ByteArray := prog_1_method_10_code
def yX7_sanctionedUntil : MethodName := ⟨RX7, "sanctionedUntil", "(I)I"⟩
abbrev cX7_addBot : ByteArray := prog_1_method_11_code
def yX7_addBot : MethodName := ⟨RX7, "addBot", "(II)I"⟩
abbrev cX7_threshold : ByteArray := prog_1_method_12_code
def yX7_threshold : MethodName := ⟨RX7, "threshold", "(I)I"⟩
abbrev cX7_file : ByteArray := prog_1_method_13_code
def yX7_file : MethodName := ⟨RX7, "file", "(IIII)I"⟩
abbrev cX7_state : ByteArray := prog_1_method_14_code
def yX7_state : MethodName := ⟨RX7, "state", "(I)C"⟩
abbrev cX7_vote : ByteArray := prog_1_method_15_code
def yX7_vote : MethodName := ⟨RX7, "vote", "(IIZ)I"⟩
abbrev cX7_weightFor : ByteArray := prog_1_method_16_code
def yX7_weightFor : MethodName := ⟨RX7, "weightFor", "(I)I"⟩
abbrev cX7_weightAgainst : ByteArray := prog_1_method_17_code
def yX7_weightAgainst : MethodName := ⟨RX7, "weightAgainst", "(I)I"⟩
abbrev cX7_setQuorum : ByteArray := prog_1_method_18_code
def yX7_setQuorum : MethodName := ⟨RX7, "setQuorum", "(I)I"⟩
abbrev cX7_precedent : ByteArray := prog_1_method_19_code
def yX7_precedent : MethodName := ⟨RX7, "precedent", "(I)I"⟩
abbrev cX7_decide : ByteArray := prog_1_method_20_code
def yX7_decide : MethodName := ⟨RX7, "decide", "(I)C"⟩
abbrev cX7_outcome : ByteArray := prog_1_method_21_code
def yX7_outcome : MethodName := ⟨RX7, "outcome", "(I)C"⟩
abbrev cX7_outcomeAnew : ByteArray := prog_1_method_22_code
def yX7_outcomeAnew : MethodName := ⟨RX7, "outcomeAnew", "(I)C"⟩
abbrev cX7_isByBot : ByteArray := prog_1_method_23_code
def yX7_isByBot : MethodName := ⟨RX7, "isByBot", "(I)Z"⟩
abbrev cX7_appeal : ByteArray := prog_1_method_24_code
def yX7_appeal : MethodName := ⟨RX7, "appeal", "(I)I"⟩
abbrev cX7_wasReversed : ByteArray := prog_1_method_25_code
def yX7_wasReversed : MethodName := ⟨RX7, "wasReversed", "(I)Z"⟩
abbrev cX7_today : ByteArray := prog_1_method_26_code
def yX7_today : MethodName := ⟨RX7, "today", "()I"⟩
abbrev cX7_pass : ByteArray := prog_1_method_27_code
def yX7_pass : MethodName := ⟨RX7, "pass", "(I)I"⟩
abbrev cX7_decisions : ByteArray := prog_1_method_28_code
def yX7_decisions : MethodName := ⟨RX7, "decisions", "()I"⟩
abbrev cX7_likeness : ByteArray := prog_1_method_29_code
def yX7_likeness : MethodName := ⟨RX7, "likeness", "(II)I"⟩
abbrev cX7_count : ByteArray := prog_1_method_30_code
def yX7_count : MethodName := ⟨RX7, "count", "(C)I"⟩
abbrev cX7_meanEvidence : ByteArray := prog_1_method_31_code
def yX7_meanEvidence : MethodName := ⟨RX7, "meanEvidence", "()D"⟩
abbrev cX7_reversedShare : ByteArray := prog_1_method_32_code
def yX7_reversedShare : MethodName := ⟨RX7, "reversedShare", "()F"⟩
abbrev cX7_sanctionDays : ByteArray := prog_1_method_33_code
def yX7_sanctionDays : MethodName := ⟨RX7, "sanctionDays", "()J"⟩
abbrev cX7_isConsistent : ByteArray := prog_1_method_34_code
def yX7_isConsistent : MethodName := ⟨RX7, "isConsistent", "()Z"⟩
abbrev cX7_requireWithin : ByteArray := prog_1_method_35_code
def yX7_requireWithin : MethodName := ⟨RX7, "requireWithin", "(III)V"⟩
abbrev cX7_requireRoom : ByteArray := prog_1_method_36_code
def yX7_requireRoom : MethodName := ⟨RX7, "requireRoom", "(II)V"⟩
abbrev cX7_requireIndex : ByteArray := prog_1_method_37_code
def yX7_requireIndex : MethodName := ⟨RX7, "requireIndex", "(II)V"⟩
abbrev cX7_requireUndecided : ByteArray := prog_1_method_38_code
def yX7_requireUndecided : MethodName := ⟨RX7, "requireUndecided", "(LPrecedentHall$Report;)V"⟩
abbrev cX7_requireStanding : ByteArray := prog_1_method_39_code
def yX7_requireStanding : MethodName := ⟨RX7, "requireStanding", "(LPrecedentHall$Report;)V"⟩
abbrev cX7_ruleAt : ByteArray := prog_1_method_40_code
def yX7_ruleAt : MethodName := ⟨RX7, "ruleAt", "(I)LPrecedentHall$Rule;"⟩
abbrev cX7_userAt : ByteArray := prog_1_method_41_code
def yX7_userAt : MethodName := ⟨RX7, "userAt", "(I)LPrecedentHall$User;"⟩
abbrev cX7_reportAt : ByteArray := prog_1_method_42_code
def yX7_reportAt : MethodName := ⟨RX7, "reportAt", "(I)LPrecedentHall$Report;"⟩
abbrev cX7_rulesInForce : ByteArray := prog_1_method_43_code
def yX7_rulesInForce : MethodName := ⟨RX7, "rulesInForce", "(I)I"⟩
abbrev cX7_areInConflict : ByteArray := prog_1_method_44_code
def yX7_areInConflict : MethodName := ⟨RX7, "areInConflict", "(LPrecedentHall$Rule;LPrecedentHall$Rule;I)Z"⟩
abbrev cX7_ruleFor : ByteArray := prog_1_method_45_code
def yX7_ruleFor : MethodName := ⟨RX7, "ruleFor", "(LPrecedentHall$Report;)I"⟩
abbrev cX7_botFor : ByteArray := prog_1_method_46_code
def yX7_botFor : MethodName := ⟨RX7, "botFor", "(LPrecedentHall$Report;)LPrecedentHall$Bot;"⟩
abbrev cX7_commonKinds : ByteArray := prog_1_method_47_code
def yX7_commonKinds : MethodName := ⟨RX7, "commonKinds", "(LPrecedentHall$Report;LPrecedentHall$Report;)I"⟩
abbrev cX7_precedentFor : ByteArray := prog_1_method_48_code
def yX7_precedentFor : MethodName := ⟨RX7, "precedentFor", "(LPrecedentHall$Report;LPrecedentHall$Standing;)I"⟩
abbrev cX7_findOutcome : ByteArray := prog_1_method_49_code
def yX7_findOutcome : MethodName := ⟨RX7, "findOutcome", "(LPrecedentHall$Report;IILPrecedentHall$Standing;)C"⟩
abbrev cX7_settle : ByteArray := prog_1_method_50_code
def yX7_settle : MethodName := ⟨RX7, "settle", "(LPrecedentHall$Report;II)C"⟩
abbrev cX7_sanctionAccused : ByteArray := prog_1_method_51_code
def yX7_sanctionAccused : MethodName := ⟨RX7, "sanctionAccused", "(LPrecedentHall$Report;)V"⟩
abbrev cX7_closeAppeal : ByteArray := prog_1_method_52_code
def yX7_closeAppeal : MethodName := ⟨RX7, "closeAppeal", "(LPrecedentHall$Report;C)V"⟩
abbrev cX7_settleAllAnew : ByteArray := prog_1_method_53_code
def yX7_settleAllAnew : MethodName := ⟨RX7, "settleAllAnew", "()V"⟩
abbrev cX7_presentSanctions : ByteArray := prog_1_method_54_code
def yX7_presentSanctions : MethodName := ⟨RX7, "presentSanctions", "(LPrecedentHall$User;)I"⟩
abbrev cX7_reportsInState : ByteArray := prog_1_method_55_code
def yX7_reportsInState : MethodName := ⟨RX7, "reportsInState", "(C)I"⟩
abbrev cX7_guiltyReports : ByteArray := prog_1_method_56_code
def yX7_guiltyReports : MethodName := ⟨RX7, "guiltyReports", "()I"⟩
abbrev cX7_reportsByBots : ByteArray := prog_1_method_57_code
def yX7_reportsByBots : MethodName := ⟨RX7, "reportsByBots", "()I"⟩
abbrev cX7_reversedReports : ByteArray := prog_1_method_58_code
def yX7_reversedReports : MethodName := ⟨RX7, "reversedReports", "()I"⟩
def RX8 : String := "PrecedentHallModel"
def TX8 : u_T := fun k => match k with
  | 0 => ("PrecedentHallModel", "thrown", "I", false)
  | 1 => ("PrecedentHallModel", "kinds", "[I", true)
  | 2 => ("PrecedentHallModel", "ranks", "[I", true)
  | 3 => ("PrecedentHallModel", "lengths", "[I", true)
  | 4 => ("PrecedentHallModel", "firsts", "[I", true)
  | 5 => ("PrecedentHallModel", "repeals", "[I", true)
  | 6 => ("PrecedentHallModel", "weights", "[I", true)
  | 7 => ("PrecedentHallModel", "botKinds", "[I", true)
  | 8 => ("PrecedentHallModel", "thresholds", "[I", true)
  | 9 => ("PrecedentHallModel", "isForbidding", "[Z", true)
  | 10 => ("PrecedentHallModel", "rules", "I", false)
  | 11 => ("PrecedentHallModel", "users", "I", false)
  | 12 => ("PrecedentHallModel", "bots", "I", false)
  | 13 => ("PrecedentHallModel", "quorum", "I", false)
  | 14 => ("PrecedentHallModel", "today", "I", false)
  | 15 => ("PrecedentHallModel", "reporters", "[I", true)
  | 16 => ("PrecedentHallModel", "accused", "[I", true)
  | 17 => ("PrecedentHallModel", "facts", "[I", true)
  | 18 => ("PrecedentHallModel", "evidence", "[I", true)
  | 19 => ("PrecedentHallModel", "filed", "[I", true)
  | 20 => ("PrecedentHallModel", "orders", "[I", true)
  | 21 => ("PrecedentHallModel", "byBots", "[I", true)
  | 22 => ("PrecedentHallModel", "from", "[I", true)
  | 23 => ("PrecedentHallModel", "until", "[I", true)
  | 24 => ("PrecedentHallModel", "states", "[C", true)
  | 25 => ("PrecedentHallModel", "outcomes", "[C", true)
  | 26 => ("PrecedentHallModel", "earlier", "[C", true)
  | 27 => ("PrecedentHallModel", "votes", "[[I", true)
  | 28 => ("PrecedentHallModel", "reports", "I", false)
  | 29 => ("PrecedentHallModel", "decisions", "I", false)
  | 30 => ("PrecedentHallModel", "appealed", "I", false)
  | 31 => ("PrecedentHallModel", "reversed", "I", false)
  | _ => ("PrecedentHallModel", "sanctionDays", "J", false)
def tyX8 : Nat → FieldType := fun k => match k with
  | 0 => .int
  | 1 => .array .int
  | 2 => .array .int
  | 3 => .array .int
  | 4 => .array .int
  | 5 => .array .int
  | 6 => .array .int
  | 7 => .array .int
  | 8 => .array .int
  | 9 => .array .boolean
  | 10 => .int
  | 11 => .int
  | 12 => .int
  | 13 => .int
  | 14 => .int
  | 15 => .array .int
  | 16 => .array .int
  | 17 => .array .int
  | 18 => .array .int
  | 19 => .array .int
  | 20 => .array .int
  | 21 => .array .int
  | 22 => .array .int
  | 23 => .array .int
  | 24 => .array .char
  | 25 => .array .char
  | 26 => .array .char
  | 27 => .array (.array .int)
  | 28 => .int
  | 29 => .int
  | 30 => .int
  | 31 => .int
  | _ => .long
abbrev wsX80 : List Cond := u_ws RX8 TX8 33
theorem nmX8 : ∀ a, a < 33 → ∀ b, b < 33 → a ≠ b → (TX8 a).2.1 ≠ (TX8 b).2.1 := by decide +kernel
theorem tyX8_ok : ∀ k, k < 33 → parseFieldDescriptor (TX8 k).2.2.1 = some (tyX8 k) := by decide +kernel
abbrev cX8_init : ByteArray := prog_10_method_1_code
def yX8_init : MethodName := ⟨RX8, "<init>", "()V"⟩
abbrev cX8_thrown : ByteArray := prog_10_method_2_code
def yX8_thrown : MethodName := ⟨RX8, "thrown", "()I"⟩
abbrev cX8_fails : ByteArray := prog_10_method_3_code
def yX8_fails : MethodName := ⟨RX8, "fails", "(I)I"⟩
abbrev cX8_isBetween : ByteArray := prog_10_method_5_code
def yX8_isBetween : MethodName := ⟨RX8, "isBetween", "(III)Z"⟩
abbrev cX8_isRule : ByteArray := prog_10_method_6_code
def yX8_isRule : MethodName := ⟨RX8, "isRule", "(I)Z"⟩
abbrev cX8_isUser : ByteArray := prog_10_method_7_code
def yX8_isUser : MethodName := ⟨RX8, "isUser", "(I)Z"⟩
abbrev cX8_isReport : ByteArray := prog_10_method_8_code
def yX8_isReport : MethodName := ⟨RX8, "isReport", "(I)Z"⟩
abbrev cX8_addRule : ByteArray := prog_10_method_9_code
def yX8_addRule : MethodName := ⟨RX8, "addRule", "(IZIII)I"⟩
abbrev cX8_inForce : ByteArray := prog_10_method_10_code
def yX8_inForce : MethodName := ⟨RX8, "inForce", "(II)Z"⟩
abbrev cX8_repeal : ByteArray := prog_10_method_11_code
def yX8_repeal : MethodName := ⟨RX8, "repeal", "(II)I"⟩
abbrev cX8_isInForce : ByteArray := prog_10_method_12_code
def yX8_isInForce : MethodName := ⟨RX8, "isInForce", "(II)Z"⟩
abbrev cX8_rule : ByteArray := prog_10_method_13_code
def yX8_rule : MethodName := ⟨RX8, "rule", "(I)I"⟩
abbrev cX8_applying : ByteArray := prog_10_method_14_code
def yX8_applying : MethodName := ⟨RX8, "applying", "(I)I"⟩
abbrev cX8_conflicts : ByteArray := prog_10_method_15_code
def yX8_conflicts : MethodName := ⟨RX8, "conflicts", "(I)I"⟩
abbrev cX8_addUser : ByteArray := prog_10_method_16_code
def yX8_addUser : MethodName := ⟨RX8, "addUser", "(I)I"⟩
abbrev cX8_setWeight : ByteArray := prog_10_method_17_code
def yX8_setWeight : MethodName := ⟨RX8, "setWeight", "(II)I"⟩
abbrev cX8_stands : ByteArray := prog_10_method_18_code
def yX8_stands : MethodName := ⟨RX8, "stands", "(IC)Z"⟩
abbrev cX8_includes : ByteArray := prog_10_method_19_code
def yX8_includes : MethodName := ⟨RX8, "includes", "(II)Z"⟩
abbrev cX8_sanctionsOf : ByteArray := prog_10_method_20_code
def yX8_sanctionsOf : MethodName := ⟨RX8, "sanctionsOf", "(I)I"⟩
abbrev cX8_sanctions : ByteArray := prog_10_method_21_code
def yX8_sanctions : MethodName := ⟨RX8, "sanctions", "(I)I"⟩
abbrev cX8_sanctionedUntil : ByteArray := prog_10_method_22_code
def yX8_sanctionedUntil : MethodName := ⟨RX8, "sanctionedUntil", "(I)I"⟩
abbrev cX8_addBot : ByteArray := prog_10_method_23_code
def yX8_addBot : MethodName := ⟨RX8, "addBot", "(II)I"⟩
abbrev cX8_threshold : ByteArray := prog_10_method_24_code
def yX8_threshold : MethodName := ⟨RX8, "threshold", "(I)I"⟩
abbrev cX8_like : ByteArray := prog_10_method_25_code
def yX8_like : MethodName := ⟨RX8, "like", "(II)I"⟩
abbrev cX8_precedentOf : ByteArray := prog_10_method_26_code
def yX8_precedentOf : MethodName := ⟨RX8, "precedentOf", "(I)I"⟩
abbrev cX8_outcomeBy : ByteArray := prog_10_method_27_code
def yX8_outcomeBy : MethodName := ⟨RX8, "outcomeBy", "(III)C"⟩
abbrev cX8_decides : ByteArray := prog_10_method_28_code
def yX8_decides : MethodName := ⟨RX8, "decides", "(IIII)V"⟩
abbrev cX8_file : ByteArray := prog_10_method_29_code
def yX8_file : MethodName := ⟨RX8, "file", "(IIII)I"⟩
abbrev cX8_state : ByteArray := prog_10_method_30_code
def yX8_state : MethodName := ⟨RX8, "state", "(I)C"⟩
abbrev cX8_weight : ByteArray := prog_10_method_31_code
def yX8_weight : MethodName := ⟨RX8, "weight", "(II)I"⟩
abbrev cX8_vote : ByteArray := prog_10_method_32_code
def yX8_vote : MethodName := ⟨RX8, "vote", "(IIZ)I"⟩
abbrev cX8_isNone : ByteArray := prog_10_method_33_code
def yX8_isNone : MethodName := ⟨RX8, "isNone", "(I)Z"⟩
abbrev cX8_weightFor : ByteArray := prog_10_method_34_code
def yX8_weightFor : MethodName := ⟨RX8, "weightFor", "(I)I"⟩
abbrev cX8_weightAgainst : ByteArray := prog_10_method_35_code
def yX8_weightAgainst : MethodName := ⟨RX8, "weightAgainst", "(I)I"⟩
abbrev cX8_setQuorum : ByteArray := prog_10_method_36_code
def yX8_setQuorum : MethodName := ⟨RX8, "setQuorum", "(I)I"⟩
abbrev cX8_precedent : ByteArray := prog_10_method_37_code
def yX8_precedent : MethodName := ⟨RX8, "precedent", "(I)I"⟩
abbrev cX8_decide : ByteArray := prog_10_method_38_code
def yX8_decide : MethodName := ⟨RX8, "decide", "(I)C"⟩
abbrev cX8_isOpen : ByteArray := prog_10_method_39_code
def yX8_isOpen : MethodName := ⟨RX8, "isOpen", "(I)Z"⟩
abbrev cX8_outcome : ByteArray := prog_10_method_40_code
def yX8_outcome : MethodName := ⟨RX8, "outcome", "(I)C"⟩
abbrev cX8_outcomeAnew : ByteArray := prog_10_method_41_code
def yX8_outcomeAnew : MethodName := ⟨RX8, "outcomeAnew", "(I)C"⟩
abbrev cX8_isByBot : ByteArray := prog_10_method_42_code
def yX8_isByBot : MethodName := ⟨RX8, "isByBot", "(I)Z"⟩
abbrev cX8_appeal : ByteArray := prog_10_method_43_code
def yX8_appeal : MethodName := ⟨RX8, "appeal", "(I)I"⟩
abbrev cX8_isReversed : ByteArray := prog_10_method_44_code
def yX8_isReversed : MethodName := ⟨RX8, "isReversed", "(I)Z"⟩
abbrev cX8_wasReversed : ByteArray := prog_10_method_45_code
def yX8_wasReversed : MethodName := ⟨RX8, "wasReversed", "(I)Z"⟩
abbrev cX8_today : ByteArray := prog_10_method_46_code
def yX8_today : MethodName := ⟨RX8, "today", "()I"⟩
abbrev cX8_pass : ByteArray := prog_10_method_47_code
def yX8_pass : MethodName := ⟨RX8, "pass", "(I)I"⟩
abbrev cX8_decisions : ByteArray := prog_10_method_48_code
def yX8_decisions : MethodName := ⟨RX8, "decisions", "()I"⟩
abbrev cX8_likeness : ByteArray := prog_10_method_49_code
def yX8_likeness : MethodName := ⟨RX8, "likeness", "(II)I"⟩
abbrev cX8_isOf : ByteArray := prog_10_method_50_code
def yX8_isOf : MethodName := ⟨RX8, "isOf", "(IC)Z"⟩
abbrev cX8_count : ByteArray := prog_10_method_51_code
def yX8_count : MethodName := ⟨RX8, "count", "(C)I"⟩
abbrev cX8_meanEvidence : ByteArray := prog_10_method_52_code
def yX8_meanEvidence : MethodName := ⟨RX8, "meanEvidence", "()D"⟩
abbrev cX8_reversedShare : ByteArray := prog_10_method_53_code
def yX8_reversedShare : MethodName := ⟨RX8, "reversedShare", "()F"⟩
abbrev cX8_sanctionDays : ByteArray := prog_10_method_54_code
def yX8_sanctionDays : MethodName := ⟨RX8, "sanctionDays", "()J"⟩
abbrev cX8_isConsistent : ByteArray := prog_10_method_55_code
def yX8_isConsistent : MethodName := ⟨RX8, "isConsistent", "()Z"⟩
def RJx145de : String := "java/io/Serializable"
def TJx145de : u_T := fun k => match k with
  | _ => ("", "", "", false)
def tyJx145de : Nat → FieldType := fun k => match k with
  | _ => .int
abbrev wsJx145de0 : List Cond := u_ws RJx145de TJx145de 0
theorem nmJx145de : ∀ a, a < 0 → ∀ b, b < 0 → a ≠ b → (TJx145de a).2.1 ≠ (TJx145de b).2.1 := by decide +kernel
theorem tyJx145de_ok : ∀ k, k < 0 → parseFieldDescriptor (TJx145de k).2.2.1 = some (tyJx145de k) := by decide +kernel
def RJx00060 : String := "java/lang/ArrayIndexOutOfBoundsException"
def TJx00060 : u_T := fun k => match k with
  | 0 => ("java/lang/Throwable", "backtrace", "Ljava/lang/Object;", false)
  | 1 => ("java/lang/Throwable", "detailMessage", "Ljava/lang/String;", false)
  | 2 => ("java/lang/Throwable", "cause", "Ljava/lang/Throwable;", false)
  | 3 => ("java/lang/Throwable", "stackTrace", "[Ljava/lang/StackTraceElement;", false)
  | 4 => ("java/lang/Throwable", "depth", "I", false)
  | _ => ("java/lang/Throwable", "suppressedExceptions", "Ljava/util/List;", false)
def tyJx00060 : Nat → FieldType := fun k => match k with
  | 0 => .object "java/lang/Object"
  | 1 => .object "java/lang/String"
  | 2 => .object "java/lang/Throwable"
  | 3 => .array (.object "java/lang/StackTraceElement")
  | 4 => .int
  | _ => .object "java/util/List"
abbrev wsJx000600 : List Cond := u_ws RJx00060 TJx00060 6
theorem nmJx00060 : ∀ a, a < 6 → ∀ b, b < 6 → a ≠ b → (TJx00060 a).2.1 ≠ (TJx00060 b).2.1 := by decide +kernel
theorem tyJx00060_ok : ∀ k, k < 6 → parseFieldDescriptor (TJx00060 k).2.2.1 = some (tyJx00060 k) := by decide +kernel
abbrev cJx00060_init_a7421 : ByteArray := prog_13_method_2_code
def yJx00060_init_a7421 : MethodName := ⟨RJx00060, "<init>", "(Ljava/lang/String;)V"⟩
def RJx8e188 : String := "java/lang/Cloneable"
def TJx8e188 : u_T := fun k => match k with
  | _ => ("", "", "", false)
def tyJx8e188 : Nat → FieldType := fun k => match k with
  | _ => .int
abbrev wsJx8e1880 : List Cond := u_ws RJx8e188 TJx8e188 0
theorem nmJx8e188 : ∀ a, a < 0 → ∀ b, b < 0 → a ≠ b → (TJx8e188 a).2.1 ≠ (TJx8e188 b).2.1 := by decide +kernel
theorem tyJx8e188_ok : ∀ k, k < 0 → parseFieldDescriptor (TJx8e188 k).2.2.1 = some (tyJx8e188 k) := by decide +kernel
def RJ6 : String := "java/lang/Integer"
def TJ6 : u_T := fun k => match k with
  | _ => ("", "", "", false)
def tyJ6 : Nat → FieldType := fun k => match k with
  | _ => .int
abbrev wsJ60 : List Cond := u_ws RJ6 TJ6 0
theorem nmJ6 : ∀ a, a < 0 → ∀ b, b < 0 → a ≠ b → (TJ6 a).2.1 ≠ (TJ6 b).2.1 := by decide +kernel
theorem tyJ6_ok : ∀ k, k < 0 → parseFieldDescriptor (TJ6 k).2.2.1 = some (tyJ6 k) := by decide +kernel
abbrev cJ6_bitCount_0f7a4 : ByteArray := prog_19_method_49_code
def yJ6_bitCount_0f7a4 : MethodName := ⟨RJ6, "bitCount", "(I)I"⟩
def RJxab1ab : String := "java/lang/Iterable"
def TJxab1ab : u_T := fun k => match k with
  | _ => ("", "", "", false)
def tyJxab1ab : Nat → FieldType := fun k => match k with
  | _ => .int
abbrev wsJxab1ab0 : List Cond := u_ws RJxab1ab TJxab1ab 0
theorem nmJxab1ab : ∀ a, a < 0 → ∀ b, b < 0 → a ≠ b → (TJxab1ab a).2.1 ≠ (TJxab1ab b).2.1 := by decide +kernel
theorem tyJxab1ab_ok : ∀ k, k < 0 → parseFieldDescriptor (TJxab1ab k).2.2.1 = some (tyJxab1ab k) := by decide +kernel
def RJ9 : String := "java/lang/Math"
def TJ9 : u_T := fun k => match k with
  | _ => ("", "", "", false)
def tyJ9 : Nat → FieldType := fun k => match k with
  | _ => .int
abbrev wsJ90 : List Cond := u_ws RJ9 TJ9 0
theorem nmJ9 : ∀ a, a < 0 → ∀ b, b < 0 → a ≠ b → (TJ9 a).2.1 ≠ (TJ9 b).2.1 := by decide +kernel
theorem tyJ9_ok : ∀ k, k < 0 → parseFieldDescriptor (TJ9 k).2.2.1 = some (tyJ9 k) := by decide +kernel
abbrev cJ9_max_7cf53 : ByteArray := prog_21_method_65_code
def yJ9_max_7cf53 : MethodName := ⟨RJ9, "max", "(II)I"⟩
abbrev cJ9_min_7cf53 : ByteArray := prog_21_method_69_code
def yJ9_min_7cf53 : MethodName := ⟨RJ9, "min", "(II)I"⟩
def RJ0 : String := "java/lang/String"
def TJ0 : u_T := fun k => match k with
  | 0 => ("java/lang/String", "value", "[B", true)
  | _ => ("java/lang/String", "coder", "B", true)
def tyJ0 : Nat → FieldType := fun k => match k with
  | 0 => .array .byte
  | _ => .byte
abbrev wsJ00 : List Cond := u_ws RJ0 TJ0 2
theorem nmJ0 : ∀ a, a < 2 → ∀ b, b < 2 → a ≠ b → (TJ0 a).2.1 ≠ (TJ0 b).2.1 := by decide +kernel
theorem tyJ0_ok : ∀ k, k < 2 → parseFieldDescriptor (TJ0 k).2.2.1 = some (tyJ0 k) := by decide +kernel
def RJ10 : String := "java/lang/System"
def TJ10 : u_T := fun k => match k with
  | _ => ("", "", "", false)
def tyJ10 : Nat → FieldType := fun k => match k with
  | _ => .int
abbrev wsJ100 : List Cond := u_ws RJ10 TJ10 0
theorem nmJ10 : ∀ a, a < 0 → ∀ b, b < 0 → a ≠ b → (TJ10 a).2.1 ≠ (TJ10 b).2.1 := by decide +kernel
theorem tyJ10_ok : ∀ k, k < 0 → parseFieldDescriptor (TJ10 k).2.2.1 = some (tyJ10 k) := by decide +kernel
def RJxa1e45 : String := "java/util/AbstractCollection"
def TJxa1e45 : u_T := fun k => match k with
  | _ => ("", "", "", false)
def tyJxa1e45 : Nat → FieldType := fun k => match k with
  | _ => .int
abbrev wsJxa1e450 : List Cond := u_ws RJxa1e45 TJxa1e45 0
theorem nmJxa1e45 : ∀ a, a < 0 → ∀ b, b < 0 → a ≠ b → (TJxa1e45 a).2.1 ≠ (TJxa1e45 b).2.1 := by decide +kernel
theorem tyJxa1e45_ok : ∀ k, k < 0 → parseFieldDescriptor (TJxa1e45 k).2.2.1 = some (tyJxa1e45 k) := by decide +kernel
abbrev cJxa1e45_init_da8c8 : ByteArray := prog_27_method_1_code
def yJxa1e45_init_da8c8 : MethodName := ⟨RJxa1e45, "<init>", "()V"⟩
def RJxc12de : String := "java/util/AbstractList"
def TJxc12de : u_T := fun k => match k with
  | _ => ("", "", "", false)
def tyJxc12de : Nat → FieldType := fun k => match k with
  | _ => .int
abbrev wsJxc12de0 : List Cond := u_ws RJxc12de TJxc12de 0
theorem nmJxc12de : ∀ a, a < 0 → ∀ b, b < 0 → a ≠ b → (TJxc12de a).2.1 ≠ (TJxc12de b).2.1 := by decide +kernel
theorem tyJxc12de_ok : ∀ k, k < 0 → parseFieldDescriptor (TJxc12de k).2.2.1 = some (tyJxc12de k) := by decide +kernel
abbrev cJxc12de_init_da8c8 : ByteArray := prog_28_method_1_code
def yJxc12de_init_da8c8 : MethodName := ⟨RJxc12de, "<init>", "()V"⟩
def RJx4a65c : String := "java/util/ArrayList"
def TJx4a65c : u_T := fun k => match k with
  | 0 => ("java/util/AbstractList", "modCount", "I", false)
  | 1 => ("java/util/ArrayList", "elementData", "[Ljava/lang/Object;", false)
  | _ => ("java/util/ArrayList", "size", "I", false)
def tyJx4a65c : Nat → FieldType := fun k => match k with
  | 0 => .int
  | 1 => .array (.object "java/lang/Object")
  | _ => .int
abbrev wsJx4a65c0 : List Cond := u_ws RJx4a65c TJx4a65c 3
theorem nmJx4a65c : ∀ a, a < 3 → ∀ b, b < 3 → a ≠ b → (TJx4a65c a).2.1 ≠ (TJx4a65c b).2.1 := by decide +kernel
theorem tyJx4a65c_ok : ∀ k, k < 3 → parseFieldDescriptor (TJx4a65c k).2.2.1 = some (tyJx4a65c k) := by decide +kernel
abbrev cJx4a65c_init_da8c8 : ByteArray := prog_29_method_2_code
def yJx4a65c_init_da8c8 : MethodName := ⟨RJx4a65c, "<init>", "()V"⟩
abbrev cJx4a65c_grow_92f84 : ByteArray := prog_29_method_6_code
def yJx4a65c_grow_92f84 : MethodName := ⟨RJx4a65c, "grow", "(I)[Ljava/lang/Object;"⟩
abbrev cJx4a65c_grow_d5877 : ByteArray := prog_29_method_7_code
def yJx4a65c_grow_d5877 : MethodName := ⟨RJx4a65c, "grow", "()[Ljava/lang/Object;"⟩
abbrev cJx4a65c_size_8abf5 : ByteArray := prog_29_method_8_code
def yJx4a65c_size_8abf5 : MethodName := ⟨RJx4a65c, "size", "()I"⟩
abbrev cJx4a65c_elementData_915e3 : ByteArray := prog_29_method_18_code
def yJx4a65c_elementData_915e3 : MethodName := ⟨RJx4a65c, "elementData", "(I)Ljava/lang/Object;"⟩
abbrev cJx4a65c_get_915e3 : ByteArray := prog_29_method_20_code
def yJx4a65c_get_915e3 : MethodName := ⟨RJx4a65c, "get", "(I)Ljava/lang/Object;"⟩
abbrev cJx4a65c_add_72be8 : ByteArray := prog_29_method_24_code
def yJx4a65c_add_72be8 : MethodName := ⟨RJx4a65c, "add", "(Ljava/lang/Object;[Ljava/lang/Object;I)V"⟩
abbrev cJx4a65c_add_9ea2d : ByteArray := prog_29_method_25_code
def yJx4a65c_add_9ea2d : MethodName := ⟨RJx4a65c, "add", "(Ljava/lang/Object;)Z"⟩
def RJ7 : String := "java/util/Arrays"
def TJ7 : u_T := fun k => match k with
  | _ => ("", "", "", false)
def tyJ7 : Nat → FieldType := fun k => match k with
  | _ => .int
abbrev wsJ70 : List Cond := u_ws RJ7 TJ7 0
theorem nmJ7 : ∀ a, a < 0 → ∀ b, b < 0 → a ≠ b → (TJ7 a).2.1 ≠ (TJ7 b).2.1 := by decide +kernel
theorem tyJ7_ok : ∀ k, k < 0 → parseFieldDescriptor (TJ7 k).2.2.1 = some (tyJ7 k) := by decide +kernel
abbrev cJ7_copyOf_1904c : ByteArray := prog_30_method_119_code
def yJ7_copyOf_1904c : MethodName := ⟨RJ7, "copyOf", "([Ljava/lang/Object;I)[Ljava/lang/Object;"⟩
abbrev cJ7_copyOf_6403c : ByteArray := prog_30_method_120_code
def yJ7_copyOf_6403c : MethodName := ⟨RJ7, "copyOf", "([Ljava/lang/Object;ILjava/lang/Class;)[Ljava/lang/Object;"⟩
def RJx5ef63 : String := "java/util/Collection"
def TJx5ef63 : u_T := fun k => match k with
  | _ => ("", "", "", false)
def tyJx5ef63 : Nat → FieldType := fun k => match k with
  | _ => .int
abbrev wsJx5ef630 : List Cond := u_ws RJx5ef63 TJx5ef63 0
theorem nmJx5ef63 : ∀ a, a < 0 → ∀ b, b < 0 → a ≠ b → (TJx5ef63 a).2.1 ≠ (TJx5ef63 b).2.1 := by decide +kernel
theorem tyJx5ef63_ok : ∀ k, k < 0 → parseFieldDescriptor (TJx5ef63 k).2.2.1 = some (tyJx5ef63 k) := by decide +kernel
def RJxbd725 : String := "java/util/List"
def TJxbd725 : u_T := fun k => match k with
  | _ => ("", "", "", false)
def tyJxbd725 : Nat → FieldType := fun k => match k with
  | _ => .int
abbrev wsJxbd7250 : List Cond := u_ws RJxbd725 TJxbd725 0
theorem nmJxbd725 : ∀ a, a < 0 → ∀ b, b < 0 → a ≠ b → (TJxbd725 a).2.1 ≠ (TJxbd725 b).2.1 := by decide +kernel
theorem tyJxbd725_ok : ∀ k, k < 0 → parseFieldDescriptor (TJxbd725 k).2.2.1 = some (tyJxbd725 k) := by decide +kernel
def RJ15 : String := "java/util/Objects"
def TJ15 : u_T := fun k => match k with
  | _ => ("", "", "", false)
def tyJ15 : Nat → FieldType := fun k => match k with
  | _ => .int
abbrev wsJ150 : List Cond := u_ws RJ15 TJ15 0
theorem nmJ15 : ∀ a, a < 0 → ∀ b, b < 0 → a ≠ b → (TJ15 a).2.1 ≠ (TJ15 b).2.1 := by decide +kernel
theorem tyJ15_ok : ∀ k, k < 0 → parseFieldDescriptor (TJ15 k).2.2.1 = some (tyJ15 k) := by decide +kernel
abbrev cJ15_checkIndex_7cf53 : ByteArray := prog_34_method_17_code
def yJ15_checkIndex_7cf53 : MethodName := ⟨RJ15, "checkIndex", "(II)I"⟩
def RJxf0a74 : String := "java/util/RandomAccess"
def TJxf0a74 : u_T := fun k => match k with
  | _ => ("", "", "", false)
def tyJxf0a74 : Nat → FieldType := fun k => match k with
  | _ => .int
abbrev wsJxf0a740 : List Cond := u_ws RJxf0a74 TJxf0a74 0
theorem nmJxf0a74 : ∀ a, a < 0 → ∀ b, b < 0 → a ≠ b → (TJxf0a74 a).2.1 ≠ (TJxf0a74 b).2.1 := by decide +kernel
theorem tyJxf0a74_ok : ∀ k, k < 0 → parseFieldDescriptor (TJxf0a74 k).2.2.1 = some (tyJxf0a74 k) := by decide +kernel
def RJxa66e6 : String := "java/util/SequencedCollection"
def TJxa66e6 : u_T := fun k => match k with
  | _ => ("", "", "", false)
def tyJxa66e6 : Nat → FieldType := fun k => match k with
  | _ => .int
abbrev wsJxa66e60 : List Cond := u_ws RJxa66e6 TJxa66e6 0
theorem nmJxa66e6 : ∀ a, a < 0 → ∀ b, b < 0 → a ≠ b → (TJxa66e6 a).2.1 ≠ (TJxa66e6 b).2.1 := by decide +kernel
theorem tyJxa66e6_ok : ∀ k, k < 0 → parseFieldDescriptor (TJxa66e6 k).2.2.1 = some (tyJxa66e6 k) := by decide +kernel
def RJ8 : String := "jdk/internal/util/ArraysSupport"
def TJ8 : u_T := fun k => match k with
  | _ => ("", "", "", false)
def tyJ8 : Nat → FieldType := fun k => match k with
  | _ => .int
abbrev wsJ80 : List Cond := u_ws RJ8 TJ8 0
theorem nmJ8 : ∀ a, a < 0 → ∀ b, b < 0 → a ≠ b → (TJ8 a).2.1 ≠ (TJ8 b).2.1 := by decide +kernel
theorem tyJ8_ok : ∀ k, k < 0 → parseFieldDescriptor (TJ8 k).2.2.1 = some (tyJ8 k) := by decide +kernel
abbrev cJ8_newLength_cabcc : ByteArray := prog_37_method_27_code
def yJ8_newLength_cabcc : MethodName := ⟨RJ8, "newLength", "(III)I"⟩
abbrev cJ8_hugeLength_7cf53 : ByteArray := prog_37_method_28_code
def yJ8_hugeLength_7cf53 : MethodName := ⟨RJ8, "hugeLength", "(II)I"⟩
def RJ3 : String := "jdk/internal/util/Preconditions"
def TJ3 : u_T := fun k => match k with
  | _ => ("", "", "", false)
def tyJ3 : Nat → FieldType := fun k => match k with
  | _ => .int
abbrev wsJ30 : List Cond := u_ws RJ3 TJ3 0
theorem nmJ3 : ∀ a, a < 0 → ∀ b, b < 0 → a ≠ b → (TJ3 a).2.1 ≠ (TJ3 b).2.1 := by decide +kernel
theorem tyJ3_ok : ∀ k, k < 0 → parseFieldDescriptor (TJ3 k).2.2.1 = some (tyJ3 k) := by decide +kernel
abbrev cJ3_checkIndex_8e157 : ByteArray := prog_38_method_11_code
def yJ3_checkIndex_8e157 : MethodName := ⟨RJ3, "checkIndex", "(IILjava/util/function/BiFunction;)I"⟩
def RL : String := "PrecedentHallLaw"
abbrev cL_addRule : ByteArray := method_3_code
def yL_addRule : MethodName := ⟨RL, "addRule", "(LPrecedentHall;IZIII[J)I"⟩
abbrev cL_repeal : ByteArray := method_4_code
def yL_repeal : MethodName := ⟨RL, "repeal", "(LPrecedentHall;II[J)I"⟩
abbrev cL_isInForce : ByteArray := method_5_code
def yL_isInForce : MethodName := ⟨RL, "isInForce", "(LPrecedentHall;II[J)I"⟩
abbrev cL_applying : ByteArray := method_6_code
def yL_applying : MethodName := ⟨RL, "applying", "(LPrecedentHall;I[J)I"⟩
abbrev cL_conflicts : ByteArray := method_7_code
def yL_conflicts : MethodName := ⟨RL, "conflicts", "(LPrecedentHall;I[J)I"⟩
abbrev cL_addUser : ByteArray := method_8_code
def yL_addUser : MethodName := ⟨RL, "addUser", "(LPrecedentHall;I[J)I"⟩
abbrev cL_setWeight : ByteArray := method_9_code
def yL_setWeight : MethodName := ⟨RL, "setWeight", "(LPrecedentHall;II[J)I"⟩
abbrev cL_sanctions : ByteArray := method_10_code
def yL_sanctions : MethodName := ⟨RL, "sanctions", "(LPrecedentHall;I[J)I"⟩
abbrev cL_sanctionedUntil : ByteArray := method_11_code
def yL_sanctionedUntil : MethodName := ⟨RL, "sanctionedUntil", "(LPrecedentHall;I[J)I"⟩
abbrev cL_addBot : ByteArray := method_12_code
def yL_addBot : MethodName := ⟨RL, "addBot", "(LPrecedentHall;II[J)I"⟩
abbrev cL_threshold : ByteArray := method_13_code
def yL_threshold : MethodName := ⟨RL, "threshold", "(LPrecedentHall;I[J)I"⟩
abbrev cL_file : ByteArray := method_14_code
def yL_file : MethodName := ⟨RL, "file", "(LPrecedentHall;IIII[J)I"⟩
abbrev cL_state : ByteArray := method_15_code
def yL_state : MethodName := ⟨RL, "state", "(LPrecedentHall;I[J)I"⟩
abbrev cL_vote : ByteArray := method_16_code
def yL_vote : MethodName := ⟨RL, "vote", "(LPrecedentHall;IIZ[J)I"⟩
abbrev cL_weightFor : ByteArray := method_17_code
def yL_weightFor : MethodName := ⟨RL, "weightFor", "(LPrecedentHall;I[J)I"⟩
abbrev cL_weightAgainst : ByteArray := method_18_code
def yL_weightAgainst : MethodName := ⟨RL, "weightAgainst", "(LPrecedentHall;I[J)I"⟩
abbrev cL_setQuorum : ByteArray := method_19_code
def yL_setQuorum : MethodName := ⟨RL, "setQuorum", "(LPrecedentHall;I[J)I"⟩
abbrev cL_precedent : ByteArray := method_20_code
def yL_precedent : MethodName := ⟨RL, "precedent", "(LPrecedentHall;I[J)I"⟩
abbrev cL_decide : ByteArray := method_21_code
def yL_decide : MethodName := ⟨RL, "decide", "(LPrecedentHall;I[J)I"⟩
abbrev cL_outcome : ByteArray := method_22_code
def yL_outcome : MethodName := ⟨RL, "outcome", "(LPrecedentHall;I[J)I"⟩
abbrev cL_outcomeAnew : ByteArray := method_23_code
def yL_outcomeAnew : MethodName := ⟨RL, "outcomeAnew", "(LPrecedentHall;I[J)I"⟩
abbrev cL_isByBot : ByteArray := method_24_code
def yL_isByBot : MethodName := ⟨RL, "isByBot", "(LPrecedentHall;I[J)I"⟩
abbrev cL_appeal : ByteArray := method_25_code
def yL_appeal : MethodName := ⟨RL, "appeal", "(LPrecedentHall;I[J)I"⟩
abbrev cL_wasReversed : ByteArray := method_26_code
def yL_wasReversed : MethodName := ⟨RL, "wasReversed", "(LPrecedentHall;I[J)I"⟩
abbrev cL_pass : ByteArray := method_27_code
def yL_pass : MethodName := ⟨RL, "pass", "(LPrecedentHall;I[J)I"⟩
abbrev cL_likeness : ByteArray := method_28_code
def yL_likeness : MethodName := ⟨RL, "likeness", "(LPrecedentHall;II[J)I"⟩
abbrev cL_count : ByteArray := method_29_code
def yL_count : MethodName := ⟨RL, "count", "(LPrecedentHall;C[J)I"⟩
abbrev cL_meanEvidence : ByteArray := method_30_code
def yL_meanEvidence : MethodName := ⟨RL, "meanEvidence", "(LPrecedentHall;[D)I"⟩
abbrev cL_reversedShare : ByteArray := method_31_code
def yL_reversedShare : MethodName := ⟨RL, "reversedShare", "(LPrecedentHall;[D)I"⟩
abbrev cL_law : ByteArray := code
def yL_law : MethodName := ⟨RL, "law", "([I)Z"⟩
end
section
theorem dX0_init_0 : decode cX0_init 0 = .ok (.aload_n 0, 1) := by decide +kernel
theorem dX0_init_1 : decode cX0_init 1 = .ok (.invokespecial 3, 3) := by decide +kernel
theorem dX0_init_4 : decode cX0_init 4 = .ok (.aload_n 0, 1) := by decide +kernel
theorem dX0_init_5 : decode cX0_init 5 = .ok (.iload_n 1, 1) := by decide +kernel
theorem dX0_init_6 : decode cX0_init 6 = .ok (.putfield 9, 3) := by decide +kernel
theorem dX0_init_9 : decode cX0_init 9 = .ok (.aload_n 0, 1) := by decide +kernel
theorem dX0_init_10 : decode cX0_init 10 = .ok (.iload_n 2, 1) := by decide +kernel
theorem dX0_init_11 : decode cX0_init 11 = .ok (.putfield 15, 3) := by decide +kernel
theorem dX0_init_14 : decode cX0_init 14 = .ok (.return_, 1) := by decide +kernel
theorem dX0_learn_0 : decode cX0_learn 0 = .ok (.aload_n 0, 1) := by decide +kernel
theorem dX0_learn_1 : decode cX0_learn 1 = .ok (.iload_n 1, 1) := by decide +kernel
theorem dX0_learn_2 : decode cX0_learn 2 = .ok (.ifCond .eq 17, 3) := by decide +kernel
theorem dX0_learn_5 : decode cX0_learn 5 = .ok (.aload_n 0, 1) := by decide +kernel
theorem dX0_learn_6 : decode cX0_learn 6 = .ok (.getfield 15, 3) := by decide +kernel
theorem dX0_learn_9 : decode cX0_learn 9 = .ok (.iconst 5, 1) := by decide +kernel
theorem dX0_learn_10 : decode cX0_learn 10 = .ok (.iadd, 1) := by decide +kernel
theorem dX0_learn_11 : decode cX0_learn 11 = .ok (.bipush 100, 2) := by decide +kernel
theorem dX0_learn_13 : decode cX0_learn 13 = .ok (.invokestatic 18, 3) := by decide +kernel
theorem dX0_learn_16 : decode cX0_learn 16 = .ok (.goto 14, 3) := by decide +kernel
theorem dX0_learn_19 : decode cX0_learn 19 = .ok (.aload_n 0, 1) := by decide +kernel
theorem dX0_learn_20 : decode cX0_learn 20 = .ok (.getfield 15, 3) := by decide +kernel
theorem dX0_learn_23 : decode cX0_learn 23 = .ok (.iconst 1, 1) := by decide +kernel
theorem dX0_learn_24 : decode cX0_learn 24 = .ok (.isub, 1) := by decide +kernel
theorem dX0_learn_25 : decode cX0_learn 25 = .ok (.bipush 50, 2) := by decide +kernel
theorem dX0_learn_27 : decode cX0_learn 27 = .ok (.invokestatic 24, 3) := by decide +kernel
theorem dX0_learn_30 : decode cX0_learn 30 = .ok (.putfield 15, 3) := by decide +kernel
theorem dX0_learn_33 : decode cX0_learn 33 = .ok (.return_, 1) := by decide +kernel
theorem dX1_init_0 : decode cX1_init 0 = .ok (.aload_n 0, 1) := by decide +kernel
theorem dX1_init_1 : decode cX1_init 1 = .ok (.invokespecial 1, 3) := by decide +kernel
theorem dX1_init_4 : decode cX1_init 4 = .ok (.aload_n 0, 1) := by decide +kernel
theorem dX1_init_5 : decode cX1_init 5 = .ok (.aload_n 1, 1) := by decide +kernel
theorem dX1_init_6 : decode cX1_init 6 = .ok (.putfield 7, 3) := by decide +kernel
theorem dX1_init_9 : decode cX1_init 9 = .ok (.aload_n 0, 1) := by decide +kernel
theorem dX1_init_10 : decode cX1_init 10 = .ok (.iload_n 2, 1) := by decide +kernel
theorem dX1_init_11 : decode cX1_init 11 = .ok (.putfield 13, 3) := by decide +kernel
theorem dX1_init_14 : decode cX1_init 14 = .ok (.aload_n 0, 1) := by decide +kernel
theorem dX1_init_15 : decode cX1_init 15 = .ok (.iload_n 3, 1) := by decide +kernel
theorem dX1_init_16 : decode cX1_init 16 = .ok (.putfield 17, 3) := by decide +kernel
theorem dX1_init_19 : decode cX1_init 19 = .ok (.aload_n 0, 1) := by decide +kernel
theorem dX1_init_20 : decode cX1_init 20 = .ok (.iload 4, 2) := by decide +kernel
theorem dX1_init_22 : decode cX1_init 22 = .ok (.putfield 21, 3) := by decide +kernel
theorem dX1_init_25 : decode cX1_init 25 = .ok (.return_, 1) := by decide +kernel
theorem dX2_init_0 : decode cX2_init 0 = .ok (.aload_n 0, 1) := by decide +kernel
theorem dX2_init_1 : decode cX2_init 1 = .ok (.invokespecial 3, 3) := by decide +kernel
theorem dX2_init_4 : decode cX2_init 4 = .ok (.aload_n 0, 1) := by decide +kernel
theorem dX2_init_5 : decode cX2_init 5 = .ok (.iload_n 1, 1) := by decide +kernel
theorem dX2_init_6 : decode cX2_init 6 = .ok (.putfield 9, 3) := by decide +kernel
theorem dX2_init_9 : decode cX2_init 9 = .ok (.aload_n 0, 1) := by decide +kernel
theorem dX2_init_10 : decode cX2_init 10 = .ok (.aload_n 2, 1) := by decide +kernel
theorem dX2_init_11 : decode cX2_init 11 = .ok (.putfield 15, 3) := by decide +kernel
theorem dX2_init_14 : decode cX2_init 14 = .ok (.aload_n 0, 1) := by decide +kernel
theorem dX2_init_15 : decode cX2_init 15 = .ok (.aload_n 3, 1) := by decide +kernel
theorem dX2_init_16 : decode cX2_init 16 = .ok (.putfield 19, 3) := by decide +kernel
theorem dX2_init_19 : decode cX2_init 19 = .ok (.aload_n 0, 1) := by decide +kernel
theorem dX2_init_20 : decode cX2_init 20 = .ok (.iload 4, 2) := by decide +kernel
theorem dX2_init_22 : decode cX2_init 22 = .ok (.putfield 22, 3) := by decide +kernel
theorem dX2_init_25 : decode cX2_init 25 = .ok (.aload_n 0, 1) := by decide +kernel
theorem dX2_init_26 : decode cX2_init 26 = .ok (.iload 5, 2) := by decide +kernel
theorem dX2_init_28 : decode cX2_init 28 = .ok (.putfield 25, 3) := by decide +kernel
theorem dX2_init_31 : decode cX2_init 31 = .ok (.aload_n 0, 1) := by decide +kernel
theorem dX2_init_32 : decode cX2_init 32 = .ok (.iload 6, 2) := by decide +kernel
theorem dX2_init_34 : decode cX2_init 34 = .ok (.putfield 28, 3) := by decide +kernel
theorem dX2_init_37 : decode cX2_init 37 = .ok (.aload_n 0, 1) := by decide +kernel
theorem dX2_init_38 : decode cX2_init 38 = .ok (.bipush 8, 2) := by decide +kernel
theorem dX2_init_40 : decode cX2_init 40 = .ok (.newarray .int, 2) := by decide +kernel
theorem dX2_init_42 : decode cX2_init 42 = .ok (.putfield 31, 3) := by decide +kernel
theorem dX2_init_45 : decode cX2_init 45 = .ok (.aload_n 0, 1) := by decide +kernel
theorem dX2_init_46 : decode cX2_init 46 = .ok (.bipush 111, 2) := by decide +kernel
theorem dX2_init_48 : decode cX2_init 48 = .ok (.putfield 35, 3) := by decide +kernel
theorem dX2_init_51 : decode cX2_init 51 = .ok (.aload_n 0, 1) := by decide +kernel
theorem dX2_init_52 : decode cX2_init 52 = .ok (.bipush 45, 2) := by decide +kernel
theorem dX2_init_54 : decode cX2_init 54 = .ok (.putfield 39, 3) := by decide +kernel
theorem dX2_init_57 : decode cX2_init 57 = .ok (.return_, 1) := by decide +kernel
theorem dX2_tells_0 : decode cX2_tells 0 = .ok (.aload_n 0, 1) := by decide +kernel
theorem dX2_tells_1 : decode cX2_tells 1 = .ok (.getfield 22, 3) := by decide +kernel
theorem dX2_tells_4 : decode cX2_tells 4 = .ok (.iload_n 1, 1) := by decide +kernel
theorem dX2_tells_5 : decode cX2_tells 5 = .ok (.ishr, 1) := by decide +kernel
theorem dX2_tells_6 : decode cX2_tells 6 = .ok (.iconst 1, 1) := by decide +kernel
theorem dX2_tells_7 : decode cX2_tells 7 = .ok (.iand, 1) := by decide +kernel
theorem dX2_tells_8 : decode cX2_tells 8 = .ok (.iconst 1, 1) := by decide +kernel
theorem dX2_tells_9 : decode cX2_tells 9 = .ok (.if_icmp .ne 7, 3) := by decide +kernel
theorem dX2_tells_12 : decode cX2_tells 12 = .ok (.iconst 1, 1) := by decide +kernel
theorem dX2_tells_13 : decode cX2_tells 13 = .ok (.goto 4, 3) := by decide +kernel
theorem dX2_tells_16 : decode cX2_tells 16 = .ok (.iconst 0, 1) := by decide +kernel
theorem dX2_tells_17 : decode cX2_tells 17 = .ok (.ireturn, 1) := by decide +kernel
theorem dX2_enterVote_0 : decode cX2_enterVote 0 = .ok (.iload_n 1, 1) := by decide +kernel
theorem dX2_enterVote_1 : decode cX2_enterVote 1 = .ok (.ifCond .lt 19, 3) := by decide +kernel
theorem dX2_enterVote_4 : decode cX2_enterVote 4 = .ok (.iload_n 1, 1) := by decide +kernel
theorem dX2_enterVote_5 : decode cX2_enterVote 5 = .ok (.aload_n 0, 1) := by decide +kernel
theorem dX2_enterVote_6 : decode cX2_enterVote 6 = .ok (.getfield 31, 3) := by decide +kernel
theorem dX2_enterVote_9 : decode cX2_enterVote 9 = .ok (.arraylength, 1) := by decide +kernel
theorem dX2_enterVote_10 : decode cX2_enterVote 10 = .ok (.if_icmp .ge 10, 3) := by decide +kernel
theorem dX2_enterVote_13 : decode cX2_enterVote 13 = .ok (.aload_n 0, 1) := by decide +kernel
theorem dX2_enterVote_14 : decode cX2_enterVote 14 = .ok (.getfield 31, 3) := by decide +kernel
theorem dX2_enterVote_17 : decode cX2_enterVote 17 = .ok (.iload_n 1, 1) := by decide +kernel
theorem dX2_enterVote_18 : decode cX2_enterVote 18 = .ok (.iload_n 2, 1) := by decide +kernel
theorem dX2_enterVote_19 : decode cX2_enterVote 19 = .ok (.iastore, 1) := by decide +kernel
theorem dX2_enterVote_20 : decode cX2_enterVote 20 = .ok (.return_, 1) := by decide +kernel
theorem dX2_sumFor_0 : decode cX2_sumFor 0 = .ok (.iconst 0, 1) := by decide +kernel
theorem dX2_sumFor_1 : decode cX2_sumFor 1 = .ok (.istore_n 1, 1) := by decide +kernel
theorem dX2_sumFor_2 : decode cX2_sumFor 2 = .ok (.aload_n 0, 1) := by decide +kernel
theorem dX2_sumFor_3 : decode cX2_sumFor 3 = .ok (.getfield 31, 3) := by decide +kernel
theorem dX2_sumFor_6 : decode cX2_sumFor 6 = .ok (.astore_n 2, 1) := by decide +kernel
theorem dX2_sumFor_7 : decode cX2_sumFor 7 = .ok (.aload_n 2, 1) := by decide +kernel
theorem dX2_sumFor_8 : decode cX2_sumFor 8 = .ok (.arraylength, 1) := by decide +kernel
theorem dX2_sumFor_9 : decode cX2_sumFor 9 = .ok (.istore_n 3, 1) := by decide +kernel
theorem dX2_sumFor_10 : decode cX2_sumFor 10 = .ok (.iconst 0, 1) := by decide +kernel
theorem dX2_sumFor_11 : decode cX2_sumFor 11 = .ok (.istore 4, 2) := by decide +kernel
theorem dX2_sumFor_13 : decode cX2_sumFor 13 = .ok (.iload 4, 2) := by decide +kernel
theorem dX2_sumFor_15 : decode cX2_sumFor 15 = .ok (.iload_n 3, 1) := by decide +kernel
theorem dX2_sumFor_16 : decode cX2_sumFor 16 = .ok (.if_icmp .ge 24, 3) := by decide +kernel
theorem dX2_sumFor_19 : decode cX2_sumFor 19 = .ok (.aload_n 2, 1) := by decide +kernel
theorem dX2_sumFor_20 : decode cX2_sumFor 20 = .ok (.iload 4, 2) := by decide +kernel
theorem dX2_sumFor_22 : decode cX2_sumFor 22 = .ok (.iaload, 1) := by decide +kernel
theorem dX2_sumFor_23 : decode cX2_sumFor 23 = .ok (.istore 5, 2) := by decide +kernel
theorem dX2_sumFor_25 : decode cX2_sumFor 25 = .ok (.iload_n 1, 1) := by decide +kernel
theorem dX2_sumFor_26 : decode cX2_sumFor 26 = .ok (.iload 5, 2) := by decide +kernel
theorem dX2_sumFor_28 : decode cX2_sumFor 28 = .ok (.iconst 0, 1) := by decide +kernel
theorem dX2_sumFor_29 : decode cX2_sumFor 29 = .ok (.invokestatic 42, 3) := by decide +kernel
theorem dX2_sumFor_32 : decode cX2_sumFor 32 = .ok (.iadd, 1) := by decide +kernel
theorem dX2_sumFor_33 : decode cX2_sumFor 33 = .ok (.istore_n 1, 1) := by decide +kernel
theorem dX2_sumFor_34 : decode cX2_sumFor 34 = .ok (.iinc 4 1, 3) := by decide +kernel
theorem dX2_sumFor_37 : decode cX2_sumFor 37 = .ok (.goto (-24), 3) := by decide +kernel
theorem dX2_sumFor_40 : decode cX2_sumFor 40 = .ok (.iload_n 1, 1) := by decide +kernel
theorem dX2_sumFor_41 : decode cX2_sumFor 41 = .ok (.ireturn, 1) := by decide +kernel
theorem dX2_sumAgainst_0 : decode cX2_sumAgainst 0 = .ok (.iconst 0, 1) := by decide +kernel
theorem dX2_sumAgainst_1 : decode cX2_sumAgainst 1 = .ok (.istore_n 1, 1) := by decide +kernel
theorem dX2_sumAgainst_2 : decode cX2_sumAgainst 2 = .ok (.aload_n 0, 1) := by decide +kernel
theorem dX2_sumAgainst_3 : decode cX2_sumAgainst 3 = .ok (.getfield 31, 3) := by decide +kernel
theorem dX2_sumAgainst_6 : decode cX2_sumAgainst 6 = .ok (.astore_n 2, 1) := by decide +kernel
theorem dX2_sumAgainst_7 : decode cX2_sumAgainst 7 = .ok (.aload_n 2, 1) := by decide +kernel
theorem dX2_sumAgainst_8 : decode cX2_sumAgainst 8 = .ok (.arraylength, 1) := by decide +kernel
theorem dX2_sumAgainst_9 : decode cX2_sumAgainst 9 = .ok (.istore_n 3, 1) := by decide +kernel
theorem dX2_sumAgainst_10 : decode cX2_sumAgainst 10 = .ok (.iconst 0, 1) := by decide +kernel
theorem dX2_sumAgainst_11 : decode cX2_sumAgainst 11 = .ok (.istore 4, 2) := by decide +kernel
theorem dX2_sumAgainst_13 : decode cX2_sumAgainst 13 = .ok (.iload 4, 2) := by decide +kernel
theorem dX2_sumAgainst_15 : decode cX2_sumAgainst 15 = .ok (.iload_n 3, 1) := by decide +kernel
theorem dX2_sumAgainst_16 : decode cX2_sumAgainst 16 = .ok (.if_icmp .ge 25, 3) := by decide +kernel
theorem dX2_sumAgainst_19 : decode cX2_sumAgainst 19 = .ok (.aload_n 2, 1) := by decide +kernel
theorem dX2_sumAgainst_20 : decode cX2_sumAgainst 20 = .ok (.iload 4, 2) := by decide +kernel
theorem dX2_sumAgainst_22 : decode cX2_sumAgainst 22 = .ok (.iaload, 1) := by decide +kernel
theorem dX2_sumAgainst_23 : decode cX2_sumAgainst 23 = .ok (.istore 5, 2) := by decide +kernel
theorem dX2_sumAgainst_25 : decode cX2_sumAgainst 25 = .ok (.iload_n 1, 1) := by decide +kernel
theorem dX2_sumAgainst_26 : decode cX2_sumAgainst 26 = .ok (.iload 5, 2) := by decide +kernel
theorem dX2_sumAgainst_28 : decode cX2_sumAgainst 28 = .ok (.ineg, 1) := by decide +kernel
theorem dX2_sumAgainst_29 : decode cX2_sumAgainst 29 = .ok (.iconst 0, 1) := by decide +kernel
theorem dX2_sumAgainst_30 : decode cX2_sumAgainst 30 = .ok (.invokestatic 42, 3) := by decide +kernel
theorem dX2_sumAgainst_33 : decode cX2_sumAgainst 33 = .ok (.iadd, 1) := by decide +kernel
theorem dX2_sumAgainst_34 : decode cX2_sumAgainst 34 = .ok (.istore_n 1, 1) := by decide +kernel
theorem dX2_sumAgainst_35 : decode cX2_sumAgainst 35 = .ok (.iinc 4 1, 3) := by decide +kernel
theorem dX2_sumAgainst_38 : decode cX2_sumAgainst 38 = .ok (.goto (-25), 3) := by decide +kernel
theorem dX2_sumAgainst_41 : decode cX2_sumAgainst 41 = .ok (.iload_n 1, 1) := by decide +kernel
theorem dX2_sumAgainst_42 : decode cX2_sumAgainst 42 = .ok (.ireturn, 1) := by decide +kernel
theorem dX2_hasNewDecision_0 : decode cX2_hasNewDecision 0 = .ok (.aload_n 0, 1) := by decide +kernel
theorem dX2_hasNewDecision_1 : decode cX2_hasNewDecision 1 = .ok (.getfield 48, 3) := by decide +kernel
theorem dX2_hasNewDecision_4 : decode cX2_hasNewDecision 4 = .ok (.ifCond .eq 16, 3) := by decide +kernel
theorem dX2_hasNewDecision_7 : decode cX2_hasNewDecision 7 = .ok (.aload_n 0, 1) := by decide +kernel
theorem dX2_hasNewDecision_8 : decode cX2_hasNewDecision 8 = .ok (.getfield 35, 3) := by decide +kernel
theorem dX2_hasNewDecision_11 : decode cX2_hasNewDecision 11 = .ok (.bipush 100, 2) := by decide +kernel
theorem dX2_hasNewDecision_13 : decode cX2_hasNewDecision 13 = .ok (.if_icmp .ne 7, 3) := by decide +kernel
theorem dX2_hasNewDecision_16 : decode cX2_hasNewDecision 16 = .ok (.iconst 1, 1) := by decide +kernel
theorem dX2_hasNewDecision_17 : decode cX2_hasNewDecision 17 = .ok (.goto 4, 3) := by decide +kernel
theorem dX2_hasNewDecision_20 : decode cX2_hasNewDecision 20 = .ok (.iconst 0, 1) := by decide +kernel
theorem dX2_hasNewDecision_21 : decode cX2_hasNewDecision 21 = .ok (.ireturn, 1) := by decide +kernel
theorem dX2_standsByBot_0 : decode cX2_standsByBot 0 = .ok (.aload_n 0, 1) := by decide +kernel
theorem dX2_standsByBot_1 : decode cX2_standsByBot 1 = .ok (.getfield 52, 3) := by decide +kernel
theorem dX2_standsByBot_4 : decode cX2_standsByBot 4 = .ok (.ifnull 23, 3) := by decide +kernel
theorem dX2_standsByBot_7 : decode cX2_standsByBot 7 = .ok (.aload_n 0, 1) := by decide +kernel
theorem dX2_standsByBot_8 : decode cX2_standsByBot 8 = .ok (.getfield 35, 3) := by decide +kernel
theorem dX2_standsByBot_11 : decode cX2_standsByBot 11 = .ok (.bipush 100, 2) := by decide +kernel
theorem dX2_standsByBot_13 : decode cX2_standsByBot 13 = .ok (.if_icmp .ne 14, 3) := by decide +kernel
theorem dX2_standsByBot_16 : decode cX2_standsByBot 16 = .ok (.aload_n 0, 1) := by decide +kernel
theorem dX2_standsByBot_17 : decode cX2_standsByBot 17 = .ok (.getfield 48, 3) := by decide +kernel
theorem dX2_standsByBot_20 : decode cX2_standsByBot 20 = .ok (.ifCond .ne 7, 3) := by decide +kernel
theorem dX2_standsByBot_23 : decode cX2_standsByBot 23 = .ok (.iconst 1, 1) := by decide +kernel
theorem dX2_standsByBot_24 : decode cX2_standsByBot 24 = .ok (.goto 4, 3) := by decide +kernel
theorem dX2_standsByBot_27 : decode cX2_standsByBot 27 = .ok (.iconst 0, 1) := by decide +kernel
theorem dX2_standsByBot_28 : decode cX2_standsByBot 28 = .ok (.ireturn, 1) := by decide +kernel
theorem dX3_init_0 : decode cX3_init 0 = .ok (.aload_n 0, 1) := by decide +kernel
theorem dX3_init_1 : decode cX3_init 1 = .ok (.invokespecial 3, 3) := by decide +kernel
theorem dX3_init_4 : decode cX3_init 4 = .ok (.aload_n 0, 1) := by decide +kernel
theorem dX3_init_5 : decode cX3_init 5 = .ok (.iload_n 1, 1) := by decide +kernel
theorem dX3_init_6 : decode cX3_init 6 = .ok (.putfield 9, 3) := by decide +kernel
theorem dX3_init_9 : decode cX3_init 9 = .ok (.aload_n 0, 1) := by decide +kernel
theorem dX3_init_10 : decode cX3_init 10 = .ok (.iload_n 2, 1) := by decide +kernel
theorem dX3_init_11 : decode cX3_init 11 = .ok (.putfield 15, 3) := by decide +kernel
theorem dX3_init_14 : decode cX3_init 14 = .ok (.aload_n 0, 1) := by decide +kernel
theorem dX3_init_15 : decode cX3_init 15 = .ok (.iload_n 3, 1) := by decide +kernel
theorem dX3_init_16 : decode cX3_init 16 = .ok (.putfield 19, 3) := by decide +kernel
theorem dX3_init_19 : decode cX3_init 19 = .ok (.aload_n 0, 1) := by decide +kernel
theorem dX3_init_20 : decode cX3_init 20 = .ok (.iload 4, 2) := by decide +kernel
theorem dX3_init_22 : decode cX3_init 22 = .ok (.putfield 22, 3) := by decide +kernel
theorem dX3_init_25 : decode cX3_init 25 = .ok (.aload_n 0, 1) := by decide +kernel
theorem dX3_init_26 : decode cX3_init 26 = .ok (.iload 5, 2) := by decide +kernel
theorem dX3_init_28 : decode cX3_init 28 = .ok (.putfield 25, 3) := by decide +kernel
theorem dX3_init_31 : decode cX3_init 31 = .ok (.aload_n 0, 1) := by decide +kernel
theorem dX3_init_32 : decode cX3_init 32 = .ok (.sipush 1001, 3) := by decide +kernel
theorem dX3_init_35 : decode cX3_init 35 = .ok (.putfield 28, 3) := by decide +kernel
theorem dX3_init_38 : decode cX3_init 38 = .ok (.return_, 1) := by decide +kernel
theorem dX3_holdsOn_0 : decode cX3_holdsOn 0 = .ok (.aload_n 0, 1) := by decide +kernel
theorem dX3_holdsOn_1 : decode cX3_holdsOn 1 = .ok (.getfield 25, 3) := by decide +kernel
theorem dX3_holdsOn_4 : decode cX3_holdsOn 4 = .ok (.iload_n 1, 1) := by decide +kernel
theorem dX3_holdsOn_5 : decode cX3_holdsOn 5 = .ok (.if_icmp .gt 15, 3) := by decide +kernel
theorem dX3_holdsOn_8 : decode cX3_holdsOn 8 = .ok (.iload_n 1, 1) := by decide +kernel
theorem dX3_holdsOn_9 : decode cX3_holdsOn 9 = .ok (.aload_n 0, 1) := by decide +kernel
theorem dX3_holdsOn_10 : decode cX3_holdsOn 10 = .ok (.getfield 28, 3) := by decide +kernel
theorem dX3_holdsOn_13 : decode cX3_holdsOn 13 = .ok (.if_icmp .ge 7, 3) := by decide +kernel
theorem dX3_holdsOn_16 : decode cX3_holdsOn 16 = .ok (.iconst 1, 1) := by decide +kernel
theorem dX3_holdsOn_17 : decode cX3_holdsOn 17 = .ok (.goto 4, 3) := by decide +kernel
theorem dX3_holdsOn_20 : decode cX3_holdsOn 20 = .ok (.iconst 0, 1) := by decide +kernel
theorem dX3_holdsOn_21 : decode cX3_holdsOn 21 = .ok (.ireturn, 1) := by decide +kernel
theorem dX3_isRepealed_0 : decode cX3_isRepealed 0 = .ok (.aload_n 0, 1) := by decide +kernel
theorem dX3_isRepealed_1 : decode cX3_isRepealed 1 = .ok (.getfield 28, 3) := by decide +kernel
theorem dX3_isRepealed_4 : decode cX3_isRepealed 4 = .ok (.sipush 1001, 3) := by decide +kernel
theorem dX3_isRepealed_7 : decode cX3_isRepealed 7 = .ok (.if_icmp .eq 7, 3) := by decide +kernel
theorem dX3_isRepealed_10 : decode cX3_isRepealed 10 = .ok (.iconst 1, 1) := by decide +kernel
theorem dX3_isRepealed_11 : decode cX3_isRepealed 11 = .ok (.goto 4, 3) := by decide +kernel
theorem dX3_isRepealed_14 : decode cX3_isRepealed 14 = .ok (.iconst 0, 1) := by decide +kernel
theorem dX3_isRepealed_15 : decode cX3_isRepealed 15 = .ok (.ireturn, 1) := by decide +kernel
theorem dX4_init_0 : decode cX4_init 0 = .ok (.aload_n 0, 1) := by decide +kernel
theorem dX4_init_1 : decode cX4_init 1 = .ok (.invokespecial 1, 3) := by decide +kernel
theorem dX4_init_4 : decode cX4_init 4 = .ok (.aload_n 0, 1) := by decide +kernel
theorem dX4_init_5 : decode cX4_init 5 = .ok (.aload_n 1, 1) := by decide +kernel
theorem dX4_init_6 : decode cX4_init 6 = .ok (.putfield 7, 3) := by decide +kernel
theorem dX4_init_9 : decode cX4_init 9 = .ok (.aload_n 0, 1) := by decide +kernel
theorem dX4_init_10 : decode cX4_init 10 = .ok (.iload_n 2, 1) := by decide +kernel
theorem dX4_init_11 : decode cX4_init 11 = .ok (.putfield 13, 3) := by decide +kernel
theorem dX4_init_14 : decode cX4_init 14 = .ok (.aload_n 0, 1) := by decide +kernel
theorem dX4_init_15 : decode cX4_init 15 = .ok (.iload_n 3, 1) := by decide +kernel
theorem dX4_init_16 : decode cX4_init 16 = .ok (.putfield 17, 3) := by decide +kernel
theorem dX4_init_19 : decode cX4_init 19 = .ok (.return_, 1) := by decide +kernel
theorem dX4_includes_0 : decode cX4_includes 0 = .ok (.aload_n 0, 1) := by decide +kernel
theorem dX4_includes_1 : decode cX4_includes 1 = .ok (.getfield 13, 3) := by decide +kernel
theorem dX4_includes_4 : decode cX4_includes 4 = .ok (.iload_n 1, 1) := by decide +kernel
theorem dX4_includes_5 : decode cX4_includes 5 = .ok (.if_icmp .gt 15, 3) := by decide +kernel
theorem dX4_includes_8 : decode cX4_includes 8 = .ok (.iload_n 1, 1) := by decide +kernel
theorem dX4_includes_9 : decode cX4_includes 9 = .ok (.aload_n 0, 1) := by decide +kernel
theorem dX4_includes_10 : decode cX4_includes 10 = .ok (.getfield 17, 3) := by decide +kernel
theorem dX4_includes_13 : decode cX4_includes 13 = .ok (.if_icmp .ge 7, 3) := by decide +kernel
theorem dX4_includes_16 : decode cX4_includes 16 = .ok (.iconst 1, 1) := by decide +kernel
theorem dX4_includes_17 : decode cX4_includes 17 = .ok (.goto 4, 3) := by decide +kernel
theorem dX4_includes_20 : decode cX4_includes 20 = .ok (.iconst 0, 1) := by decide +kernel
theorem dX4_includes_21 : decode cX4_includes 21 = .ok (.ireturn, 1) := by decide +kernel
theorem dX4_cutAt_0 : decode cX4_cutAt 0 = .ok (.aload_n 0, 1) := by decide +kernel
theorem dX4_cutAt_1 : decode cX4_cutAt 1 = .ok (.aload_n 0, 1) := by decide +kernel
theorem dX4_cutAt_2 : decode cX4_cutAt 2 = .ok (.getfield 17, 3) := by decide +kernel
theorem dX4_cutAt_5 : decode cX4_cutAt 5 = .ok (.iload_n 1, 1) := by decide +kernel
theorem dX4_cutAt_6 : decode cX4_cutAt 6 = .ok (.invokestatic 20, 3) := by decide +kernel
theorem dX4_cutAt_9 : decode cX4_cutAt 9 = .ok (.putfield 17, 3) := by decide +kernel
theorem dX4_cutAt_12 : decode cX4_cutAt 12 = .ok (.return_, 1) := by decide +kernel
theorem dX4_daysBefore_0 : decode cX4_daysBefore 0 = .ok (.aload_n 0, 1) := by decide +kernel
theorem dX4_daysBefore_1 : decode cX4_daysBefore 1 = .ok (.getfield 17, 3) := by decide +kernel
theorem dX4_daysBefore_4 : decode cX4_daysBefore 4 = .ok (.iload_n 1, 1) := by decide +kernel
theorem dX4_daysBefore_5 : decode cX4_daysBefore 5 = .ok (.invokestatic 20, 3) := by decide +kernel
theorem dX4_daysBefore_8 : decode cX4_daysBefore 8 = .ok (.aload_n 0, 1) := by decide +kernel
theorem dX4_daysBefore_9 : decode cX4_daysBefore 9 = .ok (.getfield 13, 3) := by decide +kernel
theorem dX4_daysBefore_12 : decode cX4_daysBefore 12 = .ok (.isub, 1) := by decide +kernel
theorem dX4_daysBefore_13 : decode cX4_daysBefore 13 = .ok (.ireturn, 1) := by decide +kernel
theorem dX5_init_0 : decode cX5_init 0 = .ok (.aload_n 0, 1) := by decide +kernel
theorem dX5_init_1 : decode cX5_init 1 = .ok (.invokespecial 3, 3) := by decide +kernel
theorem dX5_init_4 : decode cX5_init 4 = .ok (.aload_n 0, 1) := by decide +kernel
theorem dX5_init_5 : decode cX5_init 5 = .ok (.bipush 20, 2) := by decide +kernel
theorem dX5_init_7 : decode cX5_init 7 = .ok (.newarray .char, 2) := by decide +kernel
theorem dX5_init_9 : decode cX5_init 9 = .ok (.putfield 9, 3) := by decide +kernel
theorem dX5_init_12 : decode cX5_init 12 = .ok (.aload_n 0, 1) := by decide +kernel
theorem dX5_init_13 : decode cX5_init 13 = .ok (.bipush 20, 2) := by decide +kernel
theorem dX5_init_15 : decode cX5_init 15 = .ok (.newarray .int, 2) := by decide +kernel
theorem dX5_init_17 : decode cX5_init 17 = .ok (.putfield 15, 3) := by decide +kernel
theorem dX5_init_20 : decode cX5_init 20 = .ok (.aload_n 0, 1) := by decide +kernel
theorem dX5_init_21 : decode cX5_init 21 = .ok (.invokevirtual 19, 3) := by decide +kernel
theorem dX5_init_24 : decode cX5_init 24 = .ok (.return_, 1) := by decide +kernel
theorem dX5_wipe_0 : decode cX5_wipe 0 = .ok (.iconst 0, 1) := by decide +kernel
theorem dX5_wipe_1 : decode cX5_wipe 1 = .ok (.istore_n 1, 1) := by decide +kernel
theorem dX5_wipe_2 : decode cX5_wipe 2 = .ok (.iload_n 1, 1) := by decide +kernel
theorem dX5_wipe_3 : decode cX5_wipe 3 = .ok (.aload_n 0, 1) := by decide +kernel
theorem dX5_wipe_4 : decode cX5_wipe 4 = .ok (.getfield 9, 3) := by decide +kernel
theorem dX5_wipe_7 : decode cX5_wipe 7 = .ok (.arraylength, 1) := by decide +kernel
theorem dX5_wipe_8 : decode cX5_wipe 8 = .ok (.if_icmp .ge 17, 3) := by decide +kernel
theorem dX5_wipe_11 : decode cX5_wipe 11 = .ok (.aload_n 0, 1) := by decide +kernel
theorem dX5_wipe_12 : decode cX5_wipe 12 = .ok (.getfield 9, 3) := by decide +kernel
theorem dX5_wipe_15 : decode cX5_wipe 15 = .ok (.iload_n 1, 1) := by decide +kernel
theorem dX5_wipe_16 : decode cX5_wipe 16 = .ok (.bipush 45, 2) := by decide +kernel
theorem dX5_wipe_18 : decode cX5_wipe 18 = .ok (.castore, 1) := by decide +kernel
theorem dX5_wipe_19 : decode cX5_wipe 19 = .ok (.iinc 1 1, 3) := by decide +kernel
theorem dX5_wipe_22 : decode cX5_wipe 22 = .ok (.goto (-20), 3) := by decide +kernel
theorem dX5_wipe_25 : decode cX5_wipe 25 = .ok (.aload_n 0, 1) := by decide +kernel
theorem dX5_wipe_26 : decode cX5_wipe 26 = .ok (.iconst 0, 1) := by decide +kernel
theorem dX5_wipe_27 : decode cX5_wipe 27 = .ok (.putfield 22, 3) := by decide +kernel
theorem dX5_wipe_30 : decode cX5_wipe 30 = .ok (.return_, 1) := by decide +kernel
theorem dX5_enter_0 : decode cX5_enter 0 = .ok (.aload_n 0, 1) := by decide +kernel
theorem dX5_enter_1 : decode cX5_enter 1 = .ok (.dup, 1) := by decide +kernel
theorem dX5_enter_2 : decode cX5_enter 2 = .ok (.getfield 22, 3) := by decide +kernel
theorem dX5_enter_5 : decode cX5_enter 5 = .ok (.iconst 1, 1) := by decide +kernel
theorem dX5_enter_6 : decode cX5_enter 6 = .ok (.iadd, 1) := by decide +kernel
theorem dX5_enter_7 : decode cX5_enter 7 = .ok (.putfield 22, 3) := by decide +kernel
theorem dX5_enter_10 : decode cX5_enter 10 = .ok (.aload_n 0, 1) := by decide +kernel
theorem dX5_enter_11 : decode cX5_enter 11 = .ok (.iload_n 1, 1) := by decide +kernel
theorem dX5_enter_12 : decode cX5_enter 12 = .ok (.invokevirtual 26, 3) := by decide +kernel
theorem dX5_enter_15 : decode cX5_enter 15 = .ok (.ifCond .eq 20, 3) := by decide +kernel
theorem dX5_enter_18 : decode cX5_enter 18 = .ok (.aload_n 0, 1) := by decide +kernel
theorem dX5_enter_19 : decode cX5_enter 19 = .ok (.getfield 9, 3) := by decide +kernel
theorem dX5_enter_22 : decode cX5_enter 22 = .ok (.iload_n 1, 1) := by decide +kernel
theorem dX5_enter_23 : decode cX5_enter 23 = .ok (.iload_n 2, 1) := by decide +kernel
theorem dX5_enter_24 : decode cX5_enter 24 = .ok (.castore, 1) := by decide +kernel
theorem dX5_enter_25 : decode cX5_enter 25 = .ok (.aload_n 0, 1) := by decide +kernel
theorem dX5_enter_26 : decode cX5_enter 26 = .ok (.getfield 15, 3) := by decide +kernel
theorem dX5_enter_29 : decode cX5_enter 29 = .ok (.iload_n 1, 1) := by decide +kernel
theorem dX5_enter_30 : decode cX5_enter 30 = .ok (.aload_n 0, 1) := by decide +kernel
theorem dX5_enter_31 : decode cX5_enter 31 = .ok (.getfield 22, 3) := by decide +kernel
theorem dX5_enter_34 : decode cX5_enter 34 = .ok (.iastore, 1) := by decide +kernel
theorem dX5_enter_35 : decode cX5_enter 35 = .ok (.return_, 1) := by decide +kernel
theorem dX5_lift_0 : decode cX5_lift 0 = .ok (.aload_n 0, 1) := by decide +kernel
theorem dX5_lift_1 : decode cX5_lift 1 = .ok (.iload_n 1, 1) := by decide +kernel
theorem dX5_lift_2 : decode cX5_lift 2 = .ok (.invokevirtual 26, 3) := by decide +kernel
theorem dX5_lift_5 : decode cX5_lift 5 = .ok (.ifCond .eq 11, 3) := by decide +kernel
theorem dX5_lift_8 : decode cX5_lift 8 = .ok (.aload_n 0, 1) := by decide +kernel
theorem dX5_lift_9 : decode cX5_lift 9 = .ok (.getfield 9, 3) := by decide +kernel
theorem dX5_lift_12 : decode cX5_lift 12 = .ok (.iload_n 1, 1) := by decide +kernel
theorem dX5_lift_13 : decode cX5_lift 13 = .ok (.bipush 45, 2) := by decide +kernel
theorem dX5_lift_15 : decode cX5_lift 15 = .ok (.castore, 1) := by decide +kernel
theorem dX5_lift_16 : decode cX5_lift 16 = .ok (.return_, 1) := by decide +kernel
theorem dX5_outcomeOf_0 : decode cX5_outcomeOf 0 = .ok (.aload_n 0, 1) := by decide +kernel
theorem dX5_outcomeOf_1 : decode cX5_outcomeOf 1 = .ok (.iload_n 1, 1) := by decide +kernel
theorem dX5_outcomeOf_2 : decode cX5_outcomeOf 2 = .ok (.invokevirtual 26, 3) := by decide +kernel
theorem dX5_outcomeOf_5 : decode cX5_outcomeOf 5 = .ok (.ifCond .eq 12, 3) := by decide +kernel
theorem dX5_outcomeOf_8 : decode cX5_outcomeOf 8 = .ok (.aload_n 0, 1) := by decide +kernel
theorem dX5_outcomeOf_9 : decode cX5_outcomeOf 9 = .ok (.getfield 9, 3) := by decide +kernel
theorem dX5_outcomeOf_12 : decode cX5_outcomeOf 12 = .ok (.iload_n 1, 1) := by decide +kernel
theorem dX5_outcomeOf_13 : decode cX5_outcomeOf 13 = .ok (.caload, 1) := by decide +kernel
theorem dX5_outcomeOf_14 : decode cX5_outcomeOf 14 = .ok (.goto 5, 3) := by decide +kernel
theorem dX5_outcomeOf_17 : decode cX5_outcomeOf 17 = .ok (.bipush 45, 2) := by decide +kernel
theorem dX5_outcomeOf_19 : decode cX5_outcomeOf 19 = .ok (.ireturn, 1) := by decide +kernel
theorem dX5_turnOf_0 : decode cX5_turnOf 0 = .ok (.aload_n 0, 1) := by decide +kernel
theorem dX5_turnOf_1 : decode cX5_turnOf 1 = .ok (.iload_n 1, 1) := by decide +kernel
theorem dX5_turnOf_2 : decode cX5_turnOf 2 = .ok (.invokevirtual 26, 3) := by decide +kernel
theorem dX5_turnOf_5 : decode cX5_turnOf 5 = .ok (.ifCond .eq 12, 3) := by decide +kernel
theorem dX5_turnOf_8 : decode cX5_turnOf 8 = .ok (.aload_n 0, 1) := by decide +kernel
theorem dX5_turnOf_9 : decode cX5_turnOf 9 = .ok (.getfield 15, 3) := by decide +kernel
theorem dX5_turnOf_12 : decode cX5_turnOf 12 = .ok (.iload_n 1, 1) := by decide +kernel
theorem dX5_turnOf_13 : decode cX5_turnOf 13 = .ok (.iaload, 1) := by decide +kernel
theorem dX5_turnOf_14 : decode cX5_turnOf 14 = .ok (.goto 4, 3) := by decide +kernel
theorem dX5_turnOf_17 : decode cX5_turnOf 17 = .ok (.iconst 0, 1) := by decide +kernel
theorem dX5_turnOf_18 : decode cX5_turnOf 18 = .ok (.ireturn, 1) := by decide +kernel
theorem dX5_isGuiltyOrInnocent_0 : decode cX5_isGuiltyOrInnocent 0 = .ok (.aload_n 0, 1) := by decide +kernel
theorem dX5_isGuiltyOrInnocent_1 : decode cX5_isGuiltyOrInnocent 1 = .ok (.iload_n 1, 1) := by decide +kernel
theorem dX5_isGuiltyOrInnocent_2 : decode cX5_isGuiltyOrInnocent 2 = .ok (.invokevirtual 30, 3) := by decide +kernel
theorem dX5_isGuiltyOrInnocent_5 : decode cX5_isGuiltyOrInnocent 5 = .ok (.istore_n 2, 1) := by decide +kernel
theorem dX5_isGuiltyOrInnocent_6 : decode cX5_isGuiltyOrInnocent 6 = .ok (.iload_n 2, 1) := by decide +kernel
theorem dX5_isGuiltyOrInnocent_7 : decode cX5_isGuiltyOrInnocent 7 = .ok (.bipush 103, 2) := by decide +kernel
theorem dX5_isGuiltyOrInnocent_9 : decode cX5_isGuiltyOrInnocent 9 = .ok (.if_icmp .eq 9, 3) := by decide +kernel
theorem dX5_isGuiltyOrInnocent_12 : decode cX5_isGuiltyOrInnocent 12 = .ok (.iload_n 2, 1) := by decide +kernel
theorem dX5_isGuiltyOrInnocent_13 : decode cX5_isGuiltyOrInnocent 13 = .ok (.bipush 105, 2) := by decide +kernel
theorem dX5_isGuiltyOrInnocent_15 : decode cX5_isGuiltyOrInnocent 15 = .ok (.if_icmp .ne 7, 3) := by decide +kernel
theorem dX5_isGuiltyOrInnocent_18 : decode cX5_isGuiltyOrInnocent 18 = .ok (.iconst 1, 1) := by decide +kernel
theorem dX5_isGuiltyOrInnocent_19 : decode cX5_isGuiltyOrInnocent 19 = .ok (.goto 4, 3) := by decide +kernel
theorem dX5_isGuiltyOrInnocent_22 : decode cX5_isGuiltyOrInnocent 22 = .ok (.iconst 0, 1) := by decide +kernel
theorem dX5_isGuiltyOrInnocent_23 : decode cX5_isGuiltyOrInnocent 23 = .ok (.ireturn, 1) := by decide +kernel
theorem dX5_isWithin_0 : decode cX5_isWithin 0 = .ok (.iload_n 1, 1) := by decide +kernel
theorem dX5_isWithin_1 : decode cX5_isWithin 1 = .ok (.ifCond .lt 25, 3) := by decide +kernel
theorem dX5_isWithin_4 : decode cX5_isWithin 4 = .ok (.iload_n 1, 1) := by decide +kernel
theorem dX5_isWithin_5 : decode cX5_isWithin 5 = .ok (.aload_n 0, 1) := by decide +kernel
theorem dX5_isWithin_6 : decode cX5_isWithin 6 = .ok (.getfield 9, 3) := by decide +kernel
theorem dX5_isWithin_9 : decode cX5_isWithin 9 = .ok (.arraylength, 1) := by decide +kernel
theorem dX5_isWithin_10 : decode cX5_isWithin 10 = .ok (.if_icmp .ge 16, 3) := by decide +kernel
theorem dX5_isWithin_13 : decode cX5_isWithin 13 = .ok (.iload_n 1, 1) := by decide +kernel
theorem dX5_isWithin_14 : decode cX5_isWithin 14 = .ok (.aload_n 0, 1) := by decide +kernel
theorem dX5_isWithin_15 : decode cX5_isWithin 15 = .ok (.getfield 15, 3) := by decide +kernel
theorem dX5_isWithin_18 : decode cX5_isWithin 18 = .ok (.arraylength, 1) := by decide +kernel
theorem dX5_isWithin_19 : decode cX5_isWithin 19 = .ok (.if_icmp .ge 7, 3) := by decide +kernel
theorem dX5_isWithin_22 : decode cX5_isWithin 22 = .ok (.iconst 1, 1) := by decide +kernel
theorem dX5_isWithin_23 : decode cX5_isWithin 23 = .ok (.goto 4, 3) := by decide +kernel
theorem dX5_isWithin_26 : decode cX5_isWithin 26 = .ok (.iconst 0, 1) := by decide +kernel
theorem dX5_isWithin_27 : decode cX5_isWithin 27 = .ok (.ireturn, 1) := by decide +kernel
theorem dX6_init_0 : decode cX6_init 0 = .ok (.aload_n 0, 1) := by decide +kernel
theorem dX6_init_1 : decode cX6_init 1 = .ok (.invokespecial 1, 3) := by decide +kernel
theorem dX6_init_4 : decode cX6_init 4 = .ok (.aload_n 0, 1) := by decide +kernel
theorem dX6_init_5 : decode cX6_init 5 = .ok (.iload_n 1, 1) := by decide +kernel
theorem dX6_init_6 : decode cX6_init 6 = .ok (.putfield 7, 3) := by decide +kernel
theorem dX6_init_9 : decode cX6_init 9 = .ok (.return_, 1) := by decide +kernel
theorem dJx00060_init_a7421_0 : decode cJx00060_init_a7421 0 = .ok (.aload_n 0, 1) := by decide +kernel
theorem dJx00060_init_a7421_1 : decode cJx00060_init_a7421 1 = .ok (.aload_n 1, 1) := by decide +kernel
theorem dJx00060_init_a7421_2 : decode cJx00060_init_a7421 2 = .ok (.invokespecial 7, 3) := by decide +kernel
theorem dJx00060_init_a7421_5 : decode cJx00060_init_a7421 5 = .ok (.return_, 1) := by decide +kernel
theorem dJ6_bitCount_0f7a4_0 : decode cJ6_bitCount_0f7a4 0 = .ok (.iload_n 0, 1) := by decide +kernel
theorem dJ6_bitCount_0f7a4_1 : decode cJ6_bitCount_0f7a4 1 = .ok (.iload_n 0, 1) := by decide +kernel
theorem dJ6_bitCount_0f7a4_2 : decode cJ6_bitCount_0f7a4 2 = .ok (.iconst 1, 1) := by decide +kernel
theorem dJ6_bitCount_0f7a4_3 : decode cJ6_bitCount_0f7a4 3 = .ok (.iushr, 1) := by decide +kernel
theorem dJ6_bitCount_0f7a4_4 : decode cJ6_bitCount_0f7a4 4 = .ok (.ldc_w 265, 3) := by decide +kernel
theorem dJ6_bitCount_0f7a4_7 : decode cJ6_bitCount_0f7a4 7 = .ok (.iand, 1) := by decide +kernel
theorem dJ6_bitCount_0f7a4_8 : decode cJ6_bitCount_0f7a4 8 = .ok (.isub, 1) := by decide +kernel
theorem dJ6_bitCount_0f7a4_9 : decode cJ6_bitCount_0f7a4 9 = .ok (.istore_n 0, 1) := by decide +kernel
theorem dJ6_bitCount_0f7a4_10 : decode cJ6_bitCount_0f7a4 10 = .ok (.iload_n 0, 1) := by decide +kernel
theorem dJ6_bitCount_0f7a4_11 : decode cJ6_bitCount_0f7a4 11 = .ok (.ldc_w 266, 3) := by decide +kernel
theorem dJ6_bitCount_0f7a4_14 : decode cJ6_bitCount_0f7a4 14 = .ok (.iand, 1) := by decide +kernel
theorem dJ6_bitCount_0f7a4_15 : decode cJ6_bitCount_0f7a4 15 = .ok (.iload_n 0, 1) := by decide +kernel
theorem dJ6_bitCount_0f7a4_16 : decode cJ6_bitCount_0f7a4 16 = .ok (.iconst 2, 1) := by decide +kernel
theorem dJ6_bitCount_0f7a4_17 : decode cJ6_bitCount_0f7a4 17 = .ok (.iushr, 1) := by decide +kernel
theorem dJ6_bitCount_0f7a4_18 : decode cJ6_bitCount_0f7a4 18 = .ok (.ldc_w 266, 3) := by decide +kernel
theorem dJ6_bitCount_0f7a4_21 : decode cJ6_bitCount_0f7a4 21 = .ok (.iand, 1) := by decide +kernel
theorem dJ6_bitCount_0f7a4_22 : decode cJ6_bitCount_0f7a4 22 = .ok (.iadd, 1) := by decide +kernel
theorem dJ6_bitCount_0f7a4_23 : decode cJ6_bitCount_0f7a4 23 = .ok (.istore_n 0, 1) := by decide +kernel
theorem dJ6_bitCount_0f7a4_24 : decode cJ6_bitCount_0f7a4 24 = .ok (.iload_n 0, 1) := by decide +kernel
theorem dJ6_bitCount_0f7a4_25 : decode cJ6_bitCount_0f7a4 25 = .ok (.iload_n 0, 1) := by decide +kernel
theorem dJ6_bitCount_0f7a4_26 : decode cJ6_bitCount_0f7a4 26 = .ok (.iconst 4, 1) := by decide +kernel
theorem dJ6_bitCount_0f7a4_27 : decode cJ6_bitCount_0f7a4 27 = .ok (.iushr, 1) := by decide +kernel
theorem dJ6_bitCount_0f7a4_28 : decode cJ6_bitCount_0f7a4 28 = .ok (.iadd, 1) := by decide +kernel
theorem dJ6_bitCount_0f7a4_29 : decode cJ6_bitCount_0f7a4 29 = .ok (.ldc_w 267, 3) := by decide +kernel
theorem dJ6_bitCount_0f7a4_32 : decode cJ6_bitCount_0f7a4 32 = .ok (.iand, 1) := by decide +kernel
theorem dJ6_bitCount_0f7a4_33 : decode cJ6_bitCount_0f7a4 33 = .ok (.istore_n 0, 1) := by decide +kernel
theorem dJ6_bitCount_0f7a4_34 : decode cJ6_bitCount_0f7a4 34 = .ok (.iload_n 0, 1) := by decide +kernel
theorem dJ6_bitCount_0f7a4_35 : decode cJ6_bitCount_0f7a4 35 = .ok (.iload_n 0, 1) := by decide +kernel
theorem dJ6_bitCount_0f7a4_36 : decode cJ6_bitCount_0f7a4 36 = .ok (.bipush 8, 2) := by decide +kernel
theorem dJ6_bitCount_0f7a4_38 : decode cJ6_bitCount_0f7a4 38 = .ok (.iushr, 1) := by decide +kernel
theorem dJ6_bitCount_0f7a4_39 : decode cJ6_bitCount_0f7a4 39 = .ok (.iadd, 1) := by decide +kernel
theorem dJ6_bitCount_0f7a4_40 : decode cJ6_bitCount_0f7a4 40 = .ok (.istore_n 0, 1) := by decide +kernel
theorem dJ6_bitCount_0f7a4_41 : decode cJ6_bitCount_0f7a4 41 = .ok (.iload_n 0, 1) := by decide +kernel
theorem dJ6_bitCount_0f7a4_42 : decode cJ6_bitCount_0f7a4 42 = .ok (.iload_n 0, 1) := by decide +kernel
theorem dJ6_bitCount_0f7a4_43 : decode cJ6_bitCount_0f7a4 43 = .ok (.bipush 16, 2) := by decide +kernel
theorem dJ6_bitCount_0f7a4_45 : decode cJ6_bitCount_0f7a4 45 = .ok (.iushr, 1) := by decide +kernel
theorem dJ6_bitCount_0f7a4_46 : decode cJ6_bitCount_0f7a4 46 = .ok (.iadd, 1) := by decide +kernel
theorem dJ6_bitCount_0f7a4_47 : decode cJ6_bitCount_0f7a4 47 = .ok (.istore_n 0, 1) := by decide +kernel
theorem dJ6_bitCount_0f7a4_48 : decode cJ6_bitCount_0f7a4 48 = .ok (.iload_n 0, 1) := by decide +kernel
theorem dJ6_bitCount_0f7a4_49 : decode cJ6_bitCount_0f7a4 49 = .ok (.bipush 63, 2) := by decide +kernel
theorem dJ6_bitCount_0f7a4_51 : decode cJ6_bitCount_0f7a4 51 = .ok (.iand, 1) := by decide +kernel
theorem dJ6_bitCount_0f7a4_52 : decode cJ6_bitCount_0f7a4 52 = .ok (.ireturn, 1) := by decide +kernel
theorem dJ9_max_7cf53_0 : decode cJ9_max_7cf53 0 = .ok (.iload_n 0, 1) := by decide +kernel
theorem dJ9_max_7cf53_1 : decode cJ9_max_7cf53 1 = .ok (.iload_n 1, 1) := by decide +kernel
theorem dJ9_max_7cf53_2 : decode cJ9_max_7cf53 2 = .ok (.if_icmp .lt 7, 3) := by decide +kernel
theorem dJ9_max_7cf53_5 : decode cJ9_max_7cf53 5 = .ok (.iload_n 0, 1) := by decide +kernel
theorem dJ9_max_7cf53_6 : decode cJ9_max_7cf53 6 = .ok (.goto 4, 3) := by decide +kernel
theorem dJ9_max_7cf53_9 : decode cJ9_max_7cf53 9 = .ok (.iload_n 1, 1) := by decide +kernel
theorem dJ9_max_7cf53_10 : decode cJ9_max_7cf53 10 = .ok (.ireturn, 1) := by decide +kernel
theorem dJ9_min_7cf53_0 : decode cJ9_min_7cf53 0 = .ok (.iload_n 0, 1) := by decide +kernel
theorem dJ9_min_7cf53_1 : decode cJ9_min_7cf53 1 = .ok (.iload_n 1, 1) := by decide +kernel
theorem dJ9_min_7cf53_2 : decode cJ9_min_7cf53 2 = .ok (.if_icmp .gt 7, 3) := by decide +kernel
theorem dJ9_min_7cf53_5 : decode cJ9_min_7cf53 5 = .ok (.iload_n 0, 1) := by decide +kernel
theorem dJ9_min_7cf53_6 : decode cJ9_min_7cf53 6 = .ok (.goto 4, 3) := by decide +kernel
theorem dJ9_min_7cf53_9 : decode cJ9_min_7cf53 9 = .ok (.iload_n 1, 1) := by decide +kernel
theorem dJ9_min_7cf53_10 : decode cJ9_min_7cf53 10 = .ok (.ireturn, 1) := by decide +kernel
theorem dJxa1e45_init_da8c8_0 : decode cJxa1e45_init_da8c8 0 = .ok (.aload_n 0, 1) := by decide +kernel
theorem dJxa1e45_init_da8c8_1 : decode cJxa1e45_init_da8c8 1 = .ok (.invokespecial 1, 3) := by decide +kernel
theorem dJxa1e45_init_da8c8_4 : decode cJxa1e45_init_da8c8 4 = .ok (.return_, 1) := by decide +kernel
theorem dJxc12de_init_da8c8_0 : decode cJxc12de_init_da8c8 0 = .ok (.aload_n 0, 1) := by decide +kernel
theorem dJxc12de_init_da8c8_1 : decode cJxc12de_init_da8c8 1 = .ok (.invokespecial 1, 3) := by decide +kernel
theorem dJxc12de_init_da8c8_4 : decode cJxc12de_init_da8c8 4 = .ok (.aload_n 0, 1) := by decide +kernel
theorem dJxc12de_init_da8c8_5 : decode cJxc12de_init_da8c8 5 = .ok (.iconst 0, 1) := by decide +kernel
theorem dJxc12de_init_da8c8_6 : decode cJxc12de_init_da8c8 6 = .ok (.putfield 7, 3) := by decide +kernel
theorem dJxc12de_init_da8c8_9 : decode cJxc12de_init_da8c8 9 = .ok (.return_, 1) := by decide +kernel
theorem dJx4a65c_init_da8c8_0 : decode cJx4a65c_init_da8c8 0 = .ok (.aload_n 0, 1) := by decide +kernel
theorem dJx4a65c_init_da8c8_1 : decode cJx4a65c_init_da8c8 1 = .ok (.invokespecial 1, 3) := by decide +kernel
theorem dJx4a65c_init_da8c8_4 : decode cJx4a65c_init_da8c8 4 = .ok (.aload_n 0, 1) := by decide +kernel
theorem dJx4a65c_init_da8c8_5 : decode cJx4a65c_init_da8c8 5 = .ok (.getstatic 39, 3) := by decide +kernel
theorem dJx4a65c_init_da8c8_8 : decode cJx4a65c_init_da8c8 8 = .ok (.putfield 9, 3) := by decide +kernel
theorem dJx4a65c_init_da8c8_11 : decode cJx4a65c_init_da8c8 11 = .ok (.return_, 1) := by decide +kernel
theorem dJx4a65c_grow_92f84_0 : decode cJx4a65c_grow_92f84 0 = .ok (.aload_n 0, 1) := by decide +kernel
theorem dJx4a65c_grow_92f84_1 : decode cJx4a65c_grow_92f84 1 = .ok (.getfield 9, 3) := by decide +kernel
theorem dJx4a65c_grow_92f84_4 : decode cJx4a65c_grow_92f84 4 = .ok (.arraylength, 1) := by decide +kernel
theorem dJx4a65c_grow_92f84_5 : decode cJx4a65c_grow_92f84 5 = .ok (.istore_n 2, 1) := by decide +kernel
theorem dJx4a65c_grow_92f84_6 : decode cJx4a65c_grow_92f84 6 = .ok (.iload_n 2, 1) := by decide +kernel
theorem dJx4a65c_grow_92f84_7 : decode cJx4a65c_grow_92f84 7 = .ok (.ifCond .gt 13, 3) := by decide +kernel
theorem dJx4a65c_grow_92f84_10 : decode cJx4a65c_grow_92f84 10 = .ok (.aload_n 0, 1) := by decide +kernel
theorem dJx4a65c_grow_92f84_11 : decode cJx4a65c_grow_92f84 11 = .ok (.getfield 9, 3) := by decide +kernel
theorem dJx4a65c_grow_92f84_14 : decode cJx4a65c_grow_92f84 14 = .ok (.getstatic 39, 3) := by decide +kernel
theorem dJx4a65c_grow_92f84_17 : decode cJx4a65c_grow_92f84 17 = .ok (.if_acmp .eq 28, 3) := by decide +kernel
theorem dJx4a65c_grow_92f84_20 : decode cJx4a65c_grow_92f84 20 = .ok (.iload_n 2, 1) := by decide +kernel
theorem dJx4a65c_grow_92f84_21 : decode cJx4a65c_grow_92f84 21 = .ok (.iload_n 1, 1) := by decide +kernel
theorem dJx4a65c_grow_92f84_22 : decode cJx4a65c_grow_92f84 22 = .ok (.iload_n 2, 1) := by decide +kernel
theorem dJx4a65c_grow_92f84_23 : decode cJx4a65c_grow_92f84 23 = .ok (.isub, 1) := by decide +kernel
theorem dJx4a65c_grow_92f84_24 : decode cJx4a65c_grow_92f84 24 = .ok (.iload_n 2, 1) := by decide +kernel
theorem dJx4a65c_grow_92f84_25 : decode cJx4a65c_grow_92f84 25 = .ok (.iconst 1, 1) := by decide +kernel
theorem dJx4a65c_grow_92f84_26 : decode cJx4a65c_grow_92f84 26 = .ok (.ishr, 1) := by decide +kernel
theorem dJx4a65c_grow_92f84_27 : decode cJx4a65c_grow_92f84 27 = .ok (.invokestatic 73, 3) := by decide +kernel
theorem dJx4a65c_grow_92f84_30 : decode cJx4a65c_grow_92f84 30 = .ok (.istore_n 3, 1) := by decide +kernel
theorem dJx4a65c_grow_92f84_31 : decode cJx4a65c_grow_92f84 31 = .ok (.aload_n 0, 1) := by decide +kernel
theorem dJx4a65c_grow_92f84_32 : decode cJx4a65c_grow_92f84 32 = .ok (.aload_n 0, 1) := by decide +kernel
theorem dJx4a65c_grow_92f84_33 : decode cJx4a65c_grow_92f84 33 = .ok (.getfield 9, 3) := by decide +kernel
theorem dJx4a65c_grow_92f84_36 : decode cJx4a65c_grow_92f84 36 = .ok (.iload_n 3, 1) := by decide +kernel
theorem dJx4a65c_grow_92f84_37 : decode cJx4a65c_grow_92f84 37 = .ok (.invokestatic 66, 3) := by decide +kernel
theorem dJx4a65c_grow_92f84_40 : decode cJx4a65c_grow_92f84 40 = .ok (.dup_x1, 1) := by decide +kernel
theorem dJx4a65c_grow_92f84_41 : decode cJx4a65c_grow_92f84 41 = .ok (.putfield 9, 3) := by decide +kernel
theorem dJx4a65c_grow_92f84_44 : decode cJx4a65c_grow_92f84 44 = .ok (.areturn, 1) := by decide +kernel
theorem dJx4a65c_grow_92f84_45 : decode cJx4a65c_grow_92f84 45 = .ok (.aload_n 0, 1) := by decide +kernel
theorem dJx4a65c_grow_92f84_46 : decode cJx4a65c_grow_92f84 46 = .ok (.bipush 10, 2) := by decide +kernel
theorem dJx4a65c_grow_92f84_48 : decode cJx4a65c_grow_92f84 48 = .ok (.iload_n 1, 1) := by decide +kernel
theorem dJx4a65c_grow_92f84_49 : decode cJx4a65c_grow_92f84 49 = .ok (.invokestatic 79, 3) := by decide +kernel
theorem dJx4a65c_grow_92f84_52 : decode cJx4a65c_grow_92f84 52 = .ok (.anewarray 7, 3) := by decide +kernel
theorem dJx4a65c_grow_92f84_55 : decode cJx4a65c_grow_92f84 55 = .ok (.dup_x1, 1) := by decide +kernel
theorem dJx4a65c_grow_92f84_56 : decode cJx4a65c_grow_92f84 56 = .ok (.putfield 9, 3) := by decide +kernel
theorem dJx4a65c_grow_92f84_59 : decode cJx4a65c_grow_92f84 59 = .ok (.areturn, 1) := by decide +kernel
theorem dJx4a65c_grow_d5877_0 : decode cJx4a65c_grow_d5877 0 = .ok (.aload_n 0, 1) := by decide +kernel
theorem dJx4a65c_grow_d5877_1 : decode cJx4a65c_grow_d5877 1 = .ok (.aload_n 0, 1) := by decide +kernel
theorem dJx4a65c_grow_d5877_2 : decode cJx4a65c_grow_d5877 2 = .ok (.getfield 48, 3) := by decide +kernel
theorem dJx4a65c_grow_d5877_5 : decode cJx4a65c_grow_d5877 5 = .ok (.iconst 1, 1) := by decide +kernel
theorem dJx4a65c_grow_d5877_6 : decode cJx4a65c_grow_d5877 6 = .ok (.iadd, 1) := by decide +kernel
theorem dJx4a65c_grow_d5877_7 : decode cJx4a65c_grow_d5877 7 = .ok (.invokevirtual 69, 3) := by decide +kernel
theorem dJx4a65c_grow_d5877_10 : decode cJx4a65c_grow_d5877 10 = .ok (.areturn, 1) := by decide +kernel
theorem dJx4a65c_size_8abf5_0 : decode cJx4a65c_size_8abf5 0 = .ok (.aload_n 0, 1) := by decide +kernel
theorem dJx4a65c_size_8abf5_1 : decode cJx4a65c_size_8abf5 1 = .ok (.getfield 48, 3) := by decide +kernel
theorem dJx4a65c_size_8abf5_4 : decode cJx4a65c_size_8abf5 4 = .ok (.ireturn, 1) := by decide +kernel
theorem dJx4a65c_elementData_915e3_0 : decode cJx4a65c_elementData_915e3 0 = .ok (.aload_n 0, 1) := by decide +kernel
theorem dJx4a65c_elementData_915e3_1 : decode cJx4a65c_elementData_915e3 1 = .ok (.getfield 9, 3) := by decide +kernel
theorem dJx4a65c_elementData_915e3_4 : decode cJx4a65c_elementData_915e3 4 = .ok (.iload_n 1, 1) := by decide +kernel
theorem dJx4a65c_elementData_915e3_5 : decode cJx4a65c_elementData_915e3 5 = .ok (.aaload, 1) := by decide +kernel
theorem dJx4a65c_elementData_915e3_6 : decode cJx4a65c_elementData_915e3 6 = .ok (.areturn, 1) := by decide +kernel
theorem dJx4a65c_get_915e3_0 : decode cJx4a65c_get_915e3 0 = .ok (.iload_n 1, 1) := by decide +kernel
theorem dJx4a65c_get_915e3_1 : decode cJx4a65c_get_915e3 1 = .ok (.aload_n 0, 1) := by decide +kernel
theorem dJx4a65c_get_915e3_2 : decode cJx4a65c_get_915e3 2 = .ok (.getfield 48, 3) := by decide +kernel
theorem dJx4a65c_get_915e3_5 : decode cJx4a65c_get_915e3 5 = .ok (.invokestatic 118, 3) := by decide +kernel
theorem dJx4a65c_get_915e3_8 : decode cJx4a65c_get_915e3 8 = .ok (.pop, 1) := by decide +kernel
theorem dJx4a65c_get_915e3_9 : decode cJx4a65c_get_915e3 9 = .ok (.aload_n 0, 1) := by decide +kernel
theorem dJx4a65c_get_915e3_10 : decode cJx4a65c_get_915e3 10 = .ok (.iload_n 1, 1) := by decide +kernel
theorem dJx4a65c_get_915e3_11 : decode cJx4a65c_get_915e3 11 = .ok (.invokevirtual 123, 3) := by decide +kernel
theorem dJx4a65c_get_915e3_14 : decode cJx4a65c_get_915e3 14 = .ok (.areturn, 1) := by decide +kernel
theorem dJx4a65c_add_72be8_0 : decode cJx4a65c_add_72be8 0 = .ok (.iload_n 3, 1) := by decide +kernel
theorem dJx4a65c_add_72be8_1 : decode cJx4a65c_add_72be8 1 = .ok (.aload_n 2, 1) := by decide +kernel
theorem dJx4a65c_add_72be8_2 : decode cJx4a65c_add_72be8 2 = .ok (.arraylength, 1) := by decide +kernel
theorem dJx4a65c_add_72be8_3 : decode cJx4a65c_add_72be8 3 = .ok (.if_icmp .ne 8, 3) := by decide +kernel
theorem dJx4a65c_add_72be8_6 : decode cJx4a65c_add_72be8 6 = .ok (.aload_n 0, 1) := by decide +kernel
theorem dJx4a65c_add_72be8_7 : decode cJx4a65c_add_72be8 7 = .ok (.invokevirtual 129, 3) := by decide +kernel
theorem dJx4a65c_add_72be8_10 : decode cJx4a65c_add_72be8 10 = .ok (.astore_n 2, 1) := by decide +kernel
theorem dJx4a65c_add_72be8_11 : decode cJx4a65c_add_72be8 11 = .ok (.aload_n 2, 1) := by decide +kernel
theorem dJx4a65c_add_72be8_12 : decode cJx4a65c_add_72be8 12 = .ok (.iload_n 3, 1) := by decide +kernel
theorem dJx4a65c_add_72be8_13 : decode cJx4a65c_add_72be8 13 = .ok (.aload_n 1, 1) := by decide +kernel
theorem dJx4a65c_add_72be8_14 : decode cJx4a65c_add_72be8 14 = .ok (.aastore, 1) := by decide +kernel
theorem dJx4a65c_add_72be8_15 : decode cJx4a65c_add_72be8 15 = .ok (.aload_n 0, 1) := by decide +kernel
theorem dJx4a65c_add_72be8_16 : decode cJx4a65c_add_72be8 16 = .ok (.iload_n 3, 1) := by decide +kernel
theorem dJx4a65c_add_72be8_17 : decode cJx4a65c_add_72be8 17 = .ok (.iconst 1, 1) := by decide +kernel
theorem dJx4a65c_add_72be8_18 : decode cJx4a65c_add_72be8 18 = .ok (.iadd, 1) := by decide +kernel
theorem dJx4a65c_add_72be8_19 : decode cJx4a65c_add_72be8 19 = .ok (.putfield 48, 3) := by decide +kernel
theorem dJx4a65c_add_72be8_22 : decode cJx4a65c_add_72be8 22 = .ok (.return_, 1) := by decide +kernel
theorem dJx4a65c_add_9ea2d_0 : decode cJx4a65c_add_9ea2d 0 = .ok (.aload_n 0, 1) := by decide +kernel
theorem dJx4a65c_add_9ea2d_1 : decode cJx4a65c_add_9ea2d 1 = .ok (.dup, 1) := by decide +kernel
theorem dJx4a65c_add_9ea2d_2 : decode cJx4a65c_add_9ea2d 2 = .ok (.getfield 63, 3) := by decide +kernel
theorem dJx4a65c_add_9ea2d_5 : decode cJx4a65c_add_9ea2d 5 = .ok (.iconst 1, 1) := by decide +kernel
theorem dJx4a65c_add_9ea2d_6 : decode cJx4a65c_add_9ea2d 6 = .ok (.iadd, 1) := by decide +kernel
theorem dJx4a65c_add_9ea2d_7 : decode cJx4a65c_add_9ea2d 7 = .ok (.putfield 63, 3) := by decide +kernel
theorem dJx4a65c_add_9ea2d_10 : decode cJx4a65c_add_9ea2d 10 = .ok (.aload_n 0, 1) := by decide +kernel
theorem dJx4a65c_add_9ea2d_11 : decode cJx4a65c_add_9ea2d 11 = .ok (.aload_n 1, 1) := by decide +kernel
theorem dJx4a65c_add_9ea2d_12 : decode cJx4a65c_add_9ea2d 12 = .ok (.aload_n 0, 1) := by decide +kernel
theorem dJx4a65c_add_9ea2d_13 : decode cJx4a65c_add_9ea2d 13 = .ok (.getfield 9, 3) := by decide +kernel
theorem dJx4a65c_add_9ea2d_16 : decode cJx4a65c_add_9ea2d 16 = .ok (.aload_n 0, 1) := by decide +kernel
theorem dJx4a65c_add_9ea2d_17 : decode cJx4a65c_add_9ea2d 17 = .ok (.getfield 48, 3) := by decide +kernel
theorem dJx4a65c_add_9ea2d_20 : decode cJx4a65c_add_9ea2d 20 = .ok (.invokevirtual 131, 3) := by decide +kernel
theorem dJx4a65c_add_9ea2d_23 : decode cJx4a65c_add_9ea2d 23 = .ok (.iconst 1, 1) := by decide +kernel
theorem dJx4a65c_add_9ea2d_24 : decode cJx4a65c_add_9ea2d 24 = .ok (.ireturn, 1) := by decide +kernel
theorem dJ7_copyOf_1904c_0 : decode cJ7_copyOf_1904c 0 = .ok (.aload_n 0, 1) := by decide +kernel
theorem dJ7_copyOf_1904c_1 : decode cJ7_copyOf_1904c 1 = .ok (.iload_n 1, 1) := by decide +kernel
theorem dJ7_copyOf_1904c_2 : decode cJ7_copyOf_1904c 2 = .ok (.aload_n 0, 1) := by decide +kernel
theorem dJ7_copyOf_1904c_3 : decode cJ7_copyOf_1904c 3 = .ok (.invokevirtual 86, 3) := by decide +kernel
theorem dJ7_copyOf_1904c_6 : decode cJ7_copyOf_1904c 6 = .ok (.invokestatic 300, 3) := by decide +kernel
theorem dJ7_copyOf_1904c_9 : decode cJ7_copyOf_1904c 9 = .ok (.areturn, 1) := by decide +kernel
theorem dJ7_copyOf_6403c_0 : decode cJ7_copyOf_6403c 0 = .ok (.aload_n 2, 1) := by decide +kernel
theorem dJ7_copyOf_6403c_1 : decode cJ7_copyOf_6403c 1 = .ok (.ldc 110, 2) := by decide +kernel
theorem dJ7_copyOf_6403c_3 : decode cJ7_copyOf_6403c 3 = .ok (.if_acmp .ne 10, 3) := by decide +kernel
theorem dJ7_copyOf_6403c_6 : decode cJ7_copyOf_6403c 6 = .ok (.iload_n 1, 1) := by decide +kernel
theorem dJ7_copyOf_6403c_7 : decode cJ7_copyOf_6403c 7 = .ok (.anewarray 2, 3) := by decide +kernel
theorem dJ7_copyOf_6403c_10 : decode cJ7_copyOf_6403c 10 = .ok (.goto 14, 3) := by decide +kernel
theorem dJ7_copyOf_6403c_13 : decode cJ7_copyOf_6403c 13 = .ok (.aload_n 2, 1) := by decide +kernel
theorem dJ7_copyOf_6403c_14 : decode cJ7_copyOf_6403c 14 = .ok (.invokevirtual 90, 3) := by decide +kernel
theorem dJ7_copyOf_6403c_17 : decode cJ7_copyOf_6403c 17 = .ok (.iload_n 1, 1) := by decide +kernel
theorem dJ7_copyOf_6403c_18 : decode cJ7_copyOf_6403c 18 = .ok (.invokestatic 95, 3) := by decide +kernel
theorem dJ7_copyOf_6403c_21 : decode cJ7_copyOf_6403c 21 = .ok (.checkcast 110, 3) := by decide +kernel
theorem dJ7_copyOf_6403c_24 : decode cJ7_copyOf_6403c 24 = .ok (.astore_n 3, 1) := by decide +kernel
theorem dJ7_copyOf_6403c_25 : decode cJ7_copyOf_6403c 25 = .ok (.aload_n 0, 1) := by decide +kernel
theorem dJ7_copyOf_6403c_26 : decode cJ7_copyOf_6403c 26 = .ok (.iconst 0, 1) := by decide +kernel
theorem dJ7_copyOf_6403c_27 : decode cJ7_copyOf_6403c 27 = .ok (.aload_n 3, 1) := by decide +kernel
theorem dJ7_copyOf_6403c_28 : decode cJ7_copyOf_6403c 28 = .ok (.iconst 0, 1) := by decide +kernel
theorem dJ7_copyOf_6403c_29 : decode cJ7_copyOf_6403c 29 = .ok (.aload_n 0, 1) := by decide +kernel
theorem dJ7_copyOf_6403c_30 : decode cJ7_copyOf_6403c 30 = .ok (.arraylength, 1) := by decide +kernel
theorem dJ7_copyOf_6403c_31 : decode cJ7_copyOf_6403c 31 = .ok (.iload_n 1, 1) := by decide +kernel
theorem dJ7_copyOf_6403c_32 : decode cJ7_copyOf_6403c 32 = .ok (.invokestatic 304, 3) := by decide +kernel
theorem dJ7_copyOf_6403c_35 : decode cJ7_copyOf_6403c 35 = .ok (.invokestatic 150, 3) := by decide +kernel
theorem dJ7_copyOf_6403c_38 : decode cJ7_copyOf_6403c 38 = .ok (.aload_n 3, 1) := by decide +kernel
theorem dJ7_copyOf_6403c_39 : decode cJ7_copyOf_6403c 39 = .ok (.areturn, 1) := by decide +kernel
theorem dJ15_checkIndex_7cf53_0 : decode cJ15_checkIndex_7cf53 0 = .ok (.iload_n 0, 1) := by decide +kernel
theorem dJ15_checkIndex_7cf53_1 : decode cJ15_checkIndex_7cf53 1 = .ok (.iload_n 1, 1) := by decide +kernel
theorem dJ15_checkIndex_7cf53_2 : decode cJ15_checkIndex_7cf53 2 = .ok (.aconst_null, 1) := by decide +kernel
theorem dJ15_checkIndex_7cf53_3 : decode cJ15_checkIndex_7cf53 3 = .ok (.invokestatic 105, 3) := by decide +kernel
theorem dJ15_checkIndex_7cf53_6 : decode cJ15_checkIndex_7cf53 6 = .ok (.ireturn, 1) := by decide +kernel
theorem dJ8_newLength_cabcc_0 : decode cJ8_newLength_cabcc 0 = .ok (.iload_n 0, 1) := by decide +kernel
theorem dJ8_newLength_cabcc_1 : decode cJ8_newLength_cabcc 1 = .ok (.iload_n 1, 1) := by decide +kernel
theorem dJ8_newLength_cabcc_2 : decode cJ8_newLength_cabcc 2 = .ok (.iload_n 2, 1) := by decide +kernel
theorem dJ8_newLength_cabcc_3 : decode cJ8_newLength_cabcc 3 = .ok (.invokestatic 194, 3) := by decide +kernel
theorem dJ8_newLength_cabcc_6 : decode cJ8_newLength_cabcc 6 = .ok (.iadd, 1) := by decide +kernel
theorem dJ8_newLength_cabcc_7 : decode cJ8_newLength_cabcc 7 = .ok (.istore_n 3, 1) := by decide +kernel
theorem dJ8_newLength_cabcc_8 : decode cJ8_newLength_cabcc 8 = .ok (.iconst 0, 1) := by decide +kernel
theorem dJ8_newLength_cabcc_9 : decode cJ8_newLength_cabcc 9 = .ok (.iload_n 3, 1) := by decide +kernel
theorem dJ8_newLength_cabcc_10 : decode cJ8_newLength_cabcc 10 = .ok (.if_icmp .ge 11, 3) := by decide +kernel
theorem dJ8_newLength_cabcc_13 : decode cJ8_newLength_cabcc 13 = .ok (.iload_n 3, 1) := by decide +kernel
theorem dJ8_newLength_cabcc_14 : decode cJ8_newLength_cabcc 14 = .ok (.ldc 200, 2) := by decide +kernel
theorem dJ8_newLength_cabcc_16 : decode cJ8_newLength_cabcc 16 = .ok (.if_icmp .gt 5, 3) := by decide +kernel
theorem dJ8_newLength_cabcc_19 : decode cJ8_newLength_cabcc 19 = .ok (.iload_n 3, 1) := by decide +kernel
theorem dJ8_newLength_cabcc_20 : decode cJ8_newLength_cabcc 20 = .ok (.ireturn, 1) := by decide +kernel
theorem dJ8_newLength_cabcc_21 : decode cJ8_newLength_cabcc 21 = .ok (.iload_n 0, 1) := by decide +kernel
theorem dJ8_newLength_cabcc_22 : decode cJ8_newLength_cabcc 22 = .ok (.iload_n 1, 1) := by decide +kernel
theorem dJ8_newLength_cabcc_23 : decode cJ8_newLength_cabcc 23 = .ok (.invokestatic 201, 3) := by decide +kernel
theorem dJ8_newLength_cabcc_26 : decode cJ8_newLength_cabcc 26 = .ok (.ireturn, 1) := by decide +kernel
theorem dJ8_hugeLength_7cf53_0 : decode cJ8_hugeLength_7cf53 0 = .ok (.iload_n 0, 1) := by decide +kernel
theorem dJ8_hugeLength_7cf53_1 : decode cJ8_hugeLength_7cf53 1 = .ok (.iload_n 1, 1) := by decide +kernel
theorem dJ8_hugeLength_7cf53_2 : decode cJ8_hugeLength_7cf53 2 = .ok (.iadd, 1) := by decide +kernel
theorem dJ8_hugeLength_7cf53_3 : decode cJ8_hugeLength_7cf53 3 = .ok (.istore_n 2, 1) := by decide +kernel
theorem dJ8_hugeLength_7cf53_4 : decode cJ8_hugeLength_7cf53 4 = .ok (.iload_n 2, 1) := by decide +kernel
theorem dJ8_hugeLength_7cf53_5 : decode cJ8_hugeLength_7cf53 5 = .ok (.ifCond .ge 44, 3) := by decide +kernel
theorem dJ8_hugeLength_7cf53_8 : decode cJ8_hugeLength_7cf53 8 = .ok (.new 204, 3) := by decide +kernel
theorem dJ8_hugeLength_7cf53_11 : decode cJ8_hugeLength_7cf53 11 = .ok (.dup, 1) := by decide +kernel
theorem dJ8_hugeLength_7cf53_12 : decode cJ8_hugeLength_7cf53 12 = .ok (.new 89, 3) := by decide +kernel
theorem dJ8_hugeLength_7cf53_15 : decode cJ8_hugeLength_7cf53 15 = .ok (.dup, 1) := by decide +kernel
theorem dJ8_hugeLength_7cf53_16 : decode cJ8_hugeLength_7cf53 16 = .ok (.invokespecial 91, 3) := by decide +kernel
theorem dJ8_hugeLength_7cf53_19 : decode cJ8_hugeLength_7cf53 19 = .ok (.ldc 206, 2) := by decide +kernel
theorem dJ8_hugeLength_7cf53_21 : decode cJ8_hugeLength_7cf53 21 = .ok (.invokevirtual 94, 3) := by decide +kernel
theorem dJ8_hugeLength_7cf53_24 : decode cJ8_hugeLength_7cf53 24 = .ok (.iload_n 0, 1) := by decide +kernel
theorem dJ8_hugeLength_7cf53_25 : decode cJ8_hugeLength_7cf53 25 = .ok (.invokevirtual 98, 3) := by decide +kernel
theorem dJ8_hugeLength_7cf53_28 : decode cJ8_hugeLength_7cf53 28 = .ok (.ldc 208, 2) := by decide +kernel
theorem dJ8_hugeLength_7cf53_30 : decode cJ8_hugeLength_7cf53 30 = .ok (.invokevirtual 94, 3) := by decide +kernel
theorem dJ8_hugeLength_7cf53_33 : decode cJ8_hugeLength_7cf53 33 = .ok (.iload_n 1, 1) := by decide +kernel
theorem dJ8_hugeLength_7cf53_34 : decode cJ8_hugeLength_7cf53 34 = .ok (.invokevirtual 98, 3) := by decide +kernel
theorem dJ8_hugeLength_7cf53_37 : decode cJ8_hugeLength_7cf53 37 = .ok (.ldc 210, 2) := by decide +kernel
theorem dJ8_hugeLength_7cf53_39 : decode cJ8_hugeLength_7cf53 39 = .ok (.invokevirtual 94, 3) := by decide +kernel
theorem dJ8_hugeLength_7cf53_42 : decode cJ8_hugeLength_7cf53 42 = .ok (.invokevirtual 101, 3) := by decide +kernel
theorem dJ8_hugeLength_7cf53_45 : decode cJ8_hugeLength_7cf53 45 = .ok (.invokespecial 212, 3) := by decide +kernel
theorem dJ8_hugeLength_7cf53_48 : decode cJ8_hugeLength_7cf53 48 = .ok (.athrow, 1) := by decide +kernel
theorem dJ8_hugeLength_7cf53_49 : decode cJ8_hugeLength_7cf53 49 = .ok (.iload_n 2, 1) := by decide +kernel
theorem dJ8_hugeLength_7cf53_50 : decode cJ8_hugeLength_7cf53 50 = .ok (.ldc 200, 2) := by decide +kernel
theorem dJ8_hugeLength_7cf53_52 : decode cJ8_hugeLength_7cf53 52 = .ok (.if_icmp .gt 6, 3) := by decide +kernel
theorem dJ8_hugeLength_7cf53_55 : decode cJ8_hugeLength_7cf53 55 = .ok (.ldc 200, 2) := by decide +kernel
theorem dJ8_hugeLength_7cf53_57 : decode cJ8_hugeLength_7cf53 57 = .ok (.ireturn, 1) := by decide +kernel
theorem dJ8_hugeLength_7cf53_58 : decode cJ8_hugeLength_7cf53 58 = .ok (.iload_n 2, 1) := by decide +kernel
theorem dJ8_hugeLength_7cf53_59 : decode cJ8_hugeLength_7cf53 59 = .ok (.ireturn, 1) := by decide +kernel
theorem dJ3_checkIndex_8e157_0 : decode cJ3_checkIndex_8e157 0 = .ok (.iload_n 0, 1) := by decide +kernel
theorem dJ3_checkIndex_8e157_1 : decode cJ3_checkIndex_8e157 1 = .ok (.ifCond .lt 8, 3) := by decide +kernel
theorem dJ3_checkIndex_8e157_4 : decode cJ3_checkIndex_8e157 4 = .ok (.iload_n 0, 1) := by decide +kernel
theorem dJ3_checkIndex_8e157_5 : decode cJ3_checkIndex_8e157 5 = .ok (.iload_n 1, 1) := by decide +kernel
theorem dJ3_checkIndex_8e157_6 : decode cJ3_checkIndex_8e157 6 = .ok (.if_icmp .lt 10, 3) := by decide +kernel
theorem dJ3_checkIndex_8e157_9 : decode cJ3_checkIndex_8e157 9 = .ok (.aload_n 2, 1) := by decide +kernel
theorem dJ3_checkIndex_8e157_10 : decode cJ3_checkIndex_8e157 10 = .ok (.iload_n 0, 1) := by decide +kernel
theorem dJ3_checkIndex_8e157_11 : decode cJ3_checkIndex_8e157 11 = .ok (.iload_n 1, 1) := by decide +kernel
theorem dJ3_checkIndex_8e157_12 : decode cJ3_checkIndex_8e157 12 = .ok (.invokestatic 95, 3) := by decide +kernel
theorem dJ3_checkIndex_8e157_15 : decode cJ3_checkIndex_8e157 15 = .ok (.athrow, 1) := by decide +kernel
theorem dJ3_checkIndex_8e157_16 : decode cJ3_checkIndex_8e157 16 = .ok (.iload_n 0, 1) := by decide +kernel
theorem dJ3_checkIndex_8e157_17 : decode cJ3_checkIndex_8e157 17 = .ok (.ireturn, 1) := by decide +kernel
end
section
theorem dX7_init_0 : decode cX7_init 0 = .ok (.aload_n 0, 1) := by decide +kernel
theorem dX7_init_1 : decode cX7_init 1 = .ok (.invokespecial 1, 3) := by decide +kernel
theorem dX7_init_4 : decode cX7_init 4 = .ok (.aload_n 0, 1) := by decide +kernel
theorem dX7_init_5 : decode cX7_init 5 = .ok (.new 7, 3) := by decide +kernel
theorem dX7_init_8 : decode cX7_init 8 = .ok (.dup, 1) := by decide +kernel
theorem dX7_init_9 : decode cX7_init 9 = .ok (.invokespecial 9, 3) := by decide +kernel
theorem dX7_init_12 : decode cX7_init 12 = .ok (.putfield 10, 3) := by decide +kernel
theorem dX7_init_15 : decode cX7_init 15 = .ok (.aload_n 0, 1) := by decide +kernel
theorem dX7_init_16 : decode cX7_init 16 = .ok (.new 7, 3) := by decide +kernel
theorem dX7_init_19 : decode cX7_init 19 = .ok (.dup, 1) := by decide +kernel
theorem dX7_init_20 : decode cX7_init 20 = .ok (.invokespecial 9, 3) := by decide +kernel
theorem dX7_init_23 : decode cX7_init 23 = .ok (.putfield 16, 3) := by decide +kernel
theorem dX7_init_26 : decode cX7_init 26 = .ok (.aload_n 0, 1) := by decide +kernel
theorem dX7_init_27 : decode cX7_init 27 = .ok (.new 7, 3) := by decide +kernel
theorem dX7_init_30 : decode cX7_init 30 = .ok (.dup, 1) := by decide +kernel
theorem dX7_init_31 : decode cX7_init 31 = .ok (.invokespecial 9, 3) := by decide +kernel
theorem dX7_init_34 : decode cX7_init 34 = .ok (.putfield 19, 3) := by decide +kernel
theorem dX7_init_37 : decode cX7_init 37 = .ok (.aload_n 0, 1) := by decide +kernel
theorem dX7_init_38 : decode cX7_init 38 = .ok (.new 7, 3) := by decide +kernel
theorem dX7_init_41 : decode cX7_init 41 = .ok (.dup, 1) := by decide +kernel
theorem dX7_init_42 : decode cX7_init 42 = .ok (.invokespecial 9, 3) := by decide +kernel
theorem dX7_init_45 : decode cX7_init 45 = .ok (.putfield 22, 3) := by decide +kernel
theorem dX7_init_48 : decode cX7_init 48 = .ok (.aload_n 0, 1) := by decide +kernel
theorem dX7_init_49 : decode cX7_init 49 = .ok (.new 7, 3) := by decide +kernel
theorem dX7_init_52 : decode cX7_init 52 = .ok (.dup, 1) := by decide +kernel
theorem dX7_init_53 : decode cX7_init 53 = .ok (.invokespecial 9, 3) := by decide +kernel
theorem dX7_init_56 : decode cX7_init 56 = .ok (.putfield 25, 3) := by decide +kernel
theorem dX7_init_59 : decode cX7_init 59 = .ok (.aload_n 0, 1) := by decide +kernel
theorem dX7_init_60 : decode cX7_init 60 = .ok (.new 7, 3) := by decide +kernel
theorem dX7_init_63 : decode cX7_init 63 = .ok (.dup, 1) := by decide +kernel
theorem dX7_init_64 : decode cX7_init 64 = .ok (.invokespecial 9, 3) := by decide +kernel
theorem dX7_init_67 : decode cX7_init 67 = .ok (.putfield 28, 3) := by decide +kernel
theorem dX7_init_70 : decode cX7_init 70 = .ok (.aload_n 0, 1) := by decide +kernel
theorem dX7_init_71 : decode cX7_init 71 = .ok (.new 31, 3) := by decide +kernel
theorem dX7_init_74 : decode cX7_init 74 = .ok (.dup, 1) := by decide +kernel
theorem dX7_init_75 : decode cX7_init 75 = .ok (.invokespecial 33, 3) := by decide +kernel
theorem dX7_init_78 : decode cX7_init 78 = .ok (.putfield 34, 3) := by decide +kernel
theorem dX7_init_81 : decode cX7_init 81 = .ok (.aload_n 0, 1) := by decide +kernel
theorem dX7_init_82 : decode cX7_init 82 = .ok (.new 31, 3) := by decide +kernel
theorem dX7_init_85 : decode cX7_init 85 = .ok (.dup, 1) := by decide +kernel
theorem dX7_init_86 : decode cX7_init 86 = .ok (.invokespecial 33, 3) := by decide +kernel
theorem dX7_init_89 : decode cX7_init 89 = .ok (.putfield 38, 3) := by decide +kernel
theorem dX7_init_92 : decode cX7_init 92 = .ok (.aload_n 0, 1) := by decide +kernel
theorem dX7_init_93 : decode cX7_init 93 = .ok (.iconst 0, 1) := by decide +kernel
theorem dX7_init_94 : decode cX7_init 94 = .ok (.putfield 41, 3) := by decide +kernel
theorem dX7_init_97 : decode cX7_init 97 = .ok (.aload_n 0, 1) := by decide +kernel
theorem dX7_init_98 : decode cX7_init 98 = .ok (.iconst 5, 1) := by decide +kernel
theorem dX7_init_99 : decode cX7_init 99 = .ok (.putfield 45, 3) := by decide +kernel
theorem dX7_init_102 : decode cX7_init 102 = .ok (.return_, 1) := by decide +kernel
theorem dX7_addRule_0 : decode cX7_addRule 0 = .ok (.iload_n 1, 1) := by decide +kernel
theorem dX7_addRule_1 : decode cX7_addRule 1 = .ok (.iconst 0, 1) := by decide +kernel
theorem dX7_addRule_2 : decode cX7_addRule 2 = .ok (.bipush 7, 2) := by decide +kernel
theorem dX7_addRule_4 : decode cX7_addRule 4 = .ok (.invokestatic 48, 3) := by decide +kernel
theorem dX7_addRule_7 : decode cX7_addRule 7 = .ok (.iload_n 3, 1) := by decide +kernel
theorem dX7_addRule_8 : decode cX7_addRule 8 = .ok (.iconst 0, 1) := by decide +kernel
theorem dX7_addRule_9 : decode cX7_addRule 9 = .ok (.bipush 9, 2) := by decide +kernel
theorem dX7_addRule_11 : decode cX7_addRule 11 = .ok (.invokestatic 48, 3) := by decide +kernel
theorem dX7_addRule_14 : decode cX7_addRule 14 = .ok (.iload 4, 2) := by decide +kernel
theorem dX7_addRule_16 : decode cX7_addRule 16 = .ok (.iconst 1, 1) := by decide +kernel
theorem dX7_addRule_17 : decode cX7_addRule 17 = .ok (.bipush 60, 2) := by decide +kernel
theorem dX7_addRule_19 : decode cX7_addRule 19 = .ok (.invokestatic 48, 3) := by decide +kernel
theorem dX7_addRule_22 : decode cX7_addRule 22 = .ok (.iload 5, 2) := by decide +kernel
theorem dX7_addRule_24 : decode cX7_addRule 24 = .ok (.aload_n 0, 1) := by decide +kernel
theorem dX7_addRule_25 : decode cX7_addRule 25 = .ok (.getfield 41, 3) := by decide +kernel
theorem dX7_addRule_28 : decode cX7_addRule 28 = .ok (.iconst 1, 1) := by decide +kernel
theorem dX7_addRule_29 : decode cX7_addRule 29 = .ok (.iadd, 1) := by decide +kernel
theorem dX7_addRule_30 : decode cX7_addRule 30 = .ok (.sipush 1000, 3) := by decide +kernel
theorem dX7_addRule_33 : decode cX7_addRule 33 = .ok (.invokestatic 48, 3) := by decide +kernel
theorem dX7_addRule_36 : decode cX7_addRule 36 = .ok (.aload_n 0, 1) := by decide +kernel
theorem dX7_addRule_37 : decode cX7_addRule 37 = .ok (.getfield 10, 3) := by decide +kernel
theorem dX7_addRule_40 : decode cX7_addRule 40 = .ok (.invokevirtual 52, 3) := by decide +kernel
theorem dX7_addRule_43 : decode cX7_addRule 43 = .ok (.bipush 12, 2) := by decide +kernel
theorem dX7_addRule_45 : decode cX7_addRule 45 = .ok (.invokestatic 56, 3) := by decide +kernel
theorem dX7_addRule_48 : decode cX7_addRule 48 = .ok (.aload_n 0, 1) := by decide +kernel
theorem dX7_addRule_49 : decode cX7_addRule 49 = .ok (.getfield 10, 3) := by decide +kernel
theorem dX7_addRule_52 : decode cX7_addRule 52 = .ok (.new 60, 3) := by decide +kernel
theorem dX7_addRule_55 : decode cX7_addRule 55 = .ok (.dup, 1) := by decide +kernel
theorem dX7_addRule_56 : decode cX7_addRule 56 = .ok (.iload_n 1, 1) := by decide +kernel
theorem dX7_addRule_57 : decode cX7_addRule 57 = .ok (.iload_n 2, 1) := by decide +kernel
theorem dX7_addRule_58 : decode cX7_addRule 58 = .ok (.iload_n 3, 1) := by decide +kernel
theorem dX7_addRule_59 : decode cX7_addRule 59 = .ok (.iload 4, 2) := by decide +kernel
theorem dX7_addRule_61 : decode cX7_addRule 61 = .ok (.iload 5, 2) := by decide +kernel
theorem dX7_addRule_63 : decode cX7_addRule 63 = .ok (.invokespecial 62, 3) := by decide +kernel
theorem dX7_addRule_66 : decode cX7_addRule 66 = .ok (.invokevirtual 65, 3) := by decide +kernel
theorem dX7_addRule_69 : decode cX7_addRule 69 = .ok (.pop, 1) := by decide +kernel
theorem dX7_addRule_70 : decode cX7_addRule 70 = .ok (.aload_n 0, 1) := by decide +kernel
theorem dX7_addRule_71 : decode cX7_addRule 71 = .ok (.getfield 10, 3) := by decide +kernel
theorem dX7_addRule_74 : decode cX7_addRule 74 = .ok (.invokevirtual 52, 3) := by decide +kernel
theorem dX7_addRule_77 : decode cX7_addRule 77 = .ok (.iconst 1, 1) := by decide +kernel
theorem dX7_addRule_78 : decode cX7_addRule 78 = .ok (.isub, 1) := by decide +kernel
theorem dX7_addRule_79 : decode cX7_addRule 79 = .ok (.ireturn, 1) := by decide +kernel
theorem dX7_repeal_0 : decode cX7_repeal 0 = .ok (.aload_n 0, 1) := by decide +kernel
theorem dX7_repeal_1 : decode cX7_repeal 1 = .ok (.iload_n 1, 1) := by decide +kernel
theorem dX7_repeal_2 : decode cX7_repeal 2 = .ok (.invokevirtual 69, 3) := by decide +kernel
theorem dX7_repeal_5 : decode cX7_repeal 5 = .ok (.astore_n 3, 1) := by decide +kernel
theorem dX7_repeal_6 : decode cX7_repeal 6 = .ok (.iload_n 2, 1) := by decide +kernel
theorem dX7_repeal_7 : decode cX7_repeal 7 = .ok (.aload_n 0, 1) := by decide +kernel
theorem dX7_repeal_8 : decode cX7_repeal 8 = .ok (.getfield 41, 3) := by decide +kernel
theorem dX7_repeal_11 : decode cX7_repeal 11 = .ok (.aload_n 3, 1) := by decide +kernel
theorem dX7_repeal_12 : decode cX7_repeal 12 = .ok (.getfield 73, 3) := by decide +kernel
theorem dX7_repeal_15 : decode cX7_repeal 15 = .ok (.invokestatic 76, 3) := by decide +kernel
theorem dX7_repeal_18 : decode cX7_repeal 18 = .ok (.iconst 1, 1) := by decide +kernel
theorem dX7_repeal_19 : decode cX7_repeal 19 = .ok (.iadd, 1) := by decide +kernel
theorem dX7_repeal_20 : decode cX7_repeal 20 = .ok (.sipush 1000, 3) := by decide +kernel
theorem dX7_repeal_23 : decode cX7_repeal 23 = .ok (.invokestatic 48, 3) := by decide +kernel
theorem dX7_repeal_26 : decode cX7_repeal 26 = .ok (.aload_n 3, 1) := by decide +kernel
theorem dX7_repeal_27 : decode cX7_repeal 27 = .ok (.invokevirtual 82, 3) := by decide +kernel
theorem dX7_repeal_30 : decode cX7_repeal 30 = .ok (.ifCond .eq 13, 3) := by decide +kernel
theorem dX7_repeal_33 : decode cX7_repeal 33 = .ok (.new 86, 3) := by decide +kernel
theorem dX7_repeal_36 : decode cX7_repeal 36 = .ok (.dup, 1) := by decide +kernel
theorem dX7_repeal_37 : decode cX7_repeal 37 = .ok (.ldc 88, 2) := by decide +kernel
theorem dX7_repeal_39 : decode cX7_repeal 39 = .ok (.invokespecial 90, 3) := by decide +kernel
theorem dX7_repeal_42 : decode cX7_repeal 42 = .ok (.athrow, 1) := by decide +kernel
theorem dX7_repeal_43 : decode cX7_repeal 43 = .ok (.aload_n 3, 1) := by decide +kernel
theorem dX7_repeal_44 : decode cX7_repeal 44 = .ok (.iload_n 2, 1) := by decide +kernel
theorem dX7_repeal_45 : decode cX7_repeal 45 = .ok (.putfield 93, 3) := by decide +kernel
theorem dX7_repeal_48 : decode cX7_repeal 48 = .ok (.aload_n 0, 1) := by decide +kernel
theorem dX7_repeal_49 : decode cX7_repeal 49 = .ok (.iload_n 2, 1) := by decide +kernel
theorem dX7_repeal_50 : decode cX7_repeal 50 = .ok (.invokevirtual 96, 3) := by decide +kernel
theorem dX7_repeal_53 : decode cX7_repeal 53 = .ok (.ireturn, 1) := by decide +kernel
theorem dX7_isInForce_0 : decode cX7_isInForce 0 = .ok (.aload_n 0, 1) := by decide +kernel
theorem dX7_isInForce_1 : decode cX7_isInForce 1 = .ok (.iload_n 1, 1) := by decide +kernel
theorem dX7_isInForce_2 : decode cX7_isInForce 2 = .ok (.invokevirtual 69, 3) := by decide +kernel
theorem dX7_isInForce_5 : decode cX7_isInForce 5 = .ok (.astore_n 3, 1) := by decide +kernel
theorem dX7_isInForce_6 : decode cX7_isInForce 6 = .ok (.iload_n 2, 1) := by decide +kernel
theorem dX7_isInForce_7 : decode cX7_isInForce 7 = .ok (.iconst 0, 1) := by decide +kernel
theorem dX7_isInForce_8 : decode cX7_isInForce 8 = .ok (.sipush 1000, 3) := by decide +kernel
theorem dX7_isInForce_11 : decode cX7_isInForce 11 = .ok (.invokestatic 48, 3) := by decide +kernel
theorem dX7_isInForce_14 : decode cX7_isInForce 14 = .ok (.aload_n 3, 1) := by decide +kernel
theorem dX7_isInForce_15 : decode cX7_isInForce 15 = .ok (.iload_n 2, 1) := by decide +kernel
theorem dX7_isInForce_16 : decode cX7_isInForce 16 = .ok (.invokevirtual 100, 3) := by decide +kernel
theorem dX7_isInForce_19 : decode cX7_isInForce 19 = .ok (.ireturn, 1) := by decide +kernel
theorem dX7_applying_0 : decode cX7_applying 0 = .ok (.aload_n 0, 1) := by decide +kernel
theorem dX7_applying_1 : decode cX7_applying 1 = .ok (.aload_n 0, 1) := by decide +kernel
theorem dX7_applying_2 : decode cX7_applying 2 = .ok (.iload_n 1, 1) := by decide +kernel
theorem dX7_applying_3 : decode cX7_applying 3 = .ok (.invokevirtual 104, 3) := by decide +kernel
theorem dX7_applying_6 : decode cX7_applying 6 = .ok (.invokevirtual 108, 3) := by decide +kernel
theorem dX7_applying_9 : decode cX7_applying 9 = .ok (.istore_n 2, 1) := by decide +kernel
theorem dX7_applying_10 : decode cX7_applying 10 = .ok (.iload_n 2, 1) := by decide +kernel
theorem dX7_applying_11 : decode cX7_applying 11 = .ok (.iconst (-1), 1) := by decide +kernel
theorem dX7_applying_12 : decode cX7_applying 12 = .ok (.if_icmp .ne 13, 3) := by decide +kernel
theorem dX7_applying_15 : decode cX7_applying 15 = .ok (.new 112, 3) := by decide +kernel
theorem dX7_applying_18 : decode cX7_applying 18 = .ok (.dup, 1) := by decide +kernel
theorem dX7_applying_19 : decode cX7_applying 19 = .ok (.ldc 114, 2) := by decide +kernel
theorem dX7_applying_21 : decode cX7_applying 21 = .ok (.invokespecial 116, 3) := by decide +kernel
theorem dX7_applying_24 : decode cX7_applying 24 = .ok (.athrow, 1) := by decide +kernel
theorem dX7_applying_25 : decode cX7_applying 25 = .ok (.iload_n 2, 1) := by decide +kernel
theorem dX7_applying_26 : decode cX7_applying 26 = .ok (.ireturn, 1) := by decide +kernel
theorem dX7_conflicts_0 : decode cX7_conflicts 0 = .ok (.iload_n 1, 1) := by decide +kernel
theorem dX7_conflicts_1 : decode cX7_conflicts 1 = .ok (.iconst 0, 1) := by decide +kernel
theorem dX7_conflicts_2 : decode cX7_conflicts 2 = .ok (.sipush 1000, 3) := by decide +kernel
theorem dX7_conflicts_5 : decode cX7_conflicts 5 = .ok (.invokestatic 48, 3) := by decide +kernel
theorem dX7_conflicts_8 : decode cX7_conflicts 8 = .ok (.iconst 0, 1) := by decide +kernel
theorem dX7_conflicts_9 : decode cX7_conflicts 9 = .ok (.istore_n 2, 1) := by decide +kernel
theorem dX7_conflicts_10 : decode cX7_conflicts 10 = .ok (.iconst 0, 1) := by decide +kernel
theorem dX7_conflicts_11 : decode cX7_conflicts 11 = .ok (.istore_n 3, 1) := by decide +kernel
theorem dX7_conflicts_12 : decode cX7_conflicts 12 = .ok (.iload_n 3, 1) := by decide +kernel
theorem dX7_conflicts_13 : decode cX7_conflicts 13 = .ok (.aload_n 0, 1) := by decide +kernel
theorem dX7_conflicts_14 : decode cX7_conflicts 14 = .ok (.getfield 10, 3) := by decide +kernel
theorem dX7_conflicts_17 : decode cX7_conflicts 17 = .ok (.invokevirtual 52, 3) := by decide +kernel
theorem dX7_conflicts_20 : decode cX7_conflicts 20 = .ok (.if_icmp .ge 57, 3) := by decide +kernel
theorem dX7_conflicts_23 : decode cX7_conflicts 23 = .ok (.iconst 0, 1) := by decide +kernel
theorem dX7_conflicts_24 : decode cX7_conflicts 24 = .ok (.istore 4, 2) := by decide +kernel
theorem dX7_conflicts_26 : decode cX7_conflicts 26 = .ok (.iload 4, 2) := by decide +kernel
theorem dX7_conflicts_28 : decode cX7_conflicts 28 = .ok (.iload_n 3, 1) := by decide +kernel
theorem dX7_conflicts_29 : decode cX7_conflicts 29 = .ok (.if_icmp .ge 42, 3) := by decide +kernel
theorem dX7_conflicts_32 : decode cX7_conflicts 32 = .ok (.aload_n 0, 1) := by decide +kernel
theorem dX7_conflicts_33 : decode cX7_conflicts 33 = .ok (.getfield 10, 3) := by decide +kernel
theorem dX7_conflicts_36 : decode cX7_conflicts 36 = .ok (.iload_n 3, 1) := by decide +kernel
theorem dX7_conflicts_37 : decode cX7_conflicts 37 = .ok (.invokevirtual 117, 3) := by decide +kernel
theorem dX7_conflicts_40 : decode cX7_conflicts 40 = .ok (.checkcast 60, 3) := by decide +kernel
theorem dX7_conflicts_43 : decode cX7_conflicts 43 = .ok (.aload_n 0, 1) := by decide +kernel
theorem dX7_conflicts_44 : decode cX7_conflicts 44 = .ok (.getfield 10, 3) := by decide +kernel
theorem dX7_conflicts_47 : decode cX7_conflicts 47 = .ok (.iload 4, 2) := by decide +kernel
theorem dX7_conflicts_49 : decode cX7_conflicts 49 = .ok (.invokevirtual 117, 3) := by decide +kernel
theorem dX7_conflicts_52 : decode cX7_conflicts 52 = .ok (.checkcast 60, 3) := by decide +kernel
theorem dX7_conflicts_55 : decode cX7_conflicts 55 = .ok (.iload_n 1, 1) := by decide +kernel
theorem dX7_conflicts_56 : decode cX7_conflicts 56 = .ok (.invokestatic 121, 3) := by decide +kernel
theorem dX7_conflicts_59 : decode cX7_conflicts 59 = .ok (.ifCond .eq 6, 3) := by decide +kernel
theorem dX7_conflicts_62 : decode cX7_conflicts 62 = .ok (.iinc 2 1, 3) := by decide +kernel
theorem dX7_conflicts_65 : decode cX7_conflicts 65 = .ok (.iinc 4 1, 3) := by decide +kernel
theorem dX7_conflicts_68 : decode cX7_conflicts 68 = .ok (.goto (-42), 3) := by decide +kernel
theorem dX7_conflicts_71 : decode cX7_conflicts 71 = .ok (.iinc 3 1, 3) := by decide +kernel
theorem dX7_conflicts_74 : decode cX7_conflicts 74 = .ok (.goto (-62), 3) := by decide +kernel
theorem dX7_conflicts_77 : decode cX7_conflicts 77 = .ok (.iload_n 2, 1) := by decide +kernel
theorem dX7_conflicts_78 : decode cX7_conflicts 78 = .ok (.ireturn, 1) := by decide +kernel
theorem dX7_addUser_0 : decode cX7_addUser 0 = .ok (.iload_n 1, 1) := by decide +kernel
theorem dX7_addUser_1 : decode cX7_addUser 1 = .ok (.iconst 1, 1) := by decide +kernel
theorem dX7_addUser_2 : decode cX7_addUser 2 = .ok (.bipush 9, 2) := by decide +kernel
theorem dX7_addUser_4 : decode cX7_addUser 4 = .ok (.invokestatic 48, 3) := by decide +kernel
theorem dX7_addUser_7 : decode cX7_addUser 7 = .ok (.aload_n 0, 1) := by decide +kernel
theorem dX7_addUser_8 : decode cX7_addUser 8 = .ok (.getfield 16, 3) := by decide +kernel
theorem dX7_addUser_11 : decode cX7_addUser 11 = .ok (.invokevirtual 52, 3) := by decide +kernel
theorem dX7_addUser_14 : decode cX7_addUser 14 = .ok (.bipush 8, 2) := by decide +kernel
theorem dX7_addUser_16 : decode cX7_addUser 16 = .ok (.invokestatic 56, 3) := by decide +kernel
theorem dX7_addUser_19 : decode cX7_addUser 19 = .ok (.aload_n 0, 1) := by decide +kernel
theorem dX7_addUser_20 : decode cX7_addUser 20 = .ok (.getfield 16, 3) := by decide +kernel
theorem dX7_addUser_23 : decode cX7_addUser 23 = .ok (.new 125, 3) := by decide +kernel
theorem dX7_addUser_26 : decode cX7_addUser 26 = .ok (.dup, 1) := by decide +kernel
theorem dX7_addUser_27 : decode cX7_addUser 27 = .ok (.iload_n 1, 1) := by decide +kernel
theorem dX7_addUser_28 : decode cX7_addUser 28 = .ok (.invokespecial 127, 3) := by decide +kernel
theorem dX7_addUser_31 : decode cX7_addUser 31 = .ok (.invokevirtual 65, 3) := by decide +kernel
theorem dX7_addUser_34 : decode cX7_addUser 34 = .ok (.pop, 1) := by decide +kernel
theorem dX7_addUser_35 : decode cX7_addUser 35 = .ok (.aload_n 0, 1) := by decide +kernel
theorem dX7_addUser_36 : decode cX7_addUser 36 = .ok (.getfield 16, 3) := by decide +kernel
theorem dX7_addUser_39 : decode cX7_addUser 39 = .ok (.invokevirtual 52, 3) := by decide +kernel
theorem dX7_addUser_42 : decode cX7_addUser 42 = .ok (.iconst 1, 1) := by decide +kernel
theorem dX7_addUser_43 : decode cX7_addUser 43 = .ok (.isub, 1) := by decide +kernel
theorem dX7_addUser_44 : decode cX7_addUser 44 = .ok (.ireturn, 1) := by decide +kernel
theorem dX7_setWeight_0 : decode cX7_setWeight 0 = .ok (.aload_n 0, 1) := by decide +kernel
theorem dX7_setWeight_1 : decode cX7_setWeight 1 = .ok (.iload_n 1, 1) := by decide +kernel
theorem dX7_setWeight_2 : decode cX7_setWeight 2 = .ok (.invokevirtual 130, 3) := by decide +kernel
theorem dX7_setWeight_5 : decode cX7_setWeight 5 = .ok (.astore_n 3, 1) := by decide +kernel
theorem dX7_setWeight_6 : decode cX7_setWeight 6 = .ok (.iload_n 2, 1) := by decide +kernel
theorem dX7_setWeight_7 : decode cX7_setWeight 7 = .ok (.iconst 1, 1) := by decide +kernel
theorem dX7_setWeight_8 : decode cX7_setWeight 8 = .ok (.bipush 9, 2) := by decide +kernel
theorem dX7_setWeight_10 : decode cX7_setWeight 10 = .ok (.invokestatic 48, 3) := by decide +kernel
theorem dX7_setWeight_13 : decode cX7_setWeight 13 = .ok (.aload_n 3, 1) := by decide +kernel
theorem dX7_setWeight_14 : decode cX7_setWeight 14 = .ok (.getfield 134, 3) := by decide +kernel
theorem dX7_setWeight_17 : decode cX7_setWeight 17 = .ok (.istore 4, 2) := by decide +kernel
theorem dX7_setWeight_19 : decode cX7_setWeight 19 = .ok (.aload_n 3, 1) := by decide +kernel
theorem dX7_setWeight_20 : decode cX7_setWeight 20 = .ok (.iload_n 2, 1) := by decide +kernel
theorem dX7_setWeight_21 : decode cX7_setWeight 21 = .ok (.putfield 134, 3) := by decide +kernel
theorem dX7_setWeight_24 : decode cX7_setWeight 24 = .ok (.iload 4, 2) := by decide +kernel
theorem dX7_setWeight_26 : decode cX7_setWeight 26 = .ok (.ireturn, 1) := by decide +kernel
theorem dX7_sanctions_0 : decode cX7_sanctions 0 = .ok (.aload_n 0, 1) := by decide +kernel
theorem dX7_sanctions_1 : decode cX7_sanctions 1 = .ok (.aload_n 0, 1) := by decide +kernel
theorem dX7_sanctions_2 : decode cX7_sanctions 2 = .ok (.iload_n 1, 1) := by decide +kernel
theorem dX7_sanctions_3 : decode cX7_sanctions 3 = .ok (.invokevirtual 130, 3) := by decide +kernel
theorem dX7_sanctions_6 : decode cX7_sanctions 6 = .ok (.invokevirtual 137, 3) := by decide +kernel
theorem dX7_sanctions_9 : decode cX7_sanctions 9 = .ok (.ireturn, 1) := by decide +kernel
theorem dX7_sanctionedUntil_0 : decode cX7_sanctionedUntil 0 = .ok (.aload_n 0, 1) := by decide +kernel
theorem dX7_sanctionedUntil_1 : decode cX7_sanctionedUntil 1 = .ok (.iload_n 1, 1) := by decide +kernel
theorem dX7_sanctionedUntil_2 : decode cX7_sanctionedUntil 2 = .ok (.invokevirtual 130, 3) := by decide +kernel
theorem dX7_sanctionedUntil_5 : decode cX7_sanctionedUntil 5 = .ok (.astore_n 2, 1) := by decide +kernel
theorem dX7_sanctionedUntil_6 : decode cX7_sanctionedUntil 6 = .ok (.aload_n 0, 1) := by decide +kernel
theorem dX7_sanctionedUntil_7 : decode cX7_sanctionedUntil 7 = .ok (.aload_n 2, 1) := by decide +kernel
theorem dX7_sanctionedUntil_8 : decode cX7_sanctionedUntil 8 = .ok (.invokevirtual 137, 3) := by decide +kernel
theorem dX7_sanctionedUntil_11 : decode cX7_sanctionedUntil 11 = .ok (.ifCond .ne 13, 3) := by decide +kernel
theorem dX7_sanctionedUntil_14 : decode cX7_sanctionedUntil 14 = .ok (.new 112, 3) := by decide +kernel
theorem dX7_sanctionedUntil_17 : decode cX7_sanctionedUntil 17 = .ok (.dup, 1) := by decide +kernel
theorem dX7_sanctionedUntil_18 : decode cX7_sanctionedUntil 18 = .ok (.ldc 141, 2) := by decide +kernel
theorem dX7_sanctionedUntil_20 : decode cX7_sanctionedUntil 20 = .ok (.invokespecial 116, 3) := by decide +kernel
theorem dX7_sanctionedUntil_23 : decode cX7_sanctionedUntil 23 = .ok (.athrow, 1) := by decide +kernel
theorem dX7_sanctionedUntil_24 : decode cX7_sanctionedUntil 24 = .ok (.aload_n 0, 1) := by decide +kernel
theorem dX7_sanctionedUntil_25 : decode cX7_sanctionedUntil 25 = .ok (.getfield 41, 3) := by decide +kernel
theorem dX7_sanctionedUntil_28 : decode cX7_sanctionedUntil 28 = .ok (.istore_n 3, 1) := by decide +kernel
theorem dX7_sanctionedUntil_29 : decode cX7_sanctionedUntil 29 = .ok (.iconst 0, 1) := by decide +kernel
theorem dX7_sanctionedUntil_30 : decode cX7_sanctionedUntil 30 = .ok (.istore 4, 2) := by decide +kernel
theorem dX7_sanctionedUntil_32 : decode cX7_sanctionedUntil 32 = .ok (.iload 4, 2) := by decide +kernel
theorem dX7_sanctionedUntil_34 : decode cX7_sanctionedUntil 34 = .ok (.aload_n 0, 1) := by decide +kernel
theorem dX7_sanctionedUntil_35 : decode cX7_sanctionedUntil 35 = .ok (.getfield 25, 3) := by decide +kernel
theorem dX7_sanctionedUntil_38 : decode cX7_sanctionedUntil 38 = .ok (.invokevirtual 52, 3) := by decide +kernel
theorem dX7_sanctionedUntil_41 : decode cX7_sanctionedUntil 41 = .ok (.if_icmp .ge 54, 3) := by decide +kernel
theorem dX7_sanctionedUntil_44 : decode cX7_sanctionedUntil 44 = .ok (.aload_n 0, 1) := by decide +kernel
theorem dX7_sanctionedUntil_45 : decode cX7_sanctionedUntil 45 = .ok (.getfield 25, 3) := by decide +kernel
theorem dX7_sanctionedUntil_48 : decode cX7_sanctionedUntil 48 = .ok (.iload 4, 2) := by decide +kernel
theorem dX7_sanctionedUntil_50 : decode cX7_sanctionedUntil 50 = .ok (.invokevirtual 117, 3) := by decide +kernel
theorem dX7_sanctionedUntil_53 : decode cX7_sanctionedUntil 53 = .ok (.checkcast 143, 3) := by decide +kernel
theorem dX7_sanctionedUntil_56 : decode cX7_sanctionedUntil 56 = .ok (.astore 5, 2) := by decide +kernel
theorem dX7_sanctionedUntil_58 : decode cX7_sanctionedUntil 58 = .ok (.aload 5, 2) := by decide +kernel
theorem dX7_sanctionedUntil_60 : decode cX7_sanctionedUntil 60 = .ok (.getfield 145, 3) := by decide +kernel
theorem dX7_sanctionedUntil_63 : decode cX7_sanctionedUntil 63 = .ok (.aload_n 2, 1) := by decide +kernel
theorem dX7_sanctionedUntil_64 : decode cX7_sanctionedUntil 64 = .ok (.if_acmp .ne 25, 3) := by decide +kernel
theorem dX7_sanctionedUntil_67 : decode cX7_sanctionedUntil 67 = .ok (.aload 5, 2) := by decide +kernel
theorem dX7_sanctionedUntil_69 : decode cX7_sanctionedUntil 69 = .ok (.aload_n 0, 1) := by decide +kernel
theorem dX7_sanctionedUntil_70 : decode cX7_sanctionedUntil 70 = .ok (.getfield 41, 3) := by decide +kernel
theorem dX7_sanctionedUntil_73 : decode cX7_sanctionedUntil 73 = .ok (.invokevirtual 149, 3) := by decide +kernel
theorem dX7_sanctionedUntil_76 : decode cX7_sanctionedUntil 76 = .ok (.ifCond .eq 13, 3) := by decide +kernel
theorem dX7_sanctionedUntil_79 : decode cX7_sanctionedUntil 79 = .ok (.iload_n 3, 1) := by decide +kernel
theorem dX7_sanctionedUntil_80 : decode cX7_sanctionedUntil 80 = .ok (.aload 5, 2) := by decide +kernel
theorem dX7_sanctionedUntil_82 : decode cX7_sanctionedUntil 82 = .ok (.getfield 152, 3) := by decide +kernel
theorem dX7_sanctionedUntil_85 : decode cX7_sanctionedUntil 85 = .ok (.invokestatic 76, 3) := by decide +kernel
theorem dX7_sanctionedUntil_88 : decode cX7_sanctionedUntil 88 = .ok (.istore_n 3, 1) := by decide +kernel
theorem dX7_sanctionedUntil_89 : decode cX7_sanctionedUntil 89 = .ok (.iinc 4 1, 3) := by decide +kernel
theorem dX7_sanctionedUntil_92 : decode cX7_sanctionedUntil 92 = .ok (.goto (-60), 3) := by decide +kernel
theorem dX7_sanctionedUntil_95 : decode cX7_sanctionedUntil 95 = .ok (.iload_n 3, 1) := by decide +kernel
theorem dX7_sanctionedUntil_96 : decode cX7_sanctionedUntil 96 = .ok (.ireturn, 1) := by decide +kernel
theorem dX7_addBot_0 : decode cX7_addBot 0 = .ok (.iload_n 1, 1) := by decide +kernel
theorem dX7_addBot_1 : decode cX7_addBot 1 = .ok (.iconst 0, 1) := by decide +kernel
theorem dX7_addBot_2 : decode cX7_addBot 2 = .ok (.bipush 7, 2) := by decide +kernel
theorem dX7_addBot_4 : decode cX7_addBot 4 = .ok (.invokestatic 48, 3) := by decide +kernel
theorem dX7_addBot_7 : decode cX7_addBot 7 = .ok (.iload_n 2, 1) := by decide +kernel
theorem dX7_addBot_8 : decode cX7_addBot 8 = .ok (.bipush 50, 2) := by decide +kernel
theorem dX7_addBot_10 : decode cX7_addBot 10 = .ok (.bipush 100, 2) := by decide +kernel
theorem dX7_addBot_12 : decode cX7_addBot 12 = .ok (.invokestatic 48, 3) := by decide +kernel
theorem dX7_addBot_15 : decode cX7_addBot 15 = .ok (.aload_n 0, 1) := by decide +kernel
theorem dX7_addBot_16 : decode cX7_addBot 16 = .ok (.getfield 19, 3) := by decide +kernel
theorem dX7_addBot_19 : decode cX7_addBot 19 = .ok (.invokevirtual 52, 3) := by decide +kernel
theorem dX7_addBot_22 : decode cX7_addBot 22 = .ok (.iconst 4, 1) := by decide +kernel
theorem dX7_addBot_23 : decode cX7_addBot 23 = .ok (.invokestatic 56, 3) := by decide +kernel
theorem dX7_addBot_26 : decode cX7_addBot 26 = .ok (.aload_n 0, 1) := by decide +kernel
theorem dX7_addBot_27 : decode cX7_addBot 27 = .ok (.getfield 19, 3) := by decide +kernel
theorem dX7_addBot_30 : decode cX7_addBot 30 = .ok (.new 153, 3) := by decide +kernel
theorem dX7_addBot_33 : decode cX7_addBot 33 = .ok (.dup, 1) := by decide +kernel
theorem dX7_addBot_34 : decode cX7_addBot 34 = .ok (.iload_n 1, 1) := by decide +kernel
theorem dX7_addBot_35 : decode cX7_addBot 35 = .ok (.iload_n 2, 1) := by decide +kernel
theorem dX7_addBot_36 : decode cX7_addBot 36 = .ok (.invokespecial 155, 3) := by decide +kernel
theorem dX7_addBot_39 : decode cX7_addBot 39 = .ok (.invokevirtual 65, 3) := by decide +kernel
theorem dX7_addBot_42 : decode cX7_addBot 42 = .ok (.pop, 1) := by decide +kernel
theorem dX7_addBot_43 : decode cX7_addBot 43 = .ok (.aload_n 0, 1) := by decide +kernel
theorem dX7_addBot_44 : decode cX7_addBot 44 = .ok (.getfield 19, 3) := by decide +kernel
theorem dX7_addBot_47 : decode cX7_addBot 47 = .ok (.invokevirtual 52, 3) := by decide +kernel
theorem dX7_addBot_50 : decode cX7_addBot 50 = .ok (.iconst 1, 1) := by decide +kernel
theorem dX7_addBot_51 : decode cX7_addBot 51 = .ok (.isub, 1) := by decide +kernel
theorem dX7_addBot_52 : decode cX7_addBot 52 = .ok (.ireturn, 1) := by decide +kernel
theorem dX7_threshold_0 : decode cX7_threshold 0 = .ok (.iload_n 1, 1) := by decide +kernel
theorem dX7_threshold_1 : decode cX7_threshold 1 = .ok (.aload_n 0, 1) := by decide +kernel
theorem dX7_threshold_2 : decode cX7_threshold 2 = .ok (.getfield 19, 3) := by decide +kernel
theorem dX7_threshold_5 : decode cX7_threshold 5 = .ok (.invokevirtual 52, 3) := by decide +kernel
theorem dX7_threshold_8 : decode cX7_threshold 8 = .ok (.invokestatic 157, 3) := by decide +kernel
theorem dX7_threshold_11 : decode cX7_threshold 11 = .ok (.aload_n 0, 1) := by decide +kernel
theorem dX7_threshold_12 : decode cX7_threshold 12 = .ok (.getfield 19, 3) := by decide +kernel
theorem dX7_threshold_15 : decode cX7_threshold 15 = .ok (.iload_n 1, 1) := by decide +kernel
theorem dX7_threshold_16 : decode cX7_threshold 16 = .ok (.invokevirtual 117, 3) := by decide +kernel
theorem dX7_threshold_19 : decode cX7_threshold 19 = .ok (.checkcast 153, 3) := by decide +kernel
theorem dX7_threshold_22 : decode cX7_threshold 22 = .ok (.getfield 160, 3) := by decide +kernel
theorem dX7_threshold_25 : decode cX7_threshold 25 = .ok (.ireturn, 1) := by decide +kernel
theorem dX7_file_0 : decode cX7_file 0 = .ok (.aload_n 0, 1) := by decide +kernel
theorem dX7_file_1 : decode cX7_file 1 = .ok (.iload_n 1, 1) := by decide +kernel
theorem dX7_file_2 : decode cX7_file 2 = .ok (.invokevirtual 130, 3) := by decide +kernel
theorem dX7_file_5 : decode cX7_file 5 = .ok (.astore 5, 2) := by decide +kernel
theorem dX7_file_7 : decode cX7_file 7 = .ok (.aload_n 0, 1) := by decide +kernel
theorem dX7_file_8 : decode cX7_file 8 = .ok (.iload_n 2, 1) := by decide +kernel
theorem dX7_file_9 : decode cX7_file 9 = .ok (.invokevirtual 130, 3) := by decide +kernel
theorem dX7_file_12 : decode cX7_file 12 = .ok (.astore 6, 2) := by decide +kernel
theorem dX7_file_14 : decode cX7_file 14 = .ok (.iload_n 1, 1) := by decide +kernel
theorem dX7_file_15 : decode cX7_file 15 = .ok (.iload_n 2, 1) := by decide +kernel
theorem dX7_file_16 : decode cX7_file 16 = .ok (.if_icmp .ne 13, 3) := by decide +kernel
theorem dX7_file_19 : decode cX7_file 19 = .ok (.new 163, 3) := by decide +kernel
theorem dX7_file_22 : decode cX7_file 22 = .ok (.dup, 1) := by decide +kernel
theorem dX7_file_23 : decode cX7_file 23 = .ok (.ldc 165, 2) := by decide +kernel
theorem dX7_file_25 : decode cX7_file 25 = .ok (.invokespecial 167, 3) := by decide +kernel
theorem dX7_file_28 : decode cX7_file 28 = .ok (.athrow, 1) := by decide +kernel
theorem dX7_file_29 : decode cX7_file 29 = .ok (.iload_n 3, 1) := by decide +kernel
theorem dX7_file_30 : decode cX7_file 30 = .ok (.iconst 1, 1) := by decide +kernel
theorem dX7_file_31 : decode cX7_file 31 = .ok (.sipush 255, 3) := by decide +kernel
theorem dX7_file_34 : decode cX7_file 34 = .ok (.invokestatic 48, 3) := by decide +kernel
theorem dX7_file_37 : decode cX7_file 37 = .ok (.iload 4, 2) := by decide +kernel
theorem dX7_file_39 : decode cX7_file 39 = .ok (.iconst 0, 1) := by decide +kernel
theorem dX7_file_40 : decode cX7_file 40 = .ok (.bipush 100, 2) := by decide +kernel
theorem dX7_file_42 : decode cX7_file 42 = .ok (.invokestatic 48, 3) := by decide +kernel
theorem dX7_file_45 : decode cX7_file 45 = .ok (.aload_n 0, 1) := by decide +kernel
theorem dX7_file_46 : decode cX7_file 46 = .ok (.getfield 22, 3) := by decide +kernel
theorem dX7_file_49 : decode cX7_file 49 = .ok (.invokevirtual 52, 3) := by decide +kernel
theorem dX7_file_52 : decode cX7_file 52 = .ok (.bipush 20, 2) := by decide +kernel
theorem dX7_file_54 : decode cX7_file 54 = .ok (.invokestatic 56, 3) := by decide +kernel
theorem dX7_file_57 : decode cX7_file 57 = .ok (.aload_n 0, 1) := by decide +kernel
theorem dX7_file_58 : decode cX7_file 58 = .ok (.getfield 22, 3) := by decide +kernel
theorem dX7_file_61 : decode cX7_file 61 = .ok (.invokevirtual 52, 3) := by decide +kernel
theorem dX7_file_64 : decode cX7_file 64 = .ok (.istore 7, 2) := by decide +kernel
theorem dX7_file_66 : decode cX7_file 66 = .ok (.new 168, 3) := by decide +kernel
theorem dX7_file_69 : decode cX7_file 69 = .ok (.dup, 1) := by decide +kernel
theorem dX7_file_70 : decode cX7_file 70 = .ok (.iload 7, 2) := by decide +kernel
theorem dX7_file_72 : decode cX7_file 72 = .ok (.aload 5, 2) := by decide +kernel
theorem dX7_file_74 : decode cX7_file 74 = .ok (.aload 6, 2) := by decide +kernel
theorem dX7_file_76 : decode cX7_file 76 = .ok (.iload_n 3, 1) := by decide +kernel
theorem dX7_file_77 : decode cX7_file 77 = .ok (.iload 4, 2) := by decide +kernel
theorem dX7_file_79 : decode cX7_file 79 = .ok (.aload_n 0, 1) := by decide +kernel
theorem dX7_file_80 : decode cX7_file 80 = .ok (.getfield 41, 3) := by decide +kernel
theorem dX7_file_83 : decode cX7_file 83 = .ok (.invokespecial 170, 3) := by decide +kernel
theorem dX7_file_86 : decode cX7_file 86 = .ok (.astore 8, 2) := by decide +kernel
theorem dX7_file_88 : decode cX7_file 88 = .ok (.aload_n 0, 1) := by decide +kernel
theorem dX7_file_89 : decode cX7_file 89 = .ok (.getfield 22, 3) := by decide +kernel
theorem dX7_file_92 : decode cX7_file 92 = .ok (.aload 8, 2) := by decide +kernel
theorem dX7_file_94 : decode cX7_file 94 = .ok (.invokevirtual 65, 3) := by decide +kernel
theorem dX7_file_97 : decode cX7_file 97 = .ok (.pop, 1) := by decide +kernel
theorem dX7_file_98 : decode cX7_file 98 = .ok (.aload 8, 2) := by decide +kernel
theorem dX7_file_100 : decode cX7_file 100 = .ok (.aload_n 0, 1) := by decide +kernel
theorem dX7_file_101 : decode cX7_file 101 = .ok (.aload 8, 2) := by decide +kernel
theorem dX7_file_103 : decode cX7_file 103 = .ok (.invokevirtual 173, 3) := by decide +kernel
theorem dX7_file_106 : decode cX7_file 106 = .ok (.putfield 177, 3) := by decide +kernel
theorem dX7_file_109 : decode cX7_file 109 = .ok (.aload 8, 2) := by decide +kernel
theorem dX7_file_111 : decode cX7_file 111 = .ok (.getfield 177, 3) := by decide +kernel
theorem dX7_file_114 : decode cX7_file 114 = .ok (.ifnull 16, 3) := by decide +kernel
theorem dX7_file_117 : decode cX7_file 117 = .ok (.aload_n 0, 1) := by decide +kernel
theorem dX7_file_118 : decode cX7_file 118 = .ok (.aload 8, 2) := by decide +kernel
theorem dX7_file_120 : decode cX7_file 120 = .ok (.iload 4, 2) := by decide +kernel
theorem dX7_file_122 : decode cX7_file 122 = .ok (.bipush 10, 2) := by decide +kernel
theorem dX7_file_124 : decode cX7_file 124 = .ok (.idiv, 1) := by decide +kernel
theorem dX7_file_125 : decode cX7_file 125 = .ok (.iconst 0, 1) := by decide +kernel
theorem dX7_file_126 : decode cX7_file 126 = .ok (.invokevirtual 181, 3) := by decide +kernel
theorem dX7_file_129 : decode cX7_file 129 = .ok (.pop, 1) := by decide +kernel
theorem dX7_file_130 : decode cX7_file 130 = .ok (.iload 7, 2) := by decide +kernel
theorem dX7_file_132 : decode cX7_file 132 = .ok (.ireturn, 1) := by decide +kernel
theorem dX7_state_0 : decode cX7_state 0 = .ok (.aload_n 0, 1) := by decide +kernel
theorem dX7_state_1 : decode cX7_state 1 = .ok (.iload_n 1, 1) := by decide +kernel
theorem dX7_state_2 : decode cX7_state 2 = .ok (.invokevirtual 104, 3) := by decide +kernel
theorem dX7_state_5 : decode cX7_state 5 = .ok (.getfield 185, 3) := by decide +kernel
theorem dX7_state_8 : decode cX7_state 8 = .ok (.ireturn, 1) := by decide +kernel
theorem dX7_vote_0 : decode cX7_vote 0 = .ok (.aload_n 0, 1) := by decide +kernel
theorem dX7_vote_1 : decode cX7_vote 1 = .ok (.iload_n 1, 1) := by decide +kernel
theorem dX7_vote_2 : decode cX7_vote 2 = .ok (.invokevirtual 104, 3) := by decide +kernel
theorem dX7_vote_5 : decode cX7_vote 5 = .ok (.astore 4, 2) := by decide +kernel
theorem dX7_vote_7 : decode cX7_vote 7 = .ok (.aload_n 0, 1) := by decide +kernel
theorem dX7_vote_8 : decode cX7_vote 8 = .ok (.iload_n 2, 1) := by decide +kernel
theorem dX7_vote_9 : decode cX7_vote 9 = .ok (.invokevirtual 130, 3) := by decide +kernel
theorem dX7_vote_12 : decode cX7_vote 12 = .ok (.astore 5, 2) := by decide +kernel
theorem dX7_vote_14 : decode cX7_vote 14 = .ok (.aload 4, 2) := by decide +kernel
theorem dX7_vote_16 : decode cX7_vote 16 = .ok (.invokestatic 189, 3) := by decide +kernel
theorem dX7_vote_19 : decode cX7_vote 19 = .ok (.aload 5, 2) := by decide +kernel
theorem dX7_vote_21 : decode cX7_vote 21 = .ok (.aload 4, 2) := by decide +kernel
theorem dX7_vote_23 : decode cX7_vote 23 = .ok (.getfield 193, 3) := by decide +kernel
theorem dX7_vote_26 : decode cX7_vote 26 = .ok (.if_acmp .eq 13, 3) := by decide +kernel
theorem dX7_vote_29 : decode cX7_vote 29 = .ok (.aload 5, 2) := by decide +kernel
theorem dX7_vote_31 : decode cX7_vote 31 = .ok (.aload 4, 2) := by decide +kernel
theorem dX7_vote_33 : decode cX7_vote 33 = .ok (.getfield 196, 3) := by decide +kernel
theorem dX7_vote_36 : decode cX7_vote 36 = .ok (.if_acmp .ne 13, 3) := by decide +kernel
theorem dX7_vote_39 : decode cX7_vote 39 = .ok (.new 199, 3) := by decide +kernel
theorem dX7_vote_42 : decode cX7_vote 42 = .ok (.dup, 1) := by decide +kernel
theorem dX7_vote_43 : decode cX7_vote 43 = .ok (.ldc 201, 2) := by decide +kernel
theorem dX7_vote_45 : decode cX7_vote 45 = .ok (.invokespecial 203, 3) := by decide +kernel
theorem dX7_vote_48 : decode cX7_vote 48 = .ok (.athrow, 1) := by decide +kernel
theorem dX7_vote_49 : decode cX7_vote 49 = .ok (.aload_n 0, 1) := by decide +kernel
theorem dX7_vote_50 : decode cX7_vote 50 = .ok (.aload 5, 2) := by decide +kernel
theorem dX7_vote_52 : decode cX7_vote 52 = .ok (.invokevirtual 137, 3) := by decide +kernel
theorem dX7_vote_55 : decode cX7_vote 55 = .ok (.ifCond .le 13, 3) := by decide +kernel
theorem dX7_vote_58 : decode cX7_vote 58 = .ok (.new 199, 3) := by decide +kernel
theorem dX7_vote_61 : decode cX7_vote 61 = .ok (.dup, 1) := by decide +kernel
theorem dX7_vote_62 : decode cX7_vote 62 = .ok (.ldc 204, 2) := by decide +kernel
theorem dX7_vote_64 : decode cX7_vote 64 = .ok (.invokespecial 203, 3) := by decide +kernel
theorem dX7_vote_67 : decode cX7_vote 67 = .ok (.athrow, 1) := by decide +kernel
theorem dX7_vote_68 : decode cX7_vote 68 = .ok (.aload 4, 2) := by decide +kernel
theorem dX7_vote_70 : decode cX7_vote 70 = .ok (.iload_n 2, 1) := by decide +kernel
theorem dX7_vote_71 : decode cX7_vote 71 = .ok (.iload_n 3, 1) := by decide +kernel
theorem dX7_vote_72 : decode cX7_vote 72 = .ok (.ifCond .eq 11, 3) := by decide +kernel
theorem dX7_vote_75 : decode cX7_vote 75 = .ok (.aload 5, 2) := by decide +kernel
theorem dX7_vote_77 : decode cX7_vote 77 = .ok (.getfield 134, 3) := by decide +kernel
theorem dX7_vote_80 : decode cX7_vote 80 = .ok (.goto 9, 3) := by decide +kernel
theorem dX7_vote_83 : decode cX7_vote 83 = .ok (.aload 5, 2) := by decide +kernel
theorem dX7_vote_85 : decode cX7_vote 85 = .ok (.getfield 134, 3) := by decide +kernel
theorem dX7_vote_88 : decode cX7_vote 88 = .ok (.ineg, 1) := by decide +kernel
theorem dX7_vote_89 : decode cX7_vote 89 = .ok (.invokevirtual 206, 3) := by decide +kernel
theorem dX7_vote_92 : decode cX7_vote 92 = .ok (.aload 4, 2) := by decide +kernel
theorem dX7_vote_94 : decode cX7_vote 94 = .ok (.invokevirtual 209, 3) := by decide +kernel
theorem dX7_vote_97 : decode cX7_vote 97 = .ok (.aload 4, 2) := by decide +kernel
theorem dX7_vote_99 : decode cX7_vote 99 = .ok (.invokevirtual 212, 3) := by decide +kernel
theorem dX7_vote_102 : decode cX7_vote 102 = .ok (.iadd, 1) := by decide +kernel
theorem dX7_vote_103 : decode cX7_vote 103 = .ok (.ireturn, 1) := by decide +kernel
theorem dX7_weightFor_0 : decode cX7_weightFor 0 = .ok (.aload_n 0, 1) := by decide +kernel
theorem dX7_weightFor_1 : decode cX7_weightFor 1 = .ok (.iload_n 1, 1) := by decide +kernel
theorem dX7_weightFor_2 : decode cX7_weightFor 2 = .ok (.invokevirtual 104, 3) := by decide +kernel
theorem dX7_weightFor_5 : decode cX7_weightFor 5 = .ok (.invokevirtual 209, 3) := by decide +kernel
theorem dX7_weightFor_8 : decode cX7_weightFor 8 = .ok (.ireturn, 1) := by decide +kernel
theorem dX7_weightAgainst_0 : decode cX7_weightAgainst 0 = .ok (.aload_n 0, 1) := by decide +kernel
theorem dX7_weightAgainst_1 : decode cX7_weightAgainst 1 = .ok (.iload_n 1, 1) := by decide +kernel
theorem dX7_weightAgainst_2 : decode cX7_weightAgainst 2 = .ok (.invokevirtual 104, 3) := by decide +kernel
theorem dX7_weightAgainst_5 : decode cX7_weightAgainst 5 = .ok (.invokevirtual 212, 3) := by decide +kernel
theorem dX7_weightAgainst_8 : decode cX7_weightAgainst 8 = .ok (.ireturn, 1) := by decide +kernel
theorem dX7_setQuorum_0 : decode cX7_setQuorum 0 = .ok (.iload_n 1, 1) := by decide +kernel
theorem dX7_setQuorum_1 : decode cX7_setQuorum 1 = .ok (.iconst 1, 1) := by decide +kernel
theorem dX7_setQuorum_2 : decode cX7_setQuorum 2 = .ok (.bipush 50, 2) := by decide +kernel
theorem dX7_setQuorum_4 : decode cX7_setQuorum 4 = .ok (.invokestatic 48, 3) := by decide +kernel
theorem dX7_setQuorum_7 : decode cX7_setQuorum 7 = .ok (.aload_n 0, 1) := by decide +kernel
theorem dX7_setQuorum_8 : decode cX7_setQuorum 8 = .ok (.getfield 45, 3) := by decide +kernel
theorem dX7_setQuorum_11 : decode cX7_setQuorum 11 = .ok (.istore_n 2, 1) := by decide +kernel
theorem dX7_setQuorum_12 : decode cX7_setQuorum 12 = .ok (.aload_n 0, 1) := by decide +kernel
theorem dX7_setQuorum_13 : decode cX7_setQuorum 13 = .ok (.iload_n 1, 1) := by decide +kernel
theorem dX7_setQuorum_14 : decode cX7_setQuorum 14 = .ok (.putfield 45, 3) := by decide +kernel
theorem dX7_setQuorum_17 : decode cX7_setQuorum 17 = .ok (.iload_n 2, 1) := by decide +kernel
theorem dX7_setQuorum_18 : decode cX7_setQuorum 18 = .ok (.ireturn, 1) := by decide +kernel
theorem dX7_precedent_0 : decode cX7_precedent 0 = .ok (.aload_n 0, 1) := by decide +kernel
theorem dX7_precedent_1 : decode cX7_precedent 1 = .ok (.aload_n 0, 1) := by decide +kernel
theorem dX7_precedent_2 : decode cX7_precedent 2 = .ok (.iload_n 1, 1) := by decide +kernel
theorem dX7_precedent_3 : decode cX7_precedent 3 = .ok (.invokevirtual 104, 3) := by decide +kernel
theorem dX7_precedent_6 : decode cX7_precedent 6 = .ok (.aload_n 0, 1) := by decide +kernel
theorem dX7_precedent_7 : decode cX7_precedent 7 = .ok (.getfield 34, 3) := by decide +kernel
theorem dX7_precedent_10 : decode cX7_precedent 10 = .ok (.invokevirtual 215, 3) := by decide +kernel
theorem dX7_precedent_13 : decode cX7_precedent 13 = .ok (.istore_n 2, 1) := by decide +kernel
theorem dX7_precedent_14 : decode cX7_precedent 14 = .ok (.iload_n 2, 1) := by decide +kernel
theorem dX7_precedent_15 : decode cX7_precedent 15 = .ok (.iconst (-1), 1) := by decide +kernel
theorem dX7_precedent_16 : decode cX7_precedent 16 = .ok (.if_icmp .ne 13, 3) := by decide +kernel
theorem dX7_precedent_19 : decode cX7_precedent 19 = .ok (.new 112, 3) := by decide +kernel
theorem dX7_precedent_22 : decode cX7_precedent 22 = .ok (.dup, 1) := by decide +kernel
theorem dX7_precedent_23 : decode cX7_precedent 23 = .ok (.ldc 219, 2) := by decide +kernel
theorem dX7_precedent_25 : decode cX7_precedent 25 = .ok (.invokespecial 116, 3) := by decide +kernel
theorem dX7_precedent_28 : decode cX7_precedent 28 = .ok (.athrow, 1) := by decide +kernel
theorem dX7_precedent_29 : decode cX7_precedent 29 = .ok (.iload_n 2, 1) := by decide +kernel
theorem dX7_precedent_30 : decode cX7_precedent 30 = .ok (.ireturn, 1) := by decide +kernel
theorem dX7_decide_0 : decode cX7_decide 0 = .ok (.aload_n 0, 1) := by decide +kernel
theorem dX7_decide_1 : decode cX7_decide 1 = .ok (.iload_n 1, 1) := by decide +kernel
theorem dX7_decide_2 : decode cX7_decide 2 = .ok (.invokevirtual 104, 3) := by decide +kernel
theorem dX7_decide_5 : decode cX7_decide 5 = .ok (.astore_n 2, 1) := by decide +kernel
theorem dX7_decide_6 : decode cX7_decide 6 = .ok (.aload_n 2, 1) := by decide +kernel
theorem dX7_decide_7 : decode cX7_decide 7 = .ok (.invokestatic 189, 3) := by decide +kernel
theorem dX7_decide_10 : decode cX7_decide 10 = .ok (.aload_n 2, 1) := by decide +kernel
theorem dX7_decide_11 : decode cX7_decide 11 = .ok (.invokevirtual 209, 3) := by decide +kernel
theorem dX7_decide_14 : decode cX7_decide 14 = .ok (.istore_n 3, 1) := by decide +kernel
theorem dX7_decide_15 : decode cX7_decide 15 = .ok (.aload_n 2, 1) := by decide +kernel
theorem dX7_decide_16 : decode cX7_decide 16 = .ok (.invokevirtual 212, 3) := by decide +kernel
theorem dX7_decide_19 : decode cX7_decide 19 = .ok (.istore 4, 2) := by decide +kernel
theorem dX7_decide_21 : decode cX7_decide 21 = .ok (.iload_n 3, 1) := by decide +kernel
theorem dX7_decide_22 : decode cX7_decide 22 = .ok (.iload 4, 2) := by decide +kernel
theorem dX7_decide_24 : decode cX7_decide 24 = .ok (.iadd, 1) := by decide +kernel
theorem dX7_decide_25 : decode cX7_decide 25 = .ok (.aload_n 0, 1) := by decide +kernel
theorem dX7_decide_26 : decode cX7_decide 26 = .ok (.getfield 45, 3) := by decide +kernel
theorem dX7_decide_29 : decode cX7_decide 29 = .ok (.if_icmp .ge 13, 3) := by decide +kernel
theorem dX7_decide_32 : decode cX7_decide 32 = .ok (.new 199, 3) := by decide +kernel
theorem dX7_decide_35 : decode cX7_decide 35 = .ok (.dup, 1) := by decide +kernel
theorem dX7_decide_36 : decode cX7_decide 36 = .ok (.ldc 221, 2) := by decide +kernel
theorem dX7_decide_38 : decode cX7_decide 38 = .ok (.invokespecial 203, 3) := by decide +kernel
theorem dX7_decide_41 : decode cX7_decide 41 = .ok (.athrow, 1) := by decide +kernel
theorem dX7_decide_42 : decode cX7_decide 42 = .ok (.aload_n 2, 1) := by decide +kernel
theorem dX7_decide_43 : decode cX7_decide 43 = .ok (.getfield 185, 3) := by decide +kernel
theorem dX7_decide_46 : decode cX7_decide 46 = .ok (.bipush 101, 2) := by decide +kernel
theorem dX7_decide_48 : decode cX7_decide 48 = .ok (.if_icmp .ne 7, 3) := by decide +kernel
theorem dX7_decide_51 : decode cX7_decide 51 = .ok (.iconst 1, 1) := by decide +kernel
theorem dX7_decide_52 : decode cX7_decide 52 = .ok (.goto 4, 3) := by decide +kernel
theorem dX7_decide_55 : decode cX7_decide 55 = .ok (.iconst 0, 1) := by decide +kernel
theorem dX7_decide_56 : decode cX7_decide 56 = .ok (.istore 5, 2) := by decide +kernel
theorem dX7_decide_58 : decode cX7_decide 58 = .ok (.aload_n 0, 1) := by decide +kernel
theorem dX7_decide_59 : decode cX7_decide 59 = .ok (.aload_n 2, 1) := by decide +kernel
theorem dX7_decide_60 : decode cX7_decide 60 = .ok (.iload_n 3, 1) := by decide +kernel
theorem dX7_decide_61 : decode cX7_decide 61 = .ok (.iload 4, 2) := by decide +kernel
theorem dX7_decide_63 : decode cX7_decide 63 = .ok (.invokevirtual 181, 3) := by decide +kernel
theorem dX7_decide_66 : decode cX7_decide 66 = .ok (.istore 6, 2) := by decide +kernel
theorem dX7_decide_68 : decode cX7_decide 68 = .ok (.iload 5, 2) := by decide +kernel
theorem dX7_decide_70 : decode cX7_decide 70 = .ok (.ifCond .eq 9, 3) := by decide +kernel
theorem dX7_decide_73 : decode cX7_decide 73 = .ok (.aload_n 2, 1) := by decide +kernel
theorem dX7_decide_74 : decode cX7_decide 74 = .ok (.iload 6, 2) := by decide +kernel
theorem dX7_decide_76 : decode cX7_decide 76 = .ok (.invokestatic 223, 3) := by decide +kernel
theorem dX7_decide_79 : decode cX7_decide 79 = .ok (.iload 6, 2) := by decide +kernel
theorem dX7_decide_81 : decode cX7_decide 81 = .ok (.ireturn, 1) := by decide +kernel
theorem dX7_outcome_0 : decode cX7_outcome 0 = .ok (.aload_n 0, 1) := by decide +kernel
theorem dX7_outcome_1 : decode cX7_outcome 1 = .ok (.iload_n 1, 1) := by decide +kernel
theorem dX7_outcome_2 : decode cX7_outcome 2 = .ok (.invokevirtual 104, 3) := by decide +kernel
theorem dX7_outcome_5 : decode cX7_outcome 5 = .ok (.invokestatic 227, 3) := by decide +kernel
theorem dX7_outcome_8 : decode cX7_outcome 8 = .ok (.aload_n 0, 1) := by decide +kernel
theorem dX7_outcome_9 : decode cX7_outcome 9 = .ok (.getfield 34, 3) := by decide +kernel
theorem dX7_outcome_12 : decode cX7_outcome 12 = .ok (.iload_n 1, 1) := by decide +kernel
theorem dX7_outcome_13 : decode cX7_outcome 13 = .ok (.invokevirtual 230, 3) := by decide +kernel
theorem dX7_outcome_16 : decode cX7_outcome 16 = .ok (.ireturn, 1) := by decide +kernel
theorem dX7_outcomeAnew_0 : decode cX7_outcomeAnew 0 = .ok (.aload_n 0, 1) := by decide +kernel
theorem dX7_outcomeAnew_1 : decode cX7_outcomeAnew 1 = .ok (.iload_n 1, 1) := by decide +kernel
theorem dX7_outcomeAnew_2 : decode cX7_outcomeAnew 2 = .ok (.invokevirtual 104, 3) := by decide +kernel
theorem dX7_outcomeAnew_5 : decode cX7_outcomeAnew 5 = .ok (.invokestatic 227, 3) := by decide +kernel
theorem dX7_outcomeAnew_8 : decode cX7_outcomeAnew 8 = .ok (.aload_n 0, 1) := by decide +kernel
theorem dX7_outcomeAnew_9 : decode cX7_outcomeAnew 9 = .ok (.invokevirtual 234, 3) := by decide +kernel
theorem dX7_outcomeAnew_12 : decode cX7_outcomeAnew 12 = .ok (.aload_n 0, 1) := by decide +kernel
theorem dX7_outcomeAnew_13 : decode cX7_outcomeAnew 13 = .ok (.getfield 38, 3) := by decide +kernel
theorem dX7_outcomeAnew_16 : decode cX7_outcomeAnew 16 = .ok (.iload_n 1, 1) := by decide +kernel
theorem dX7_outcomeAnew_17 : decode cX7_outcomeAnew 17 = .ok (.invokevirtual 230, 3) := by decide +kernel
theorem dX7_outcomeAnew_20 : decode cX7_outcomeAnew 20 = .ok (.ireturn, 1) := by decide +kernel
theorem dX7_isByBot_0 : decode cX7_isByBot 0 = .ok (.aload_n 0, 1) := by decide +kernel
theorem dX7_isByBot_1 : decode cX7_isByBot 1 = .ok (.iload_n 1, 1) := by decide +kernel
theorem dX7_isByBot_2 : decode cX7_isByBot 2 = .ok (.invokevirtual 104, 3) := by decide +kernel
theorem dX7_isByBot_5 : decode cX7_isByBot 5 = .ok (.astore_n 2, 1) := by decide +kernel
theorem dX7_isByBot_6 : decode cX7_isByBot 6 = .ok (.aload_n 2, 1) := by decide +kernel
theorem dX7_isByBot_7 : decode cX7_isByBot 7 = .ok (.invokestatic 227, 3) := by decide +kernel
theorem dX7_isByBot_10 : decode cX7_isByBot 10 = .ok (.aload_n 2, 1) := by decide +kernel
theorem dX7_isByBot_11 : decode cX7_isByBot 11 = .ok (.invokevirtual 237, 3) := by decide +kernel
theorem dX7_isByBot_14 : decode cX7_isByBot 14 = .ok (.ireturn, 1) := by decide +kernel
theorem dX7_appeal_0 : decode cX7_appeal 0 = .ok (.aload_n 0, 1) := by decide +kernel
theorem dX7_appeal_1 : decode cX7_appeal 1 = .ok (.iload_n 1, 1) := by decide +kernel
theorem dX7_appeal_2 : decode cX7_appeal 2 = .ok (.invokevirtual 104, 3) := by decide +kernel
theorem dX7_appeal_5 : decode cX7_appeal 5 = .ok (.astore_n 2, 1) := by decide +kernel
theorem dX7_appeal_6 : decode cX7_appeal 6 = .ok (.aload_n 2, 1) := by decide +kernel
theorem dX7_appeal_7 : decode cX7_appeal 7 = .ok (.getfield 185, 3) := by decide +kernel
theorem dX7_appeal_10 : decode cX7_appeal 10 = .ok (.bipush 100, 2) := by decide +kernel
theorem dX7_appeal_12 : decode cX7_appeal 12 = .ok (.if_icmp .eq 13, 3) := by decide +kernel
theorem dX7_appeal_15 : decode cX7_appeal 15 = .ok (.new 86, 3) := by decide +kernel
theorem dX7_appeal_18 : decode cX7_appeal 18 = .ok (.dup, 1) := by decide +kernel
theorem dX7_appeal_19 : decode cX7_appeal 19 = .ok (.ldc 240, 2) := by decide +kernel
theorem dX7_appeal_21 : decode cX7_appeal 21 = .ok (.invokespecial 90, 3) := by decide +kernel
theorem dX7_appeal_24 : decode cX7_appeal 24 = .ok (.athrow, 1) := by decide +kernel
theorem dX7_appeal_25 : decode cX7_appeal 25 = .ok (.aload_n 2, 1) := by decide +kernel
theorem dX7_appeal_26 : decode cX7_appeal 26 = .ok (.getfield 242, 3) := by decide +kernel
theorem dX7_appeal_29 : decode cX7_appeal 29 = .ok (.ifCond .eq 13, 3) := by decide +kernel
theorem dX7_appeal_32 : decode cX7_appeal 32 = .ok (.new 199, 3) := by decide +kernel
theorem dX7_appeal_35 : decode cX7_appeal 35 = .ok (.dup, 1) := by decide +kernel
theorem dX7_appeal_36 : decode cX7_appeal 36 = .ok (.ldc 246, 2) := by decide +kernel
theorem dX7_appeal_38 : decode cX7_appeal 38 = .ok (.invokespecial 203, 3) := by decide +kernel
theorem dX7_appeal_41 : decode cX7_appeal 41 = .ok (.athrow, 1) := by decide +kernel
theorem dX7_appeal_42 : decode cX7_appeal 42 = .ok (.aload_n 2, 1) := by decide +kernel
theorem dX7_appeal_43 : decode cX7_appeal 43 = .ok (.iconst 1, 1) := by decide +kernel
theorem dX7_appeal_44 : decode cX7_appeal 44 = .ok (.putfield 242, 3) := by decide +kernel
theorem dX7_appeal_47 : decode cX7_appeal 47 = .ok (.aload_n 2, 1) := by decide +kernel
theorem dX7_appeal_48 : decode cX7_appeal 48 = .ok (.bipush 101, 2) := by decide +kernel
theorem dX7_appeal_50 : decode cX7_appeal 50 = .ok (.putfield 185, 3) := by decide +kernel
theorem dX7_appeal_53 : decode cX7_appeal 53 = .ok (.aload_n 2, 1) := by decide +kernel
theorem dX7_appeal_54 : decode cX7_appeal 54 = .ok (.aload_n 0, 1) := by decide +kernel
theorem dX7_appeal_55 : decode cX7_appeal 55 = .ok (.getfield 34, 3) := by decide +kernel
theorem dX7_appeal_58 : decode cX7_appeal 58 = .ok (.iload_n 1, 1) := by decide +kernel
theorem dX7_appeal_59 : decode cX7_appeal 59 = .ok (.invokevirtual 230, 3) := by decide +kernel
theorem dX7_appeal_62 : decode cX7_appeal 62 = .ok (.putfield 248, 3) := by decide +kernel
theorem dX7_appeal_65 : decode cX7_appeal 65 = .ok (.aload_n 0, 1) := by decide +kernel
theorem dX7_appeal_66 : decode cX7_appeal 66 = .ok (.getfield 34, 3) := by decide +kernel
theorem dX7_appeal_69 : decode cX7_appeal 69 = .ok (.iload_n 1, 1) := by decide +kernel
theorem dX7_appeal_70 : decode cX7_appeal 70 = .ok (.invokevirtual 251, 3) := by decide +kernel
theorem dX7_appeal_73 : decode cX7_appeal 73 = .ok (.aload_n 0, 1) := by decide +kernel
theorem dX7_appeal_74 : decode cX7_appeal 74 = .ok (.getfield 28, 3) := by decide +kernel
theorem dX7_appeal_77 : decode cX7_appeal 77 = .ok (.new 254, 3) := by decide +kernel
theorem dX7_appeal_80 : decode cX7_appeal 80 = .ok (.dup, 1) := by decide +kernel
theorem dX7_appeal_81 : decode cX7_appeal 81 = .ok (.aload_n 2, 1) := by decide +kernel
theorem dX7_appeal_82 : decode cX7_appeal 82 = .ok (.iconst 1, 1) := by decide +kernel
theorem dX7_appeal_83 : decode cX7_appeal 83 = .ok (.iconst 0, 1) := by decide +kernel
theorem dX7_appeal_84 : decode cX7_appeal 84 = .ok (.iconst 0, 1) := by decide +kernel
theorem dX7_appeal_85 : decode cX7_appeal 85 = .ok (.invokespecial 256, 3) := by decide +kernel
theorem dX7_appeal_88 : decode cX7_appeal 88 = .ok (.invokevirtual 65, 3) := by decide +kernel
theorem dX7_appeal_91 : decode cX7_appeal 91 = .ok (.pop, 1) := by decide +kernel
theorem dX7_appeal_92 : decode cX7_appeal 92 = .ok (.aload_n 2, 1) := by decide +kernel
theorem dX7_appeal_93 : decode cX7_appeal 93 = .ok (.getfield 259, 3) := by decide +kernel
theorem dX7_appeal_96 : decode cX7_appeal 96 = .ok (.ifnull 14, 3) := by decide +kernel
theorem dX7_appeal_99 : decode cX7_appeal 99 = .ok (.aload_n 2, 1) := by decide +kernel
theorem dX7_appeal_100 : decode cX7_appeal 100 = .ok (.getfield 259, 3) := by decide +kernel
theorem dX7_appeal_103 : decode cX7_appeal 103 = .ok (.aload_n 0, 1) := by decide +kernel
theorem dX7_appeal_104 : decode cX7_appeal 104 = .ok (.getfield 41, 3) := by decide +kernel
theorem dX7_appeal_107 : decode cX7_appeal 107 = .ok (.invokevirtual 263, 3) := by decide +kernel
theorem dX7_appeal_110 : decode cX7_appeal 110 = .ok (.aload_n 0, 1) := by decide +kernel
theorem dX7_appeal_111 : decode cX7_appeal 111 = .ok (.bipush 101, 2) := by decide +kernel
theorem dX7_appeal_113 : decode cX7_appeal 113 = .ok (.invokevirtual 266, 3) := by decide +kernel
theorem dX7_appeal_116 : decode cX7_appeal 116 = .ok (.ireturn, 1) := by decide +kernel
theorem dX7_wasReversed_0 : decode cX7_wasReversed 0 = .ok (.aload_n 0, 1) := by decide +kernel
theorem dX7_wasReversed_1 : decode cX7_wasReversed 1 = .ok (.iload_n 1, 1) := by decide +kernel
theorem dX7_wasReversed_2 : decode cX7_wasReversed 2 = .ok (.invokevirtual 104, 3) := by decide +kernel
theorem dX7_wasReversed_5 : decode cX7_wasReversed 5 = .ok (.getfield 270, 3) := by decide +kernel
theorem dX7_wasReversed_8 : decode cX7_wasReversed 8 = .ok (.ireturn, 1) := by decide +kernel
theorem dX7_today_0 : decode cX7_today 0 = .ok (.aload_n 0, 1) := by decide +kernel
theorem dX7_today_1 : decode cX7_today 1 = .ok (.getfield 41, 3) := by decide +kernel
theorem dX7_today_4 : decode cX7_today 4 = .ok (.ireturn, 1) := by decide +kernel
theorem dX7_pass_0 : decode cX7_pass 0 = .ok (.iload_n 1, 1) := by decide +kernel
theorem dX7_pass_1 : decode cX7_pass 1 = .ok (.iconst 1, 1) := by decide +kernel
theorem dX7_pass_2 : decode cX7_pass 2 = .ok (.bipush 100, 2) := by decide +kernel
theorem dX7_pass_4 : decode cX7_pass 4 = .ok (.invokestatic 48, 3) := by decide +kernel
theorem dX7_pass_7 : decode cX7_pass 7 = .ok (.aload_n 0, 1) := by decide +kernel
theorem dX7_pass_8 : decode cX7_pass 8 = .ok (.getfield 41, 3) := by decide +kernel
theorem dX7_pass_11 : decode cX7_pass 11 = .ok (.iload_n 1, 1) := by decide +kernel
theorem dX7_pass_12 : decode cX7_pass 12 = .ok (.iadd, 1) := by decide +kernel
theorem dX7_pass_13 : decode cX7_pass 13 = .ok (.sipush 1000, 3) := by decide +kernel
theorem dX7_pass_16 : decode cX7_pass 16 = .ok (.if_icmp .le 14, 3) := by decide +kernel
theorem dX7_pass_19 : decode cX7_pass 19 = .ok (.new 86, 3) := by decide +kernel
theorem dX7_pass_22 : decode cX7_pass 22 = .ok (.dup, 1) := by decide +kernel
theorem dX7_pass_23 : decode cX7_pass 23 = .ok (.ldc_w 273, 3) := by decide +kernel
theorem dX7_pass_26 : decode cX7_pass 26 = .ok (.invokespecial 90, 3) := by decide +kernel
theorem dX7_pass_29 : decode cX7_pass 29 = .ok (.athrow, 1) := by decide +kernel
theorem dX7_pass_30 : decode cX7_pass 30 = .ok (.aload_n 0, 1) := by decide +kernel
theorem dX7_pass_31 : decode cX7_pass 31 = .ok (.getfield 41, 3) := by decide +kernel
theorem dX7_pass_34 : decode cX7_pass 34 = .ok (.istore_n 2, 1) := by decide +kernel
theorem dX7_pass_35 : decode cX7_pass 35 = .ok (.aload_n 0, 1) := by decide +kernel
theorem dX7_pass_36 : decode cX7_pass 36 = .ok (.dup, 1) := by decide +kernel
theorem dX7_pass_37 : decode cX7_pass 37 = .ok (.getfield 41, 3) := by decide +kernel
theorem dX7_pass_40 : decode cX7_pass 40 = .ok (.iload_n 1, 1) := by decide +kernel
theorem dX7_pass_41 : decode cX7_pass 41 = .ok (.iadd, 1) := by decide +kernel
theorem dX7_pass_42 : decode cX7_pass 42 = .ok (.putfield 41, 3) := by decide +kernel
theorem dX7_pass_45 : decode cX7_pass 45 = .ok (.iconst 0, 1) := by decide +kernel
theorem dX7_pass_46 : decode cX7_pass 46 = .ok (.istore_n 3, 1) := by decide +kernel
theorem dX7_pass_47 : decode cX7_pass 47 = .ok (.iconst 0, 1) := by decide +kernel
theorem dX7_pass_48 : decode cX7_pass 48 = .ok (.istore 4, 2) := by decide +kernel
theorem dX7_pass_50 : decode cX7_pass 50 = .ok (.iload 4, 2) := by decide +kernel
theorem dX7_pass_52 : decode cX7_pass 52 = .ok (.aload_n 0, 1) := by decide +kernel
theorem dX7_pass_53 : decode cX7_pass 53 = .ok (.getfield 25, 3) := by decide +kernel
theorem dX7_pass_56 : decode cX7_pass 56 = .ok (.invokevirtual 52, 3) := by decide +kernel
theorem dX7_pass_59 : decode cX7_pass 59 = .ok (.if_icmp .ge 47, 3) := by decide +kernel
theorem dX7_pass_62 : decode cX7_pass 62 = .ok (.aload_n 0, 1) := by decide +kernel
theorem dX7_pass_63 : decode cX7_pass 63 = .ok (.getfield 25, 3) := by decide +kernel
theorem dX7_pass_66 : decode cX7_pass 66 = .ok (.iload 4, 2) := by decide +kernel
theorem dX7_pass_68 : decode cX7_pass 68 = .ok (.invokevirtual 117, 3) := by decide +kernel
theorem dX7_pass_71 : decode cX7_pass 71 = .ok (.checkcast 143, 3) := by decide +kernel
theorem dX7_pass_74 : decode cX7_pass 74 = .ok (.astore 5, 2) := by decide +kernel
theorem dX7_pass_76 : decode cX7_pass 76 = .ok (.aload 5, 2) := by decide +kernel
theorem dX7_pass_78 : decode cX7_pass 78 = .ok (.iload_n 2, 1) := by decide +kernel
theorem dX7_pass_79 : decode cX7_pass 79 = .ok (.invokevirtual 149, 3) := by decide +kernel
theorem dX7_pass_82 : decode cX7_pass 82 = .ok (.ifCond .eq 18, 3) := by decide +kernel
theorem dX7_pass_85 : decode cX7_pass 85 = .ok (.aload 5, 2) := by decide +kernel
theorem dX7_pass_87 : decode cX7_pass 87 = .ok (.aload_n 0, 1) := by decide +kernel
theorem dX7_pass_88 : decode cX7_pass 88 = .ok (.getfield 41, 3) := by decide +kernel
theorem dX7_pass_91 : decode cX7_pass 91 = .ok (.invokevirtual 149, 3) := by decide +kernel
theorem dX7_pass_94 : decode cX7_pass 94 = .ok (.ifCond .ne 6, 3) := by decide +kernel
theorem dX7_pass_97 : decode cX7_pass 97 = .ok (.iinc 3 1, 3) := by decide +kernel
theorem dX7_pass_100 : decode cX7_pass 100 = .ok (.iinc 4 1, 3) := by decide +kernel
theorem dX7_pass_103 : decode cX7_pass 103 = .ok (.goto (-53), 3) := by decide +kernel
theorem dX7_pass_106 : decode cX7_pass 106 = .ok (.iload_n 3, 1) := by decide +kernel
theorem dX7_pass_107 : decode cX7_pass 107 = .ok (.ireturn, 1) := by decide +kernel
theorem dX7_decisions_0 : decode cX7_decisions 0 = .ok (.aload_n 0, 1) := by decide +kernel
theorem dX7_decisions_1 : decode cX7_decisions 1 = .ok (.getfield 34, 3) := by decide +kernel
theorem dX7_decisions_4 : decode cX7_decisions 4 = .ok (.getfield 275, 3) := by decide +kernel
theorem dX7_decisions_7 : decode cX7_decisions 7 = .ok (.ireturn, 1) := by decide +kernel
theorem dX7_likeness_0 : decode cX7_likeness 0 = .ok (.aload_n 0, 1) := by decide +kernel
theorem dX7_likeness_1 : decode cX7_likeness 1 = .ok (.iload_n 1, 1) := by decide +kernel
theorem dX7_likeness_2 : decode cX7_likeness 2 = .ok (.invokevirtual 104, 3) := by decide +kernel
theorem dX7_likeness_5 : decode cX7_likeness 5 = .ok (.aload_n 0, 1) := by decide +kernel
theorem dX7_likeness_6 : decode cX7_likeness 6 = .ok (.iload_n 2, 1) := by decide +kernel
theorem dX7_likeness_7 : decode cX7_likeness 7 = .ok (.invokevirtual 104, 3) := by decide +kernel
theorem dX7_likeness_10 : decode cX7_likeness 10 = .ok (.invokestatic 278, 3) := by decide +kernel
theorem dX7_likeness_13 : decode cX7_likeness 13 = .ok (.ireturn, 1) := by decide +kernel
theorem dX7_count_0 : decode cX7_count 0 = .ok (.iload_n 1, 1) := by decide +kernel
theorem dX7_count_1 : decode cX7_count 1 = .ok (.bipush 111, 2) := by decide +kernel
theorem dX7_count_3 : decode cX7_count 3 = .ok (.if_icmp .ne 10, 3) := by decide +kernel
theorem dX7_count_6 : decode cX7_count 6 = .ok (.aload_n 0, 1) := by decide +kernel
theorem dX7_count_7 : decode cX7_count 7 = .ok (.bipush 111, 2) := by decide +kernel
theorem dX7_count_9 : decode cX7_count 9 = .ok (.invokevirtual 266, 3) := by decide +kernel
theorem dX7_count_12 : decode cX7_count 12 = .ok (.ireturn, 1) := by decide +kernel
theorem dX7_count_13 : decode cX7_count 13 = .ok (.iload_n 1, 1) := by decide +kernel
theorem dX7_count_14 : decode cX7_count 14 = .ok (.bipush 103, 2) := by decide +kernel
theorem dX7_count_16 : decode cX7_count 16 = .ok (.if_icmp .ne 8, 3) := by decide +kernel
theorem dX7_count_19 : decode cX7_count 19 = .ok (.aload_n 0, 1) := by decide +kernel
theorem dX7_count_20 : decode cX7_count 20 = .ok (.invokevirtual 282, 3) := by decide +kernel
theorem dX7_count_23 : decode cX7_count 23 = .ok (.ireturn, 1) := by decide +kernel
theorem dX7_count_24 : decode cX7_count 24 = .ok (.iload_n 1, 1) := by decide +kernel
theorem dX7_count_25 : decode cX7_count 25 = .ok (.bipush 98, 2) := by decide +kernel
theorem dX7_count_27 : decode cX7_count 27 = .ok (.if_icmp .ne 8, 3) := by decide +kernel
theorem dX7_count_30 : decode cX7_count 30 = .ok (.aload_n 0, 1) := by decide +kernel
theorem dX7_count_31 : decode cX7_count 31 = .ok (.invokevirtual 285, 3) := by decide +kernel
theorem dX7_count_34 : decode cX7_count 34 = .ok (.ireturn, 1) := by decide +kernel
theorem dX7_count_35 : decode cX7_count 35 = .ok (.iload_n 1, 1) := by decide +kernel
theorem dX7_count_36 : decode cX7_count 36 = .ok (.bipush 114, 2) := by decide +kernel
theorem dX7_count_38 : decode cX7_count 38 = .ok (.if_icmp .ne 8, 3) := by decide +kernel
theorem dX7_count_41 : decode cX7_count 41 = .ok (.aload_n 0, 1) := by decide +kernel
theorem dX7_count_42 : decode cX7_count 42 = .ok (.invokevirtual 288, 3) := by decide +kernel
theorem dX7_count_45 : decode cX7_count 45 = .ok (.ireturn, 1) := by decide +kernel
theorem dX7_count_46 : decode cX7_count 46 = .ok (.new 163, 3) := by decide +kernel
theorem dX7_count_49 : decode cX7_count 49 = .ok (.dup, 1) := by decide +kernel
theorem dX7_count_50 : decode cX7_count 50 = .ok (.ldc_w 291, 3) := by decide +kernel
theorem dX7_count_53 : decode cX7_count 53 = .ok (.invokespecial 167, 3) := by decide +kernel
theorem dX7_count_56 : decode cX7_count 56 = .ok (.athrow, 1) := by decide +kernel
theorem dX7_meanEvidence_0 : decode cX7_meanEvidence 0 = .ok (.aload_n 0, 1) := by decide +kernel
theorem dX7_meanEvidence_1 : decode cX7_meanEvidence 1 = .ok (.invokevirtual 282, 3) := by decide +kernel
theorem dX7_meanEvidence_4 : decode cX7_meanEvidence 4 = .ok (.istore_n 1, 1) := by decide +kernel
theorem dX7_meanEvidence_5 : decode cX7_meanEvidence 5 = .ok (.iload_n 1, 1) := by decide +kernel
theorem dX7_meanEvidence_6 : decode cX7_meanEvidence 6 = .ok (.ifCond .ne 14, 3) := by decide +kernel
theorem dX7_meanEvidence_9 : decode cX7_meanEvidence 9 = .ok (.new 293, 3) := by decide +kernel
theorem dX7_meanEvidence_12 : decode cX7_meanEvidence 12 = .ok (.dup, 1) := by decide +kernel
theorem dX7_meanEvidence_13 : decode cX7_meanEvidence 13 = .ok (.ldc_w 295, 3) := by decide +kernel
theorem dX7_meanEvidence_16 : decode cX7_meanEvidence 16 = .ok (.invokespecial 297, 3) := by decide +kernel
theorem dX7_meanEvidence_19 : decode cX7_meanEvidence 19 = .ok (.athrow, 1) := by decide +kernel
theorem dX7_meanEvidence_20 : decode cX7_meanEvidence 20 = .ok (.iconst 0, 1) := by decide +kernel
theorem dX7_meanEvidence_21 : decode cX7_meanEvidence 21 = .ok (.istore_n 2, 1) := by decide +kernel
theorem dX7_meanEvidence_22 : decode cX7_meanEvidence 22 = .ok (.iconst 0, 1) := by decide +kernel
theorem dX7_meanEvidence_23 : decode cX7_meanEvidence 23 = .ok (.istore_n 3, 1) := by decide +kernel
theorem dX7_meanEvidence_24 : decode cX7_meanEvidence 24 = .ok (.iload_n 3, 1) := by decide +kernel
theorem dX7_meanEvidence_25 : decode cX7_meanEvidence 25 = .ok (.aload_n 0, 1) := by decide +kernel
theorem dX7_meanEvidence_26 : decode cX7_meanEvidence 26 = .ok (.getfield 22, 3) := by decide +kernel
theorem dX7_meanEvidence_29 : decode cX7_meanEvidence 29 = .ok (.invokevirtual 52, 3) := by decide +kernel
theorem dX7_meanEvidence_32 : decode cX7_meanEvidence 32 = .ok (.if_icmp .ge 39, 3) := by decide +kernel
theorem dX7_meanEvidence_35 : decode cX7_meanEvidence 35 = .ok (.aload_n 0, 1) := by decide +kernel
theorem dX7_meanEvidence_36 : decode cX7_meanEvidence 36 = .ok (.getfield 34, 3) := by decide +kernel
theorem dX7_meanEvidence_39 : decode cX7_meanEvidence 39 = .ok (.iload_n 3, 1) := by decide +kernel
theorem dX7_meanEvidence_40 : decode cX7_meanEvidence 40 = .ok (.invokevirtual 230, 3) := by decide +kernel
theorem dX7_meanEvidence_43 : decode cX7_meanEvidence 43 = .ok (.bipush 103, 2) := by decide +kernel
theorem dX7_meanEvidence_45 : decode cX7_meanEvidence 45 = .ok (.if_icmp .ne 20, 3) := by decide +kernel
theorem dX7_meanEvidence_48 : decode cX7_meanEvidence 48 = .ok (.iload_n 2, 1) := by decide +kernel
theorem dX7_meanEvidence_49 : decode cX7_meanEvidence 49 = .ok (.aload_n 0, 1) := by decide +kernel
theorem dX7_meanEvidence_50 : decode cX7_meanEvidence 50 = .ok (.getfield 22, 3) := by decide +kernel
theorem dX7_meanEvidence_53 : decode cX7_meanEvidence 53 = .ok (.iload_n 3, 1) := by decide +kernel
theorem dX7_meanEvidence_54 : decode cX7_meanEvidence 54 = .ok (.invokevirtual 117, 3) := by decide +kernel
theorem dX7_meanEvidence_57 : decode cX7_meanEvidence 57 = .ok (.checkcast 168, 3) := by decide +kernel
theorem dX7_meanEvidence_60 : decode cX7_meanEvidence 60 = .ok (.getfield 298, 3) := by decide +kernel
theorem dX7_meanEvidence_63 : decode cX7_meanEvidence 63 = .ok (.iadd, 1) := by decide +kernel
theorem dX7_meanEvidence_64 : decode cX7_meanEvidence 64 = .ok (.istore_n 2, 1) := by decide +kernel
theorem dX7_meanEvidence_65 : decode cX7_meanEvidence 65 = .ok (.iinc 3 1, 3) := by decide +kernel
theorem dX7_meanEvidence_68 : decode cX7_meanEvidence 68 = .ok (.goto (-44), 3) := by decide +kernel
theorem dX7_meanEvidence_71 : decode cX7_meanEvidence 71 = .ok (.iload_n 2, 1) := by decide +kernel
theorem dX7_meanEvidence_72 : decode cX7_meanEvidence 72 = .ok (.i2d, 1) := by decide +kernel
theorem dX7_meanEvidence_73 : decode cX7_meanEvidence 73 = .ok (.iload_n 1, 1) := by decide +kernel
theorem dX7_meanEvidence_74 : decode cX7_meanEvidence 74 = .ok (.i2d, 1) := by decide +kernel
theorem dX7_meanEvidence_75 : decode cX7_meanEvidence 75 = .ok (.ddiv, 1) := by decide +kernel
theorem dX7_meanEvidence_76 : decode cX7_meanEvidence 76 = .ok (.dreturn, 1) := by decide +kernel
theorem dX7_reversedShare_0 : decode cX7_reversedShare 0 = .ok (.iconst 0, 1) := by decide +kernel
theorem dX7_reversedShare_1 : decode cX7_reversedShare 1 = .ok (.istore_n 1, 1) := by decide +kernel
theorem dX7_reversedShare_2 : decode cX7_reversedShare 2 = .ok (.iconst 0, 1) := by decide +kernel
theorem dX7_reversedShare_3 : decode cX7_reversedShare 3 = .ok (.istore_n 2, 1) := by decide +kernel
theorem dX7_reversedShare_4 : decode cX7_reversedShare 4 = .ok (.iload_n 2, 1) := by decide +kernel
theorem dX7_reversedShare_5 : decode cX7_reversedShare 5 = .ok (.aload_n 0, 1) := by decide +kernel
theorem dX7_reversedShare_6 : decode cX7_reversedShare 6 = .ok (.getfield 22, 3) := by decide +kernel
theorem dX7_reversedShare_9 : decode cX7_reversedShare 9 = .ok (.invokevirtual 52, 3) := by decide +kernel
theorem dX7_reversedShare_12 : decode cX7_reversedShare 12 = .ok (.if_icmp .ge 29, 3) := by decide +kernel
theorem dX7_reversedShare_15 : decode cX7_reversedShare 15 = .ok (.aload_n 0, 1) := by decide +kernel
theorem dX7_reversedShare_16 : decode cX7_reversedShare 16 = .ok (.getfield 22, 3) := by decide +kernel
theorem dX7_reversedShare_19 : decode cX7_reversedShare 19 = .ok (.iload_n 2, 1) := by decide +kernel
theorem dX7_reversedShare_20 : decode cX7_reversedShare 20 = .ok (.invokevirtual 117, 3) := by decide +kernel
theorem dX7_reversedShare_23 : decode cX7_reversedShare 23 = .ok (.checkcast 168, 3) := by decide +kernel
theorem dX7_reversedShare_26 : decode cX7_reversedShare 26 = .ok (.invokevirtual 301, 3) := by decide +kernel
theorem dX7_reversedShare_29 : decode cX7_reversedShare 29 = .ok (.ifCond .eq 6, 3) := by decide +kernel
theorem dX7_reversedShare_32 : decode cX7_reversedShare 32 = .ok (.iinc 1 1, 3) := by decide +kernel
theorem dX7_reversedShare_35 : decode cX7_reversedShare 35 = .ok (.iinc 2 1, 3) := by decide +kernel
theorem dX7_reversedShare_38 : decode cX7_reversedShare 38 = .ok (.goto (-34), 3) := by decide +kernel
theorem dX7_reversedShare_41 : decode cX7_reversedShare 41 = .ok (.iload_n 1, 1) := by decide +kernel
theorem dX7_reversedShare_42 : decode cX7_reversedShare 42 = .ok (.ifCond .ne 14, 3) := by decide +kernel
theorem dX7_reversedShare_45 : decode cX7_reversedShare 45 = .ok (.new 293, 3) := by decide +kernel
theorem dX7_reversedShare_48 : decode cX7_reversedShare 48 = .ok (.dup, 1) := by decide +kernel
theorem dX7_reversedShare_49 : decode cX7_reversedShare 49 = .ok (.ldc_w 304, 3) := by decide +kernel
theorem dX7_reversedShare_52 : decode cX7_reversedShare 52 = .ok (.invokespecial 297, 3) := by decide +kernel
theorem dX7_reversedShare_55 : decode cX7_reversedShare 55 = .ok (.athrow, 1) := by decide +kernel
theorem dX7_reversedShare_56 : decode cX7_reversedShare 56 = .ok (.aload_n 0, 1) := by decide +kernel
theorem dX7_reversedShare_57 : decode cX7_reversedShare 57 = .ok (.invokevirtual 288, 3) := by decide +kernel
theorem dX7_reversedShare_60 : decode cX7_reversedShare 60 = .ok (.i2f, 1) := by decide +kernel
theorem dX7_reversedShare_61 : decode cX7_reversedShare 61 = .ok (.iload_n 1, 1) := by decide +kernel
theorem dX7_reversedShare_62 : decode cX7_reversedShare 62 = .ok (.i2f, 1) := by decide +kernel
theorem dX7_reversedShare_63 : decode cX7_reversedShare 63 = .ok (.fdiv, 1) := by decide +kernel
theorem dX7_reversedShare_64 : decode cX7_reversedShare 64 = .ok (.freturn, 1) := by decide +kernel
theorem dX7_sanctionDays_0 : decode cX7_sanctionDays 0 = .ok (.lconst 0, 1) := by decide +kernel
theorem dX7_sanctionDays_1 : decode cX7_sanctionDays 1 = .ok (.lstore_n 1, 1) := by decide +kernel
theorem dX7_sanctionDays_2 : decode cX7_sanctionDays 2 = .ok (.iconst 0, 1) := by decide +kernel
theorem dX7_sanctionDays_3 : decode cX7_sanctionDays 3 = .ok (.istore_n 3, 1) := by decide +kernel
theorem dX7_sanctionDays_4 : decode cX7_sanctionDays 4 = .ok (.iload_n 3, 1) := by decide +kernel
theorem dX7_sanctionDays_5 : decode cX7_sanctionDays 5 = .ok (.aload_n 0, 1) := by decide +kernel
theorem dX7_sanctionDays_6 : decode cX7_sanctionDays 6 = .ok (.getfield 25, 3) := by decide +kernel
theorem dX7_sanctionDays_9 : decode cX7_sanctionDays 9 = .ok (.invokevirtual 52, 3) := by decide +kernel
theorem dX7_sanctionDays_12 : decode cX7_sanctionDays 12 = .ok (.if_icmp .ge 31, 3) := by decide +kernel
theorem dX7_sanctionDays_15 : decode cX7_sanctionDays 15 = .ok (.lload_n 1, 1) := by decide +kernel
theorem dX7_sanctionDays_16 : decode cX7_sanctionDays 16 = .ok (.aload_n 0, 1) := by decide +kernel
theorem dX7_sanctionDays_17 : decode cX7_sanctionDays 17 = .ok (.getfield 25, 3) := by decide +kernel
theorem dX7_sanctionDays_20 : decode cX7_sanctionDays 20 = .ok (.iload_n 3, 1) := by decide +kernel
theorem dX7_sanctionDays_21 : decode cX7_sanctionDays 21 = .ok (.invokevirtual 117, 3) := by decide +kernel
theorem dX7_sanctionDays_24 : decode cX7_sanctionDays 24 = .ok (.checkcast 143, 3) := by decide +kernel
theorem dX7_sanctionDays_27 : decode cX7_sanctionDays 27 = .ok (.aload_n 0, 1) := by decide +kernel
theorem dX7_sanctionDays_28 : decode cX7_sanctionDays 28 = .ok (.getfield 41, 3) := by decide +kernel
theorem dX7_sanctionDays_31 : decode cX7_sanctionDays 31 = .ok (.invokevirtual 306, 3) := by decide +kernel
theorem dX7_sanctionDays_34 : decode cX7_sanctionDays 34 = .ok (.i2l, 1) := by decide +kernel
theorem dX7_sanctionDays_35 : decode cX7_sanctionDays 35 = .ok (.ladd, 1) := by decide +kernel
theorem dX7_sanctionDays_36 : decode cX7_sanctionDays 36 = .ok (.lstore_n 1, 1) := by decide +kernel
theorem dX7_sanctionDays_37 : decode cX7_sanctionDays 37 = .ok (.iinc 3 1, 3) := by decide +kernel
theorem dX7_sanctionDays_40 : decode cX7_sanctionDays 40 = .ok (.goto (-36), 3) := by decide +kernel
theorem dX7_sanctionDays_43 : decode cX7_sanctionDays 43 = .ok (.lload_n 1, 1) := by decide +kernel
theorem dX7_sanctionDays_44 : decode cX7_sanctionDays 44 = .ok (.lreturn, 1) := by decide +kernel
theorem dX7_isConsistent_0 : decode cX7_isConsistent 0 = .ok (.aload_n 0, 1) := by decide +kernel
theorem dX7_isConsistent_1 : decode cX7_isConsistent 1 = .ok (.invokevirtual 234, 3) := by decide +kernel
theorem dX7_isConsistent_4 : decode cX7_isConsistent 4 = .ok (.iconst 0, 1) := by decide +kernel
theorem dX7_isConsistent_5 : decode cX7_isConsistent 5 = .ok (.istore_n 1, 1) := by decide +kernel
theorem dX7_isConsistent_6 : decode cX7_isConsistent 6 = .ok (.iload_n 1, 1) := by decide +kernel
theorem dX7_isConsistent_7 : decode cX7_isConsistent 7 = .ok (.aload_n 0, 1) := by decide +kernel
theorem dX7_isConsistent_8 : decode cX7_isConsistent 8 = .ok (.getfield 22, 3) := by decide +kernel
theorem dX7_isConsistent_11 : decode cX7_isConsistent 11 = .ok (.invokevirtual 52, 3) := by decide +kernel
theorem dX7_isConsistent_14 : decode cX7_isConsistent 14 = .ok (.if_icmp .ge 79, 3) := by decide +kernel
theorem dX7_isConsistent_17 : decode cX7_isConsistent 17 = .ok (.aload_n 0, 1) := by decide +kernel
theorem dX7_isConsistent_18 : decode cX7_isConsistent 18 = .ok (.getfield 22, 3) := by decide +kernel
theorem dX7_isConsistent_21 : decode cX7_isConsistent 21 = .ok (.iload_n 1, 1) := by decide +kernel
theorem dX7_isConsistent_22 : decode cX7_isConsistent 22 = .ok (.invokevirtual 117, 3) := by decide +kernel
theorem dX7_isConsistent_25 : decode cX7_isConsistent 25 = .ok (.checkcast 168, 3) := by decide +kernel
theorem dX7_isConsistent_28 : decode cX7_isConsistent 28 = .ok (.getfield 185, 3) := by decide +kernel
theorem dX7_isConsistent_31 : decode cX7_isConsistent 31 = .ok (.bipush 100, 2) := by decide +kernel
theorem dX7_isConsistent_33 : decode cX7_isConsistent 33 = .ok (.if_icmp .ne 7, 3) := by decide +kernel
theorem dX7_isConsistent_36 : decode cX7_isConsistent 36 = .ok (.iconst 1, 1) := by decide +kernel
theorem dX7_isConsistent_37 : decode cX7_isConsistent 37 = .ok (.goto 4, 3) := by decide +kernel
theorem dX7_isConsistent_40 : decode cX7_isConsistent 40 = .ok (.iconst 0, 1) := by decide +kernel
theorem dX7_isConsistent_41 : decode cX7_isConsistent 41 = .ok (.istore_n 2, 1) := by decide +kernel
theorem dX7_isConsistent_42 : decode cX7_isConsistent 42 = .ok (.aload_n 0, 1) := by decide +kernel
theorem dX7_isConsistent_43 : decode cX7_isConsistent 43 = .ok (.getfield 34, 3) := by decide +kernel
theorem dX7_isConsistent_46 : decode cX7_isConsistent 46 = .ok (.iload_n 1, 1) := by decide +kernel
theorem dX7_isConsistent_47 : decode cX7_isConsistent 47 = .ok (.invokevirtual 230, 3) := by decide +kernel
theorem dX7_isConsistent_50 : decode cX7_isConsistent 50 = .ok (.bipush 45, 2) := by decide +kernel
theorem dX7_isConsistent_52 : decode cX7_isConsistent 52 = .ok (.if_icmp .eq 7, 3) := by decide +kernel
theorem dX7_isConsistent_55 : decode cX7_isConsistent 55 = .ok (.iconst 1, 1) := by decide +kernel
theorem dX7_isConsistent_56 : decode cX7_isConsistent 56 = .ok (.goto 4, 3) := by decide +kernel
theorem dX7_isConsistent_59 : decode cX7_isConsistent 59 = .ok (.iconst 0, 1) := by decide +kernel
theorem dX7_isConsistent_60 : decode cX7_isConsistent 60 = .ok (.istore_n 3, 1) := by decide +kernel
theorem dX7_isConsistent_61 : decode cX7_isConsistent 61 = .ok (.iload_n 2, 1) := by decide +kernel
theorem dX7_isConsistent_62 : decode cX7_isConsistent 62 = .ok (.iload_n 3, 1) := by decide +kernel
theorem dX7_isConsistent_63 : decode cX7_isConsistent 63 = .ok (.if_icmp .ne 22, 3) := by decide +kernel
theorem dX7_isConsistent_66 : decode cX7_isConsistent 66 = .ok (.aload_n 0, 1) := by decide +kernel
theorem dX7_isConsistent_67 : decode cX7_isConsistent 67 = .ok (.getfield 34, 3) := by decide +kernel
theorem dX7_isConsistent_70 : decode cX7_isConsistent 70 = .ok (.iload_n 1, 1) := by decide +kernel
theorem dX7_isConsistent_71 : decode cX7_isConsistent 71 = .ok (.invokevirtual 230, 3) := by decide +kernel
theorem dX7_isConsistent_74 : decode cX7_isConsistent 74 = .ok (.aload_n 0, 1) := by decide +kernel
theorem dX7_isConsistent_75 : decode cX7_isConsistent 75 = .ok (.getfield 38, 3) := by decide +kernel
theorem dX7_isConsistent_78 : decode cX7_isConsistent 78 = .ok (.iload_n 1, 1) := by decide +kernel
theorem dX7_isConsistent_79 : decode cX7_isConsistent 79 = .ok (.invokevirtual 230, 3) := by decide +kernel
theorem dX7_isConsistent_82 : decode cX7_isConsistent 82 = .ok (.if_icmp .eq 5, 3) := by decide +kernel
theorem dX7_isConsistent_85 : decode cX7_isConsistent 85 = .ok (.iconst 0, 1) := by decide +kernel
theorem dX7_isConsistent_86 : decode cX7_isConsistent 86 = .ok (.ireturn, 1) := by decide +kernel
theorem dX7_isConsistent_87 : decode cX7_isConsistent 87 = .ok (.iinc 1 1, 3) := by decide +kernel
theorem dX7_isConsistent_90 : decode cX7_isConsistent 90 = .ok (.goto (-84), 3) := by decide +kernel
theorem dX7_isConsistent_93 : decode cX7_isConsistent 93 = .ok (.iconst 0, 1) := by decide +kernel
theorem dX7_isConsistent_94 : decode cX7_isConsistent 94 = .ok (.istore_n 1, 1) := by decide +kernel
theorem dX7_isConsistent_95 : decode cX7_isConsistent 95 = .ok (.iload_n 1, 1) := by decide +kernel
theorem dX7_isConsistent_96 : decode cX7_isConsistent 96 = .ok (.aload_n 0, 1) := by decide +kernel
theorem dX7_isConsistent_97 : decode cX7_isConsistent 97 = .ok (.getfield 19, 3) := by decide +kernel
theorem dX7_isConsistent_100 : decode cX7_isConsistent 100 = .ok (.invokevirtual 52, 3) := by decide +kernel
theorem dX7_isConsistent_103 : decode cX7_isConsistent 103 = .ok (.if_icmp .ge 38, 3) := by decide +kernel
theorem dX7_isConsistent_106 : decode cX7_isConsistent 106 = .ok (.aload_n 0, 1) := by decide +kernel
theorem dX7_isConsistent_107 : decode cX7_isConsistent 107 = .ok (.getfield 19, 3) := by decide +kernel
theorem dX7_isConsistent_110 : decode cX7_isConsistent 110 = .ok (.iload_n 1, 1) := by decide +kernel
theorem dX7_isConsistent_111 : decode cX7_isConsistent 111 = .ok (.invokevirtual 117, 3) := by decide +kernel
theorem dX7_isConsistent_114 : decode cX7_isConsistent 114 = .ok (.checkcast 153, 3) := by decide +kernel
theorem dX7_isConsistent_117 : decode cX7_isConsistent 117 = .ok (.getfield 160, 3) := by decide +kernel
theorem dX7_isConsistent_120 : decode cX7_isConsistent 120 = .ok (.istore_n 2, 1) := by decide +kernel
theorem dX7_isConsistent_121 : decode cX7_isConsistent 121 = .ok (.iload_n 2, 1) := by decide +kernel
theorem dX7_isConsistent_122 : decode cX7_isConsistent 122 = .ok (.bipush 50, 2) := by decide +kernel
theorem dX7_isConsistent_124 : decode cX7_isConsistent 124 = .ok (.if_icmp .lt 9, 3) := by decide +kernel
theorem dX7_isConsistent_127 : decode cX7_isConsistent 127 = .ok (.iload_n 2, 1) := by decide +kernel
theorem dX7_isConsistent_128 : decode cX7_isConsistent 128 = .ok (.bipush 100, 2) := by decide +kernel
theorem dX7_isConsistent_130 : decode cX7_isConsistent 130 = .ok (.if_icmp .le 5, 3) := by decide +kernel
theorem dX7_isConsistent_133 : decode cX7_isConsistent 133 = .ok (.iconst 0, 1) := by decide +kernel
theorem dX7_isConsistent_134 : decode cX7_isConsistent 134 = .ok (.ireturn, 1) := by decide +kernel
theorem dX7_isConsistent_135 : decode cX7_isConsistent 135 = .ok (.iinc 1 1, 3) := by decide +kernel
theorem dX7_isConsistent_138 : decode cX7_isConsistent 138 = .ok (.goto (-43), 3) := by decide +kernel
theorem dX7_isConsistent_141 : decode cX7_isConsistent 141 = .ok (.aload_n 0, 1) := by decide +kernel
theorem dX7_isConsistent_142 : decode cX7_isConsistent 142 = .ok (.getfield 34, 3) := by decide +kernel
theorem dX7_isConsistent_145 : decode cX7_isConsistent 145 = .ok (.getfield 275, 3) := by decide +kernel
theorem dX7_isConsistent_148 : decode cX7_isConsistent 148 = .ok (.aload_n 0, 1) := by decide +kernel
theorem dX7_isConsistent_149 : decode cX7_isConsistent 149 = .ok (.getfield 38, 3) := by decide +kernel
theorem dX7_isConsistent_152 : decode cX7_isConsistent 152 = .ok (.getfield 275, 3) := by decide +kernel
theorem dX7_isConsistent_155 : decode cX7_isConsistent 155 = .ok (.if_icmp .ne 7, 3) := by decide +kernel
theorem dX7_isConsistent_158 : decode cX7_isConsistent 158 = .ok (.iconst 1, 1) := by decide +kernel
theorem dX7_isConsistent_159 : decode cX7_isConsistent 159 = .ok (.goto 4, 3) := by decide +kernel
theorem dX7_isConsistent_162 : decode cX7_isConsistent 162 = .ok (.iconst 0, 1) := by decide +kernel
theorem dX7_isConsistent_163 : decode cX7_isConsistent 163 = .ok (.ireturn, 1) := by decide +kernel
theorem dX7_requireWithin_0 : decode cX7_requireWithin 0 = .ok (.iload_n 0, 1) := by decide +kernel
theorem dX7_requireWithin_1 : decode cX7_requireWithin 1 = .ok (.iload_n 1, 1) := by decide +kernel
theorem dX7_requireWithin_2 : decode cX7_requireWithin 2 = .ok (.if_icmp .lt 8, 3) := by decide +kernel
theorem dX7_requireWithin_5 : decode cX7_requireWithin 5 = .ok (.iload_n 0, 1) := by decide +kernel
theorem dX7_requireWithin_6 : decode cX7_requireWithin 6 = .ok (.iload_n 2, 1) := by decide +kernel
theorem dX7_requireWithin_7 : decode cX7_requireWithin 7 = .ok (.if_icmp .le 14, 3) := by decide +kernel
theorem dX7_requireWithin_10 : decode cX7_requireWithin 10 = .ok (.new 163, 3) := by decide +kernel
theorem dX7_requireWithin_13 : decode cX7_requireWithin 13 = .ok (.dup, 1) := by decide +kernel
theorem dX7_requireWithin_14 : decode cX7_requireWithin 14 = .ok (.ldc_w 309, 3) := by decide +kernel
theorem dX7_requireWithin_17 : decode cX7_requireWithin 17 = .ok (.invokespecial 167, 3) := by decide +kernel
theorem dX7_requireWithin_20 : decode cX7_requireWithin 20 = .ok (.athrow, 1) := by decide +kernel
theorem dX7_requireWithin_21 : decode cX7_requireWithin 21 = .ok (.return_, 1) := by decide +kernel
theorem dX7_requireRoom_0 : decode cX7_requireRoom 0 = .ok (.iload_n 0, 1) := by decide +kernel
theorem dX7_requireRoom_1 : decode cX7_requireRoom 1 = .ok (.iload_n 1, 1) := by decide +kernel
theorem dX7_requireRoom_2 : decode cX7_requireRoom 2 = .ok (.if_icmp .lt 14, 3) := by decide +kernel
theorem dX7_requireRoom_5 : decode cX7_requireRoom 5 = .ok (.new 86, 3) := by decide +kernel
theorem dX7_requireRoom_8 : decode cX7_requireRoom 8 = .ok (.dup, 1) := by decide +kernel
theorem dX7_requireRoom_9 : decode cX7_requireRoom 9 = .ok (.ldc_w 311, 3) := by decide +kernel
theorem dX7_requireRoom_12 : decode cX7_requireRoom 12 = .ok (.invokespecial 90, 3) := by decide +kernel
theorem dX7_requireRoom_15 : decode cX7_requireRoom 15 = .ok (.athrow, 1) := by decide +kernel
theorem dX7_requireRoom_16 : decode cX7_requireRoom 16 = .ok (.return_, 1) := by decide +kernel
theorem dX7_requireIndex_0 : decode cX7_requireIndex 0 = .ok (.iload_n 0, 1) := by decide +kernel
theorem dX7_requireIndex_1 : decode cX7_requireIndex 1 = .ok (.ifCond .lt 8, 3) := by decide +kernel
theorem dX7_requireIndex_4 : decode cX7_requireIndex 4 = .ok (.iload_n 0, 1) := by decide +kernel
theorem dX7_requireIndex_5 : decode cX7_requireIndex 5 = .ok (.iload_n 1, 1) := by decide +kernel
theorem dX7_requireIndex_6 : decode cX7_requireIndex 6 = .ok (.if_icmp .lt 14, 3) := by decide +kernel
theorem dX7_requireIndex_9 : decode cX7_requireIndex 9 = .ok (.new 313, 3) := by decide +kernel
theorem dX7_requireIndex_12 : decode cX7_requireIndex 12 = .ok (.dup, 1) := by decide +kernel
theorem dX7_requireIndex_13 : decode cX7_requireIndex 13 = .ok (.ldc_w 315, 3) := by decide +kernel
theorem dX7_requireIndex_16 : decode cX7_requireIndex 16 = .ok (.invokespecial 317, 3) := by decide +kernel
theorem dX7_requireIndex_19 : decode cX7_requireIndex 19 = .ok (.athrow, 1) := by decide +kernel
theorem dX7_requireIndex_20 : decode cX7_requireIndex 20 = .ok (.return_, 1) := by decide +kernel
theorem dX7_requireUndecided_0 : decode cX7_requireUndecided 0 = .ok (.aload_n 0, 1) := by decide +kernel
theorem dX7_requireUndecided_1 : decode cX7_requireUndecided 1 = .ok (.getfield 185, 3) := by decide +kernel
theorem dX7_requireUndecided_4 : decode cX7_requireUndecided 4 = .ok (.bipush 100, 2) := by decide +kernel
theorem dX7_requireUndecided_6 : decode cX7_requireUndecided 6 = .ok (.if_icmp .ne 14, 3) := by decide +kernel
theorem dX7_requireUndecided_9 : decode cX7_requireUndecided 9 = .ok (.new 86, 3) := by decide +kernel
theorem dX7_requireUndecided_12 : decode cX7_requireUndecided 12 = .ok (.dup, 1) := by decide +kernel
theorem dX7_requireUndecided_13 : decode cX7_requireUndecided 13 = .ok (.ldc_w 318, 3) := by decide +kernel
theorem dX7_requireUndecided_16 : decode cX7_requireUndecided 16 = .ok (.invokespecial 90, 3) := by decide +kernel
theorem dX7_requireUndecided_19 : decode cX7_requireUndecided 19 = .ok (.athrow, 1) := by decide +kernel
theorem dX7_requireUndecided_20 : decode cX7_requireUndecided 20 = .ok (.return_, 1) := by decide +kernel
theorem dX7_requireStanding_0 : decode cX7_requireStanding 0 = .ok (.aload_n 0, 1) := by decide +kernel
theorem dX7_requireStanding_1 : decode cX7_requireStanding 1 = .ok (.getfield 185, 3) := by decide +kernel
theorem dX7_requireStanding_4 : decode cX7_requireStanding 4 = .ok (.bipush 100, 2) := by decide +kernel
theorem dX7_requireStanding_6 : decode cX7_requireStanding 6 = .ok (.if_icmp .eq 14, 3) := by decide +kernel
theorem dX7_requireStanding_9 : decode cX7_requireStanding 9 = .ok (.new 112, 3) := by decide +kernel
theorem dX7_requireStanding_12 : decode cX7_requireStanding 12 = .ok (.dup, 1) := by decide +kernel
theorem dX7_requireStanding_13 : decode cX7_requireStanding 13 = .ok (.ldc_w 320, 3) := by decide +kernel
theorem dX7_requireStanding_16 : decode cX7_requireStanding 16 = .ok (.invokespecial 116, 3) := by decide +kernel
theorem dX7_requireStanding_19 : decode cX7_requireStanding 19 = .ok (.athrow, 1) := by decide +kernel
theorem dX7_requireStanding_20 : decode cX7_requireStanding 20 = .ok (.return_, 1) := by decide +kernel
theorem dX7_ruleAt_0 : decode cX7_ruleAt 0 = .ok (.iload_n 1, 1) := by decide +kernel
theorem dX7_ruleAt_1 : decode cX7_ruleAt 1 = .ok (.aload_n 0, 1) := by decide +kernel
theorem dX7_ruleAt_2 : decode cX7_ruleAt 2 = .ok (.getfield 10, 3) := by decide +kernel
theorem dX7_ruleAt_5 : decode cX7_ruleAt 5 = .ok (.invokevirtual 52, 3) := by decide +kernel
theorem dX7_ruleAt_8 : decode cX7_ruleAt 8 = .ok (.invokestatic 157, 3) := by decide +kernel
theorem dX7_ruleAt_11 : decode cX7_ruleAt 11 = .ok (.aload_n 0, 1) := by decide +kernel
theorem dX7_ruleAt_12 : decode cX7_ruleAt 12 = .ok (.getfield 10, 3) := by decide +kernel
theorem dX7_ruleAt_15 : decode cX7_ruleAt 15 = .ok (.iload_n 1, 1) := by decide +kernel
theorem dX7_ruleAt_16 : decode cX7_ruleAt 16 = .ok (.invokevirtual 117, 3) := by decide +kernel
theorem dX7_ruleAt_19 : decode cX7_ruleAt 19 = .ok (.checkcast 60, 3) := by decide +kernel
theorem dX7_ruleAt_22 : decode cX7_ruleAt 22 = .ok (.areturn, 1) := by decide +kernel
theorem dX7_userAt_0 : decode cX7_userAt 0 = .ok (.iload_n 1, 1) := by decide +kernel
theorem dX7_userAt_1 : decode cX7_userAt 1 = .ok (.aload_n 0, 1) := by decide +kernel
theorem dX7_userAt_2 : decode cX7_userAt 2 = .ok (.getfield 16, 3) := by decide +kernel
theorem dX7_userAt_5 : decode cX7_userAt 5 = .ok (.invokevirtual 52, 3) := by decide +kernel
theorem dX7_userAt_8 : decode cX7_userAt 8 = .ok (.invokestatic 157, 3) := by decide +kernel
theorem dX7_userAt_11 : decode cX7_userAt 11 = .ok (.aload_n 0, 1) := by decide +kernel
theorem dX7_userAt_12 : decode cX7_userAt 12 = .ok (.getfield 16, 3) := by decide +kernel
theorem dX7_userAt_15 : decode cX7_userAt 15 = .ok (.iload_n 1, 1) := by decide +kernel
theorem dX7_userAt_16 : decode cX7_userAt 16 = .ok (.invokevirtual 117, 3) := by decide +kernel
theorem dX7_userAt_19 : decode cX7_userAt 19 = .ok (.checkcast 125, 3) := by decide +kernel
theorem dX7_userAt_22 : decode cX7_userAt 22 = .ok (.areturn, 1) := by decide +kernel
theorem dX7_reportAt_0 : decode cX7_reportAt 0 = .ok (.iload_n 1, 1) := by decide +kernel
theorem dX7_reportAt_1 : decode cX7_reportAt 1 = .ok (.aload_n 0, 1) := by decide +kernel
theorem dX7_reportAt_2 : decode cX7_reportAt 2 = .ok (.getfield 22, 3) := by decide +kernel
theorem dX7_reportAt_5 : decode cX7_reportAt 5 = .ok (.invokevirtual 52, 3) := by decide +kernel
theorem dX7_reportAt_8 : decode cX7_reportAt 8 = .ok (.invokestatic 157, 3) := by decide +kernel
theorem dX7_reportAt_11 : decode cX7_reportAt 11 = .ok (.aload_n 0, 1) := by decide +kernel
theorem dX7_reportAt_12 : decode cX7_reportAt 12 = .ok (.getfield 22, 3) := by decide +kernel
theorem dX7_reportAt_15 : decode cX7_reportAt 15 = .ok (.iload_n 1, 1) := by decide +kernel
theorem dX7_reportAt_16 : decode cX7_reportAt 16 = .ok (.invokevirtual 117, 3) := by decide +kernel
theorem dX7_reportAt_19 : decode cX7_reportAt 19 = .ok (.checkcast 168, 3) := by decide +kernel
theorem dX7_reportAt_22 : decode cX7_reportAt 22 = .ok (.areturn, 1) := by decide +kernel
theorem dX7_rulesInForce_0 : decode cX7_rulesInForce 0 = .ok (.iconst 0, 1) := by decide +kernel
theorem dX7_rulesInForce_1 : decode cX7_rulesInForce 1 = .ok (.istore_n 2, 1) := by decide +kernel
theorem dX7_rulesInForce_2 : decode cX7_rulesInForce 2 = .ok (.iconst 0, 1) := by decide +kernel
theorem dX7_rulesInForce_3 : decode cX7_rulesInForce 3 = .ok (.istore_n 3, 1) := by decide +kernel
theorem dX7_rulesInForce_4 : decode cX7_rulesInForce 4 = .ok (.iload_n 3, 1) := by decide +kernel
theorem dX7_rulesInForce_5 : decode cX7_rulesInForce 5 = .ok (.aload_n 0, 1) := by decide +kernel
theorem dX7_rulesInForce_6 : decode cX7_rulesInForce 6 = .ok (.getfield 10, 3) := by decide +kernel
theorem dX7_rulesInForce_9 : decode cX7_rulesInForce 9 = .ok (.invokevirtual 52, 3) := by decide +kernel
theorem dX7_rulesInForce_12 : decode cX7_rulesInForce 12 = .ok (.if_icmp .ge 30, 3) := by decide +kernel
theorem dX7_rulesInForce_15 : decode cX7_rulesInForce 15 = .ok (.aload_n 0, 1) := by decide +kernel
theorem dX7_rulesInForce_16 : decode cX7_rulesInForce 16 = .ok (.getfield 10, 3) := by decide +kernel
theorem dX7_rulesInForce_19 : decode cX7_rulesInForce 19 = .ok (.iload_n 3, 1) := by decide +kernel
theorem dX7_rulesInForce_20 : decode cX7_rulesInForce 20 = .ok (.invokevirtual 117, 3) := by decide +kernel
theorem dX7_rulesInForce_23 : decode cX7_rulesInForce 23 = .ok (.checkcast 60, 3) := by decide +kernel
theorem dX7_rulesInForce_26 : decode cX7_rulesInForce 26 = .ok (.iload_n 1, 1) := by decide +kernel
theorem dX7_rulesInForce_27 : decode cX7_rulesInForce 27 = .ok (.invokevirtual 100, 3) := by decide +kernel
theorem dX7_rulesInForce_30 : decode cX7_rulesInForce 30 = .ok (.ifCond .eq 6, 3) := by decide +kernel
theorem dX7_rulesInForce_33 : decode cX7_rulesInForce 33 = .ok (.iinc 2 1, 3) := by decide +kernel
theorem dX7_rulesInForce_36 : decode cX7_rulesInForce 36 = .ok (.iinc 3 1, 3) := by decide +kernel
theorem dX7_rulesInForce_39 : decode cX7_rulesInForce 39 = .ok (.goto (-35), 3) := by decide +kernel
theorem dX7_rulesInForce_42 : decode cX7_rulesInForce 42 = .ok (.iload_n 2, 1) := by decide +kernel
theorem dX7_rulesInForce_43 : decode cX7_rulesInForce 43 = .ok (.ireturn, 1) := by decide +kernel
theorem dX7_areInConflict_0 : decode cX7_areInConflict 0 = .ok (.aload_n 0, 1) := by decide +kernel
theorem dX7_areInConflict_1 : decode cX7_areInConflict 1 = .ok (.iload_n 2, 1) := by decide +kernel
theorem dX7_areInConflict_2 : decode cX7_areInConflict 2 = .ok (.invokevirtual 100, 3) := by decide +kernel
theorem dX7_areInConflict_5 : decode cX7_areInConflict 5 = .ok (.ifCond .eq 48, 3) := by decide +kernel
theorem dX7_areInConflict_8 : decode cX7_areInConflict 8 = .ok (.aload_n 1, 1) := by decide +kernel
theorem dX7_areInConflict_9 : decode cX7_areInConflict 9 = .ok (.iload_n 2, 1) := by decide +kernel
theorem dX7_areInConflict_10 : decode cX7_areInConflict 10 = .ok (.invokevirtual 100, 3) := by decide +kernel
theorem dX7_areInConflict_13 : decode cX7_areInConflict 13 = .ok (.ifCond .eq 40, 3) := by decide +kernel
theorem dX7_areInConflict_16 : decode cX7_areInConflict 16 = .ok (.aload_n 0, 1) := by decide +kernel
theorem dX7_areInConflict_17 : decode cX7_areInConflict 17 = .ok (.getfield 322, 3) := by decide +kernel
theorem dX7_areInConflict_20 : decode cX7_areInConflict 20 = .ok (.aload_n 1, 1) := by decide +kernel
theorem dX7_areInConflict_21 : decode cX7_areInConflict 21 = .ok (.getfield 322, 3) := by decide +kernel
theorem dX7_areInConflict_24 : decode cX7_areInConflict 24 = .ok (.if_icmp .ne 29, 3) := by decide +kernel
theorem dX7_areInConflict_27 : decode cX7_areInConflict 27 = .ok (.aload_n 0, 1) := by decide +kernel
theorem dX7_areInConflict_28 : decode cX7_areInConflict 28 = .ok (.getfield 325, 3) := by decide +kernel
theorem dX7_areInConflict_31 : decode cX7_areInConflict 31 = .ok (.aload_n 1, 1) := by decide +kernel
theorem dX7_areInConflict_32 : decode cX7_areInConflict 32 = .ok (.getfield 325, 3) := by decide +kernel
theorem dX7_areInConflict_35 : decode cX7_areInConflict 35 = .ok (.if_icmp .ne 18, 3) := by decide +kernel
theorem dX7_areInConflict_38 : decode cX7_areInConflict 38 = .ok (.aload_n 0, 1) := by decide +kernel
theorem dX7_areInConflict_39 : decode cX7_areInConflict 39 = .ok (.getfield 328, 3) := by decide +kernel
theorem dX7_areInConflict_42 : decode cX7_areInConflict 42 = .ok (.aload_n 1, 1) := by decide +kernel
theorem dX7_areInConflict_43 : decode cX7_areInConflict 43 = .ok (.getfield 328, 3) := by decide +kernel
theorem dX7_areInConflict_46 : decode cX7_areInConflict 46 = .ok (.if_icmp .eq 7, 3) := by decide +kernel
theorem dX7_areInConflict_49 : decode cX7_areInConflict 49 = .ok (.iconst 1, 1) := by decide +kernel
theorem dX7_areInConflict_50 : decode cX7_areInConflict 50 = .ok (.goto 4, 3) := by decide +kernel
theorem dX7_areInConflict_53 : decode cX7_areInConflict 53 = .ok (.iconst 0, 1) := by decide +kernel
theorem dX7_areInConflict_54 : decode cX7_areInConflict 54 = .ok (.ireturn, 1) := by decide +kernel
theorem dX7_ruleFor_0 : decode cX7_ruleFor 0 = .ok (.iconst (-1), 1) := by decide +kernel
theorem dX7_ruleFor_1 : decode cX7_ruleFor 1 = .ok (.istore_n 2, 1) := by decide +kernel
theorem dX7_ruleFor_2 : decode cX7_ruleFor 2 = .ok (.iconst (-1), 1) := by decide +kernel
theorem dX7_ruleFor_3 : decode cX7_ruleFor 3 = .ok (.istore_n 3, 1) := by decide +kernel
theorem dX7_ruleFor_4 : decode cX7_ruleFor 4 = .ok (.iconst 0, 1) := by decide +kernel
theorem dX7_ruleFor_5 : decode cX7_ruleFor 5 = .ok (.istore 4, 2) := by decide +kernel
theorem dX7_ruleFor_7 : decode cX7_ruleFor 7 = .ok (.iload 4, 2) := by decide +kernel
theorem dX7_ruleFor_9 : decode cX7_ruleFor 9 = .ok (.aload_n 0, 1) := by decide +kernel
theorem dX7_ruleFor_10 : decode cX7_ruleFor 10 = .ok (.getfield 10, 3) := by decide +kernel
theorem dX7_ruleFor_13 : decode cX7_ruleFor 13 = .ok (.invokevirtual 52, 3) := by decide +kernel
theorem dX7_ruleFor_16 : decode cX7_ruleFor 16 = .ok (.if_icmp .ge 65, 3) := by decide +kernel
theorem dX7_ruleFor_19 : decode cX7_ruleFor 19 = .ok (.aload_n 0, 1) := by decide +kernel
theorem dX7_ruleFor_20 : decode cX7_ruleFor 20 = .ok (.getfield 10, 3) := by decide +kernel
theorem dX7_ruleFor_23 : decode cX7_ruleFor 23 = .ok (.iload 4, 2) := by decide +kernel
theorem dX7_ruleFor_25 : decode cX7_ruleFor 25 = .ok (.invokevirtual 117, 3) := by decide +kernel
theorem dX7_ruleFor_28 : decode cX7_ruleFor 28 = .ok (.checkcast 60, 3) := by decide +kernel
theorem dX7_ruleFor_31 : decode cX7_ruleFor 31 = .ok (.astore 5, 2) := by decide +kernel
theorem dX7_ruleFor_33 : decode cX7_ruleFor 33 = .ok (.aload 5, 2) := by decide +kernel
theorem dX7_ruleFor_35 : decode cX7_ruleFor 35 = .ok (.aload_n 1, 1) := by decide +kernel
theorem dX7_ruleFor_36 : decode cX7_ruleFor 36 = .ok (.getfield 331, 3) := by decide +kernel
theorem dX7_ruleFor_39 : decode cX7_ruleFor 39 = .ok (.invokevirtual 100, 3) := by decide +kernel
theorem dX7_ruleFor_42 : decode cX7_ruleFor 42 = .ok (.ifCond .eq 33, 3) := by decide +kernel
theorem dX7_ruleFor_45 : decode cX7_ruleFor 45 = .ok (.aload_n 1, 1) := by decide +kernel
theorem dX7_ruleFor_46 : decode cX7_ruleFor 46 = .ok (.aload 5, 2) := by decide +kernel
theorem dX7_ruleFor_48 : decode cX7_ruleFor 48 = .ok (.getfield 322, 3) := by decide +kernel
theorem dX7_ruleFor_51 : decode cX7_ruleFor 51 = .ok (.invokevirtual 334, 3) := by decide +kernel
theorem dX7_ruleFor_54 : decode cX7_ruleFor 54 = .ok (.ifCond .eq 21, 3) := by decide +kernel
theorem dX7_ruleFor_57 : decode cX7_ruleFor 57 = .ok (.aload 5, 2) := by decide +kernel
theorem dX7_ruleFor_59 : decode cX7_ruleFor 59 = .ok (.getfield 325, 3) := by decide +kernel
theorem dX7_ruleFor_62 : decode cX7_ruleFor 62 = .ok (.iload_n 3, 1) := by decide +kernel
theorem dX7_ruleFor_63 : decode cX7_ruleFor 63 = .ok (.if_icmp .lt 12, 3) := by decide +kernel
theorem dX7_ruleFor_66 : decode cX7_ruleFor 66 = .ok (.iload 4, 2) := by decide +kernel
theorem dX7_ruleFor_68 : decode cX7_ruleFor 68 = .ok (.istore_n 2, 1) := by decide +kernel
theorem dX7_ruleFor_69 : decode cX7_ruleFor 69 = .ok (.aload 5, 2) := by decide +kernel
theorem dX7_ruleFor_71 : decode cX7_ruleFor 71 = .ok (.getfield 325, 3) := by decide +kernel
theorem dX7_ruleFor_74 : decode cX7_ruleFor 74 = .ok (.istore_n 3, 1) := by decide +kernel
theorem dX7_ruleFor_75 : decode cX7_ruleFor 75 = .ok (.iinc 4 1, 3) := by decide +kernel
theorem dX7_ruleFor_78 : decode cX7_ruleFor 78 = .ok (.goto (-71), 3) := by decide +kernel
theorem dX7_ruleFor_81 : decode cX7_ruleFor 81 = .ok (.iload_n 2, 1) := by decide +kernel
theorem dX7_ruleFor_82 : decode cX7_ruleFor 82 = .ok (.ireturn, 1) := by decide +kernel
theorem dX7_botFor_0 : decode cX7_botFor 0 = .ok (.iconst 0, 1) := by decide +kernel
theorem dX7_botFor_1 : decode cX7_botFor 1 = .ok (.istore_n 2, 1) := by decide +kernel
theorem dX7_botFor_2 : decode cX7_botFor 2 = .ok (.iload_n 2, 1) := by decide +kernel
theorem dX7_botFor_3 : decode cX7_botFor 3 = .ok (.aload_n 0, 1) := by decide +kernel
theorem dX7_botFor_4 : decode cX7_botFor 4 = .ok (.getfield 19, 3) := by decide +kernel
theorem dX7_botFor_7 : decode cX7_botFor 7 = .ok (.invokevirtual 52, 3) := by decide +kernel
theorem dX7_botFor_10 : decode cX7_botFor 10 = .ok (.if_icmp .ge 45, 3) := by decide +kernel
theorem dX7_botFor_13 : decode cX7_botFor 13 = .ok (.aload_n 0, 1) := by decide +kernel
theorem dX7_botFor_14 : decode cX7_botFor 14 = .ok (.getfield 19, 3) := by decide +kernel
theorem dX7_botFor_17 : decode cX7_botFor 17 = .ok (.iload_n 2, 1) := by decide +kernel
theorem dX7_botFor_18 : decode cX7_botFor 18 = .ok (.invokevirtual 117, 3) := by decide +kernel
theorem dX7_botFor_21 : decode cX7_botFor 21 = .ok (.checkcast 153, 3) := by decide +kernel
theorem dX7_botFor_24 : decode cX7_botFor 24 = .ok (.astore_n 3, 1) := by decide +kernel
theorem dX7_botFor_25 : decode cX7_botFor 25 = .ok (.aload_n 1, 1) := by decide +kernel
theorem dX7_botFor_26 : decode cX7_botFor 26 = .ok (.aload_n 3, 1) := by decide +kernel
theorem dX7_botFor_27 : decode cX7_botFor 27 = .ok (.getfield 337, 3) := by decide +kernel
theorem dX7_botFor_30 : decode cX7_botFor 30 = .ok (.invokevirtual 334, 3) := by decide +kernel
theorem dX7_botFor_33 : decode cX7_botFor 33 = .ok (.ifCond .eq 16, 3) := by decide +kernel
theorem dX7_botFor_36 : decode cX7_botFor 36 = .ok (.aload_n 3, 1) := by decide +kernel
theorem dX7_botFor_37 : decode cX7_botFor 37 = .ok (.getfield 160, 3) := by decide +kernel
theorem dX7_botFor_40 : decode cX7_botFor 40 = .ok (.aload_n 1, 1) := by decide +kernel
theorem dX7_botFor_41 : decode cX7_botFor 41 = .ok (.getfield 298, 3) := by decide +kernel
theorem dX7_botFor_44 : decode cX7_botFor 44 = .ok (.if_icmp .gt 5, 3) := by decide +kernel
theorem dX7_botFor_47 : decode cX7_botFor 47 = .ok (.aload_n 3, 1) := by decide +kernel
theorem dX7_botFor_48 : decode cX7_botFor 48 = .ok (.areturn, 1) := by decide +kernel
theorem dX7_botFor_49 : decode cX7_botFor 49 = .ok (.iinc 2 1, 3) := by decide +kernel
theorem dX7_botFor_52 : decode cX7_botFor 52 = .ok (.goto (-50), 3) := by decide +kernel
theorem dX7_botFor_55 : decode cX7_botFor 55 = .ok (.aconst_null, 1) := by decide +kernel
theorem dX7_botFor_56 : decode cX7_botFor 56 = .ok (.areturn, 1) := by decide +kernel
theorem dX7_commonKinds_0 : decode cX7_commonKinds 0 = .ok (.aload_n 0, 1) := by decide +kernel
theorem dX7_commonKinds_1 : decode cX7_commonKinds 1 = .ok (.getfield 338, 3) := by decide +kernel
theorem dX7_commonKinds_4 : decode cX7_commonKinds 4 = .ok (.aload_n 1, 1) := by decide +kernel
theorem dX7_commonKinds_5 : decode cX7_commonKinds 5 = .ok (.getfield 338, 3) := by decide +kernel
theorem dX7_commonKinds_8 : decode cX7_commonKinds 8 = .ok (.iand, 1) := by decide +kernel
theorem dX7_commonKinds_9 : decode cX7_commonKinds 9 = .ok (.invokestatic 341, 3) := by decide +kernel
theorem dX7_commonKinds_12 : decode cX7_commonKinds 12 = .ok (.ireturn, 1) := by decide +kernel
theorem dX7_precedentFor_0 : decode cX7_precedentFor 0 = .ok (.iconst (-1), 1) := by decide +kernel
theorem dX7_precedentFor_1 : decode cX7_precedentFor 1 = .ok (.istore_n 3, 1) := by decide +kernel
theorem dX7_precedentFor_2 : decode cX7_precedentFor 2 = .ok (.iconst 0, 1) := by decide +kernel
theorem dX7_precedentFor_3 : decode cX7_precedentFor 3 = .ok (.istore 4, 2) := by decide +kernel
theorem dX7_precedentFor_5 : decode cX7_precedentFor 5 = .ok (.iconst 0, 1) := by decide +kernel
theorem dX7_precedentFor_6 : decode cX7_precedentFor 6 = .ok (.istore 5, 2) := by decide +kernel
theorem dX7_precedentFor_8 : decode cX7_precedentFor 8 = .ok (.iload 5, 2) := by decide +kernel
theorem dX7_precedentFor_10 : decode cX7_precedentFor 10 = .ok (.aload_n 0, 1) := by decide +kernel
theorem dX7_precedentFor_11 : decode cX7_precedentFor 11 = .ok (.getfield 22, 3) := by decide +kernel
theorem dX7_precedentFor_14 : decode cX7_precedentFor 14 = .ok (.invokevirtual 52, 3) := by decide +kernel
theorem dX7_precedentFor_17 : decode cX7_precedentFor 17 = .ok (.if_icmp .ge 92, 3) := by decide +kernel
theorem dX7_precedentFor_20 : decode cX7_precedentFor 20 = .ok (.iload 5, 2) := by decide +kernel
theorem dX7_precedentFor_22 : decode cX7_precedentFor 22 = .ok (.aload_n 1, 1) := by decide +kernel
theorem dX7_precedentFor_23 : decode cX7_precedentFor 23 = .ok (.getfield 346, 3) := by decide +kernel
theorem dX7_precedentFor_26 : decode cX7_precedentFor 26 = .ok (.if_icmp .eq 77, 3) := by decide +kernel
theorem dX7_precedentFor_29 : decode cX7_precedentFor 29 = .ok (.aload_n 2, 1) := by decide +kernel
theorem dX7_precedentFor_30 : decode cX7_precedentFor 30 = .ok (.iload 5, 2) := by decide +kernel
theorem dX7_precedentFor_32 : decode cX7_precedentFor 32 = .ok (.invokevirtual 349, 3) := by decide +kernel
theorem dX7_precedentFor_35 : decode cX7_precedentFor 35 = .ok (.ifCond .ne 6, 3) := by decide +kernel
theorem dX7_precedentFor_38 : decode cX7_precedentFor 38 = .ok (.goto 65, 3) := by decide +kernel
theorem dX7_precedentFor_41 : decode cX7_precedentFor 41 = .ok (.aload_n 1, 1) := by decide +kernel
theorem dX7_precedentFor_42 : decode cX7_precedentFor 42 = .ok (.aload_n 0, 1) := by decide +kernel
theorem dX7_precedentFor_43 : decode cX7_precedentFor 43 = .ok (.getfield 22, 3) := by decide +kernel
theorem dX7_precedentFor_46 : decode cX7_precedentFor 46 = .ok (.iload 5, 2) := by decide +kernel
theorem dX7_precedentFor_48 : decode cX7_precedentFor 48 = .ok (.invokevirtual 117, 3) := by decide +kernel
theorem dX7_precedentFor_51 : decode cX7_precedentFor 51 = .ok (.checkcast 168, 3) := by decide +kernel
theorem dX7_precedentFor_54 : decode cX7_precedentFor 54 = .ok (.invokestatic 278, 3) := by decide +kernel
theorem dX7_precedentFor_57 : decode cX7_precedentFor 57 = .ok (.istore 6, 2) := by decide +kernel
theorem dX7_precedentFor_59 : decode cX7_precedentFor 59 = .ok (.iload 6, 2) := by decide +kernel
theorem dX7_precedentFor_61 : decode cX7_precedentFor 61 = .ok (.iconst 2, 1) := by decide +kernel
theorem dX7_precedentFor_62 : decode cX7_precedentFor 62 = .ok (.if_icmp .lt 41, 3) := by decide +kernel
theorem dX7_precedentFor_65 : decode cX7_precedentFor 65 = .ok (.iload 6, 2) := by decide +kernel
theorem dX7_precedentFor_67 : decode cX7_precedentFor 67 = .ok (.iload 4, 2) := by decide +kernel
theorem dX7_precedentFor_69 : decode cX7_precedentFor 69 = .ok (.if_icmp .ge 6, 3) := by decide +kernel
theorem dX7_precedentFor_72 : decode cX7_precedentFor 72 = .ok (.goto 31, 3) := by decide +kernel
theorem dX7_precedentFor_75 : decode cX7_precedentFor 75 = .ok (.iload 6, 2) := by decide +kernel
theorem dX7_precedentFor_77 : decode cX7_precedentFor 77 = .ok (.iload 4, 2) := by decide +kernel
theorem dX7_precedentFor_79 : decode cX7_precedentFor 79 = .ok (.if_icmp .gt 17, 3) := by decide +kernel
theorem dX7_precedentFor_82 : decode cX7_precedentFor 82 = .ok (.aload_n 2, 1) := by decide +kernel
theorem dX7_precedentFor_83 : decode cX7_precedentFor 83 = .ok (.iload 5, 2) := by decide +kernel
theorem dX7_precedentFor_85 : decode cX7_precedentFor 85 = .ok (.invokevirtual 352, 3) := by decide +kernel
theorem dX7_precedentFor_88 : decode cX7_precedentFor 88 = .ok (.aload_n 2, 1) := by decide +kernel
theorem dX7_precedentFor_89 : decode cX7_precedentFor 89 = .ok (.iload_n 3, 1) := by decide +kernel
theorem dX7_precedentFor_90 : decode cX7_precedentFor 90 = .ok (.invokevirtual 352, 3) := by decide +kernel
theorem dX7_precedentFor_93 : decode cX7_precedentFor 93 = .ok (.if_icmp .le 10, 3) := by decide +kernel
theorem dX7_precedentFor_96 : decode cX7_precedentFor 96 = .ok (.iload 5, 2) := by decide +kernel
theorem dX7_precedentFor_98 : decode cX7_precedentFor 98 = .ok (.istore_n 3, 1) := by decide +kernel
theorem dX7_precedentFor_99 : decode cX7_precedentFor 99 = .ok (.iload 6, 2) := by decide +kernel
theorem dX7_precedentFor_101 : decode cX7_precedentFor 101 = .ok (.istore 4, 2) := by decide +kernel
theorem dX7_precedentFor_103 : decode cX7_precedentFor 103 = .ok (.iinc 5 1, 3) := by decide +kernel
theorem dX7_precedentFor_106 : decode cX7_precedentFor 106 = .ok (.goto (-98), 3) := by decide +kernel
theorem dX7_precedentFor_109 : decode cX7_precedentFor 109 = .ok (.iload_n 3, 1) := by decide +kernel
theorem dX7_precedentFor_110 : decode cX7_precedentFor 110 = .ok (.ireturn, 1) := by decide +kernel
theorem dX7_findOutcome_0 : decode cX7_findOutcome 0 = .ok (.aload_n 0, 1) := by decide +kernel
theorem dX7_findOutcome_1 : decode cX7_findOutcome 1 = .ok (.aload_n 1, 1) := by decide +kernel
theorem dX7_findOutcome_2 : decode cX7_findOutcome 2 = .ok (.invokevirtual 108, 3) := by decide +kernel
theorem dX7_findOutcome_5 : decode cX7_findOutcome 5 = .ok (.istore 5, 2) := by decide +kernel
theorem dX7_findOutcome_7 : decode cX7_findOutcome 7 = .ok (.iload 5, 2) := by decide +kernel
theorem dX7_findOutcome_9 : decode cX7_findOutcome 9 = .ok (.ifCond .lt 15, 3) := by decide +kernel
theorem dX7_findOutcome_12 : decode cX7_findOutcome 12 = .ok (.iload 5, 2) := by decide +kernel
theorem dX7_findOutcome_14 : decode cX7_findOutcome 14 = .ok (.aload_n 0, 1) := by decide +kernel
theorem dX7_findOutcome_15 : decode cX7_findOutcome 15 = .ok (.getfield 10, 3) := by decide +kernel
theorem dX7_findOutcome_18 : decode cX7_findOutcome 18 = .ok (.invokevirtual 52, 3) := by decide +kernel
theorem dX7_findOutcome_21 : decode cX7_findOutcome 21 = .ok (.if_icmp .lt 6, 3) := by decide +kernel
theorem dX7_findOutcome_24 : decode cX7_findOutcome 24 = .ok (.bipush 110, 2) := by decide +kernel
theorem dX7_findOutcome_26 : decode cX7_findOutcome 26 = .ok (.ireturn, 1) := by decide +kernel
theorem dX7_findOutcome_27 : decode cX7_findOutcome 27 = .ok (.aload_n 0, 1) := by decide +kernel
theorem dX7_findOutcome_28 : decode cX7_findOutcome 28 = .ok (.getfield 10, 3) := by decide +kernel
theorem dX7_findOutcome_31 : decode cX7_findOutcome 31 = .ok (.iload 5, 2) := by decide +kernel
theorem dX7_findOutcome_33 : decode cX7_findOutcome 33 = .ok (.invokevirtual 117, 3) := by decide +kernel
theorem dX7_findOutcome_36 : decode cX7_findOutcome 36 = .ok (.checkcast 60, 3) := by decide +kernel
theorem dX7_findOutcome_39 : decode cX7_findOutcome 39 = .ok (.getfield 328, 3) := by decide +kernel
theorem dX7_findOutcome_42 : decode cX7_findOutcome 42 = .ok (.ifCond .ne 6, 3) := by decide +kernel
theorem dX7_findOutcome_45 : decode cX7_findOutcome 45 = .ok (.bipush 119, 2) := by decide +kernel
theorem dX7_findOutcome_47 : decode cX7_findOutcome 47 = .ok (.ireturn, 1) := by decide +kernel
theorem dX7_findOutcome_48 : decode cX7_findOutcome 48 = .ok (.aload 4, 2) := by decide +kernel
theorem dX7_findOutcome_50 : decode cX7_findOutcome 50 = .ok (.aload_n 0, 1) := by decide +kernel
theorem dX7_findOutcome_51 : decode cX7_findOutcome 51 = .ok (.aload_n 1, 1) := by decide +kernel
theorem dX7_findOutcome_52 : decode cX7_findOutcome 52 = .ok (.aload 4, 2) := by decide +kernel
theorem dX7_findOutcome_54 : decode cX7_findOutcome 54 = .ok (.invokevirtual 215, 3) := by decide +kernel
theorem dX7_findOutcome_57 : decode cX7_findOutcome 57 = .ok (.invokevirtual 230, 3) := by decide +kernel
theorem dX7_findOutcome_60 : decode cX7_findOutcome 60 = .ok (.istore 6, 2) := by decide +kernel
theorem dX7_findOutcome_62 : decode cX7_findOutcome 62 = .ok (.iload_n 2, 1) := by decide +kernel
theorem dX7_findOutcome_63 : decode cX7_findOutcome 63 = .ok (.iload 6, 2) := by decide +kernel
theorem dX7_findOutcome_65 : decode cX7_findOutcome 65 = .ok (.bipush 103, 2) := by decide +kernel
theorem dX7_findOutcome_67 : decode cX7_findOutcome 67 = .ok (.if_icmp .ne 7, 3) := by decide +kernel
theorem dX7_findOutcome_70 : decode cX7_findOutcome 70 = .ok (.iconst 5, 1) := by decide +kernel
theorem dX7_findOutcome_71 : decode cX7_findOutcome 71 = .ok (.goto 4, 3) := by decide +kernel
theorem dX7_findOutcome_74 : decode cX7_findOutcome 74 = .ok (.iconst 0, 1) := by decide +kernel
theorem dX7_findOutcome_75 : decode cX7_findOutcome 75 = .ok (.iadd, 1) := by decide +kernel
theorem dX7_findOutcome_76 : decode cX7_findOutcome 76 = .ok (.istore 7, 2) := by decide +kernel
theorem dX7_findOutcome_78 : decode cX7_findOutcome 78 = .ok (.iload_n 3, 1) := by decide +kernel
theorem dX7_findOutcome_79 : decode cX7_findOutcome 79 = .ok (.iload 6, 2) := by decide +kernel
theorem dX7_findOutcome_81 : decode cX7_findOutcome 81 = .ok (.bipush 105, 2) := by decide +kernel
theorem dX7_findOutcome_83 : decode cX7_findOutcome 83 = .ok (.if_icmp .ne 7, 3) := by decide +kernel
theorem dX7_findOutcome_86 : decode cX7_findOutcome 86 = .ok (.iconst 5, 1) := by decide +kernel
theorem dX7_findOutcome_87 : decode cX7_findOutcome 87 = .ok (.goto 4, 3) := by decide +kernel
theorem dX7_findOutcome_90 : decode cX7_findOutcome 90 = .ok (.iconst 0, 1) := by decide +kernel
theorem dX7_findOutcome_91 : decode cX7_findOutcome 91 = .ok (.iadd, 1) := by decide +kernel
theorem dX7_findOutcome_92 : decode cX7_findOutcome 92 = .ok (.istore 8, 2) := by decide +kernel
theorem dX7_findOutcome_94 : decode cX7_findOutcome 94 = .ok (.iload 7, 2) := by decide +kernel
theorem dX7_findOutcome_96 : decode cX7_findOutcome 96 = .ok (.iload 8, 2) := by decide +kernel
theorem dX7_findOutcome_98 : decode cX7_findOutcome 98 = .ok (.if_icmp .le 8, 3) := by decide +kernel
theorem dX7_findOutcome_101 : decode cX7_findOutcome 101 = .ok (.bipush 103, 2) := by decide +kernel
theorem dX7_findOutcome_103 : decode cX7_findOutcome 103 = .ok (.goto 5, 3) := by decide +kernel
theorem dX7_findOutcome_106 : decode cX7_findOutcome 106 = .ok (.bipush 105, 2) := by decide +kernel
theorem dX7_findOutcome_108 : decode cX7_findOutcome 108 = .ok (.ireturn, 1) := by decide +kernel
theorem dX7_settle_0 : decode cX7_settle 0 = .ok (.aload_n 0, 1) := by decide +kernel
theorem dX7_settle_1 : decode cX7_settle 1 = .ok (.aload_n 1, 1) := by decide +kernel
theorem dX7_settle_2 : decode cX7_settle 2 = .ok (.iload_n 2, 1) := by decide +kernel
theorem dX7_settle_3 : decode cX7_settle 3 = .ok (.iload_n 3, 1) := by decide +kernel
theorem dX7_settle_4 : decode cX7_settle 4 = .ok (.aload_n 0, 1) := by decide +kernel
theorem dX7_settle_5 : decode cX7_settle 5 = .ok (.getfield 34, 3) := by decide +kernel
theorem dX7_settle_8 : decode cX7_settle 8 = .ok (.invokevirtual 355, 3) := by decide +kernel
theorem dX7_settle_11 : decode cX7_settle 11 = .ok (.istore 4, 2) := by decide +kernel
theorem dX7_settle_13 : decode cX7_settle 13 = .ok (.aload_n 0, 1) := by decide +kernel
theorem dX7_settle_14 : decode cX7_settle 14 = .ok (.getfield 34, 3) := by decide +kernel
theorem dX7_settle_17 : decode cX7_settle 17 = .ok (.aload_n 1, 1) := by decide +kernel
theorem dX7_settle_18 : decode cX7_settle 18 = .ok (.getfield 346, 3) := by decide +kernel
theorem dX7_settle_21 : decode cX7_settle 21 = .ok (.iload 4, 2) := by decide +kernel
theorem dX7_settle_23 : decode cX7_settle 23 = .ok (.invokevirtual 359, 3) := by decide +kernel
theorem dX7_settle_26 : decode cX7_settle 26 = .ok (.aload_n 0, 1) := by decide +kernel
theorem dX7_settle_27 : decode cX7_settle 27 = .ok (.getfield 28, 3) := by decide +kernel
theorem dX7_settle_30 : decode cX7_settle 30 = .ok (.new 254, 3) := by decide +kernel
theorem dX7_settle_33 : decode cX7_settle 33 = .ok (.dup, 1) := by decide +kernel
theorem dX7_settle_34 : decode cX7_settle 34 = .ok (.aload_n 1, 1) := by decide +kernel
theorem dX7_settle_35 : decode cX7_settle 35 = .ok (.iconst 0, 1) := by decide +kernel
theorem dX7_settle_36 : decode cX7_settle 36 = .ok (.iload_n 2, 1) := by decide +kernel
theorem dX7_settle_37 : decode cX7_settle 37 = .ok (.iload_n 3, 1) := by decide +kernel
theorem dX7_settle_38 : decode cX7_settle 38 = .ok (.invokespecial 256, 3) := by decide +kernel
theorem dX7_settle_41 : decode cX7_settle 41 = .ok (.invokevirtual 65, 3) := by decide +kernel
theorem dX7_settle_44 : decode cX7_settle 44 = .ok (.pop, 1) := by decide +kernel
theorem dX7_settle_45 : decode cX7_settle 45 = .ok (.aload_n 1, 1) := by decide +kernel
theorem dX7_settle_46 : decode cX7_settle 46 = .ok (.bipush 100, 2) := by decide +kernel
theorem dX7_settle_48 : decode cX7_settle 48 = .ok (.putfield 185, 3) := by decide +kernel
theorem dX7_settle_51 : decode cX7_settle 51 = .ok (.iload 4, 2) := by decide +kernel
theorem dX7_settle_53 : decode cX7_settle 53 = .ok (.bipush 103, 2) := by decide +kernel
theorem dX7_settle_55 : decode cX7_settle 55 = .ok (.if_icmp .ne 8, 3) := by decide +kernel
theorem dX7_settle_58 : decode cX7_settle 58 = .ok (.aload_n 0, 1) := by decide +kernel
theorem dX7_settle_59 : decode cX7_settle 59 = .ok (.aload_n 1, 1) := by decide +kernel
theorem dX7_settle_60 : decode cX7_settle 60 = .ok (.invokevirtual 363, 3) := by decide +kernel
theorem dX7_settle_63 : decode cX7_settle 63 = .ok (.iload 4, 2) := by decide +kernel
theorem dX7_settle_65 : decode cX7_settle 65 = .ok (.ireturn, 1) := by decide +kernel
theorem dX7_sanctionAccused_0 : decode cX7_sanctionAccused 0 = .ok (.aload_n 0, 1) := by decide +kernel
theorem dX7_sanctionAccused_1 : decode cX7_sanctionAccused 1 = .ok (.aload_n 1, 1) := by decide +kernel
theorem dX7_sanctionAccused_2 : decode cX7_sanctionAccused 2 = .ok (.invokevirtual 108, 3) := by decide +kernel
theorem dX7_sanctionAccused_5 : decode cX7_sanctionAccused 5 = .ok (.istore_n 2, 1) := by decide +kernel
theorem dX7_sanctionAccused_6 : decode cX7_sanctionAccused 6 = .ok (.iload_n 2, 1) := by decide +kernel
theorem dX7_sanctionAccused_7 : decode cX7_sanctionAccused 7 = .ok (.ifCond .lt 14, 3) := by decide +kernel
theorem dX7_sanctionAccused_10 : decode cX7_sanctionAccused 10 = .ok (.iload_n 2, 1) := by decide +kernel
theorem dX7_sanctionAccused_11 : decode cX7_sanctionAccused 11 = .ok (.aload_n 0, 1) := by decide +kernel
theorem dX7_sanctionAccused_12 : decode cX7_sanctionAccused 12 = .ok (.getfield 10, 3) := by decide +kernel
theorem dX7_sanctionAccused_15 : decode cX7_sanctionAccused 15 = .ok (.invokevirtual 52, 3) := by decide +kernel
theorem dX7_sanctionAccused_18 : decode cX7_sanctionAccused 18 = .ok (.if_icmp .lt 4, 3) := by decide +kernel
theorem dX7_sanctionAccused_21 : decode cX7_sanctionAccused 21 = .ok (.return_, 1) := by decide +kernel
theorem dX7_sanctionAccused_22 : decode cX7_sanctionAccused 22 = .ok (.aload_n 0, 1) := by decide +kernel
theorem dX7_sanctionAccused_23 : decode cX7_sanctionAccused 23 = .ok (.getfield 41, 3) := by decide +kernel
theorem dX7_sanctionAccused_26 : decode cX7_sanctionAccused 26 = .ok (.aload_n 0, 1) := by decide +kernel
theorem dX7_sanctionAccused_27 : decode cX7_sanctionAccused 27 = .ok (.getfield 10, 3) := by decide +kernel
theorem dX7_sanctionAccused_30 : decode cX7_sanctionAccused 30 = .ok (.iload_n 2, 1) := by decide +kernel
theorem dX7_sanctionAccused_31 : decode cX7_sanctionAccused 31 = .ok (.invokevirtual 117, 3) := by decide +kernel
theorem dX7_sanctionAccused_34 : decode cX7_sanctionAccused 34 = .ok (.checkcast 60, 3) := by decide +kernel
theorem dX7_sanctionAccused_37 : decode cX7_sanctionAccused 37 = .ok (.getfield 366, 3) := by decide +kernel
theorem dX7_sanctionAccused_40 : decode cX7_sanctionAccused 40 = .ok (.iadd, 1) := by decide +kernel
theorem dX7_sanctionAccused_41 : decode cX7_sanctionAccused 41 = .ok (.istore_n 3, 1) := by decide +kernel
theorem dX7_sanctionAccused_42 : decode cX7_sanctionAccused 42 = .ok (.aload_n 1, 1) := by decide +kernel
theorem dX7_sanctionAccused_43 : decode cX7_sanctionAccused 43 = .ok (.new 143, 3) := by decide +kernel
theorem dX7_sanctionAccused_46 : decode cX7_sanctionAccused 46 = .ok (.dup, 1) := by decide +kernel
theorem dX7_sanctionAccused_47 : decode cX7_sanctionAccused 47 = .ok (.aload_n 1, 1) := by decide +kernel
theorem dX7_sanctionAccused_48 : decode cX7_sanctionAccused 48 = .ok (.getfield 196, 3) := by decide +kernel
theorem dX7_sanctionAccused_51 : decode cX7_sanctionAccused 51 = .ok (.aload_n 0, 1) := by decide +kernel
theorem dX7_sanctionAccused_52 : decode cX7_sanctionAccused 52 = .ok (.getfield 41, 3) := by decide +kernel
theorem dX7_sanctionAccused_55 : decode cX7_sanctionAccused 55 = .ok (.iload_n 3, 1) := by decide +kernel
theorem dX7_sanctionAccused_56 : decode cX7_sanctionAccused 56 = .ok (.invokespecial 369, 3) := by decide +kernel
theorem dX7_sanctionAccused_59 : decode cX7_sanctionAccused 59 = .ok (.putfield 259, 3) := by decide +kernel
theorem dX7_sanctionAccused_62 : decode cX7_sanctionAccused 62 = .ok (.aload_n 0, 1) := by decide +kernel
theorem dX7_sanctionAccused_63 : decode cX7_sanctionAccused 63 = .ok (.getfield 25, 3) := by decide +kernel
theorem dX7_sanctionAccused_66 : decode cX7_sanctionAccused 66 = .ok (.aload_n 1, 1) := by decide +kernel
theorem dX7_sanctionAccused_67 : decode cX7_sanctionAccused 67 = .ok (.getfield 259, 3) := by decide +kernel
theorem dX7_sanctionAccused_70 : decode cX7_sanctionAccused 70 = .ok (.invokevirtual 65, 3) := by decide +kernel
theorem dX7_sanctionAccused_73 : decode cX7_sanctionAccused 73 = .ok (.pop, 1) := by decide +kernel
theorem dX7_sanctionAccused_74 : decode cX7_sanctionAccused 74 = .ok (.return_, 1) := by decide +kernel
theorem dX7_closeAppeal_0 : decode cX7_closeAppeal 0 = .ok (.aload_n 0, 1) := by decide +kernel
theorem dX7_closeAppeal_1 : decode cX7_closeAppeal 1 = .ok (.iload_n 1, 1) := by decide +kernel
theorem dX7_closeAppeal_2 : decode cX7_closeAppeal 2 = .ok (.aload_n 0, 1) := by decide +kernel
theorem dX7_closeAppeal_3 : decode cX7_closeAppeal 3 = .ok (.getfield 248, 3) := by decide +kernel
theorem dX7_closeAppeal_6 : decode cX7_closeAppeal 6 = .ok (.if_icmp .eq 7, 3) := by decide +kernel
theorem dX7_closeAppeal_9 : decode cX7_closeAppeal 9 = .ok (.iconst 1, 1) := by decide +kernel
theorem dX7_closeAppeal_10 : decode cX7_closeAppeal 10 = .ok (.goto 4, 3) := by decide +kernel
theorem dX7_closeAppeal_13 : decode cX7_closeAppeal 13 = .ok (.iconst 0, 1) := by decide +kernel
theorem dX7_closeAppeal_14 : decode cX7_closeAppeal 14 = .ok (.putfield 270, 3) := by decide +kernel
theorem dX7_closeAppeal_17 : decode cX7_closeAppeal 17 = .ok (.aload_n 0, 1) := by decide +kernel
theorem dX7_closeAppeal_18 : decode cX7_closeAppeal 18 = .ok (.getfield 177, 3) := by decide +kernel
theorem dX7_closeAppeal_21 : decode cX7_closeAppeal 21 = .ok (.ifnull 23, 3) := by decide +kernel
theorem dX7_closeAppeal_24 : decode cX7_closeAppeal 24 = .ok (.aload_n 0, 1) := by decide +kernel
theorem dX7_closeAppeal_25 : decode cX7_closeAppeal 25 = .ok (.getfield 248, 3) := by decide +kernel
theorem dX7_closeAppeal_28 : decode cX7_closeAppeal 28 = .ok (.bipush 103, 2) := by decide +kernel
theorem dX7_closeAppeal_30 : decode cX7_closeAppeal 30 = .ok (.if_icmp .ne 14, 3) := by decide +kernel
theorem dX7_closeAppeal_33 : decode cX7_closeAppeal 33 = .ok (.aload_n 0, 1) := by decide +kernel
theorem dX7_closeAppeal_34 : decode cX7_closeAppeal 34 = .ok (.getfield 177, 3) := by decide +kernel
theorem dX7_closeAppeal_37 : decode cX7_closeAppeal 37 = .ok (.aload_n 0, 1) := by decide +kernel
theorem dX7_closeAppeal_38 : decode cX7_closeAppeal 38 = .ok (.getfield 270, 3) := by decide +kernel
theorem dX7_closeAppeal_41 : decode cX7_closeAppeal 41 = .ok (.invokevirtual 372, 3) := by decide +kernel
theorem dX7_closeAppeal_44 : decode cX7_closeAppeal 44 = .ok (.return_, 1) := by decide +kernel
theorem dX7_settleAllAnew_0 : decode cX7_settleAllAnew 0 = .ok (.aload_n 0, 1) := by decide +kernel
theorem dX7_settleAllAnew_1 : decode cX7_settleAllAnew 1 = .ok (.getfield 38, 3) := by decide +kernel
theorem dX7_settleAllAnew_4 : decode cX7_settleAllAnew 4 = .ok (.invokevirtual 376, 3) := by decide +kernel
theorem dX7_settleAllAnew_7 : decode cX7_settleAllAnew 7 = .ok (.iconst 0, 1) := by decide +kernel
theorem dX7_settleAllAnew_8 : decode cX7_settleAllAnew 8 = .ok (.istore_n 1, 1) := by decide +kernel
theorem dX7_settleAllAnew_9 : decode cX7_settleAllAnew 9 = .ok (.iload_n 1, 1) := by decide +kernel
theorem dX7_settleAllAnew_10 : decode cX7_settleAllAnew 10 = .ok (.aload_n 0, 1) := by decide +kernel
theorem dX7_settleAllAnew_11 : decode cX7_settleAllAnew 11 = .ok (.getfield 28, 3) := by decide +kernel
theorem dX7_settleAllAnew_14 : decode cX7_settleAllAnew 14 = .ok (.invokevirtual 52, 3) := by decide +kernel
theorem dX7_settleAllAnew_17 : decode cX7_settleAllAnew 17 = .ok (.if_icmp .ge 75, 3) := by decide +kernel
theorem dX7_settleAllAnew_20 : decode cX7_settleAllAnew 20 = .ok (.aload_n 0, 1) := by decide +kernel
theorem dX7_settleAllAnew_21 : decode cX7_settleAllAnew 21 = .ok (.getfield 28, 3) := by decide +kernel
theorem dX7_settleAllAnew_24 : decode cX7_settleAllAnew 24 = .ok (.iload_n 1, 1) := by decide +kernel
theorem dX7_settleAllAnew_25 : decode cX7_settleAllAnew 25 = .ok (.invokevirtual 117, 3) := by decide +kernel
theorem dX7_settleAllAnew_28 : decode cX7_settleAllAnew 28 = .ok (.checkcast 254, 3) := by decide +kernel
theorem dX7_settleAllAnew_31 : decode cX7_settleAllAnew 31 = .ok (.astore_n 2, 1) := by decide +kernel
theorem dX7_settleAllAnew_32 : decode cX7_settleAllAnew 32 = .ok (.aload_n 2, 1) := by decide +kernel
theorem dX7_settleAllAnew_33 : decode cX7_settleAllAnew 33 = .ok (.getfield 379, 3) := by decide +kernel
theorem dX7_settleAllAnew_36 : decode cX7_settleAllAnew 36 = .ok (.astore_n 3, 1) := by decide +kernel
theorem dX7_settleAllAnew_37 : decode cX7_settleAllAnew 37 = .ok (.aload_n 2, 1) := by decide +kernel
theorem dX7_settleAllAnew_38 : decode cX7_settleAllAnew 38 = .ok (.getfield 383, 3) := by decide +kernel
theorem dX7_settleAllAnew_41 : decode cX7_settleAllAnew 41 = .ok (.ifCond .eq 17, 3) := by decide +kernel
theorem dX7_settleAllAnew_44 : decode cX7_settleAllAnew 44 = .ok (.aload_n 0, 1) := by decide +kernel
theorem dX7_settleAllAnew_45 : decode cX7_settleAllAnew 45 = .ok (.getfield 38, 3) := by decide +kernel
theorem dX7_settleAllAnew_48 : decode cX7_settleAllAnew 48 = .ok (.aload_n 3, 1) := by decide +kernel
theorem dX7_settleAllAnew_49 : decode cX7_settleAllAnew 49 = .ok (.getfield 346, 3) := by decide +kernel
theorem dX7_settleAllAnew_52 : decode cX7_settleAllAnew 52 = .ok (.invokevirtual 251, 3) := by decide +kernel
theorem dX7_settleAllAnew_55 : decode cX7_settleAllAnew 55 = .ok (.goto 31, 3) := by decide +kernel
theorem dX7_settleAllAnew_58 : decode cX7_settleAllAnew 58 = .ok (.aload_n 0, 1) := by decide +kernel
theorem dX7_settleAllAnew_59 : decode cX7_settleAllAnew 59 = .ok (.getfield 38, 3) := by decide +kernel
theorem dX7_settleAllAnew_62 : decode cX7_settleAllAnew 62 = .ok (.aload_n 3, 1) := by decide +kernel
theorem dX7_settleAllAnew_63 : decode cX7_settleAllAnew 63 = .ok (.getfield 346, 3) := by decide +kernel
theorem dX7_settleAllAnew_66 : decode cX7_settleAllAnew 66 = .ok (.aload_n 0, 1) := by decide +kernel
theorem dX7_settleAllAnew_67 : decode cX7_settleAllAnew 67 = .ok (.aload_n 3, 1) := by decide +kernel
theorem dX7_settleAllAnew_68 : decode cX7_settleAllAnew 68 = .ok (.aload_n 2, 1) := by decide +kernel
theorem dX7_settleAllAnew_69 : decode cX7_settleAllAnew 69 = .ok (.getfield 386, 3) := by decide +kernel
theorem dX7_settleAllAnew_72 : decode cX7_settleAllAnew 72 = .ok (.aload_n 2, 1) := by decide +kernel
theorem dX7_settleAllAnew_73 : decode cX7_settleAllAnew 73 = .ok (.getfield 388, 3) := by decide +kernel
theorem dX7_settleAllAnew_76 : decode cX7_settleAllAnew 76 = .ok (.aload_n 0, 1) := by decide +kernel
theorem dX7_settleAllAnew_77 : decode cX7_settleAllAnew 77 = .ok (.getfield 38, 3) := by decide +kernel
theorem dX7_settleAllAnew_80 : decode cX7_settleAllAnew 80 = .ok (.invokevirtual 355, 3) := by decide +kernel
theorem dX7_settleAllAnew_83 : decode cX7_settleAllAnew 83 = .ok (.invokevirtual 359, 3) := by decide +kernel
theorem dX7_settleAllAnew_86 : decode cX7_settleAllAnew 86 = .ok (.iinc 1 1, 3) := by decide +kernel
theorem dX7_settleAllAnew_89 : decode cX7_settleAllAnew 89 = .ok (.goto (-80), 3) := by decide +kernel
theorem dX7_settleAllAnew_92 : decode cX7_settleAllAnew 92 = .ok (.return_, 1) := by decide +kernel
theorem dX7_presentSanctions_0 : decode cX7_presentSanctions 0 = .ok (.iconst 0, 1) := by decide +kernel
theorem dX7_presentSanctions_1 : decode cX7_presentSanctions 1 = .ok (.istore_n 2, 1) := by decide +kernel
theorem dX7_presentSanctions_2 : decode cX7_presentSanctions 2 = .ok (.iconst 0, 1) := by decide +kernel
theorem dX7_presentSanctions_3 : decode cX7_presentSanctions 3 = .ok (.istore_n 3, 1) := by decide +kernel
theorem dX7_presentSanctions_4 : decode cX7_presentSanctions 4 = .ok (.iload_n 3, 1) := by decide +kernel
theorem dX7_presentSanctions_5 : decode cX7_presentSanctions 5 = .ok (.aload_n 0, 1) := by decide +kernel
theorem dX7_presentSanctions_6 : decode cX7_presentSanctions 6 = .ok (.getfield 25, 3) := by decide +kernel
theorem dX7_presentSanctions_9 : decode cX7_presentSanctions 9 = .ok (.invokevirtual 52, 3) := by decide +kernel
theorem dX7_presentSanctions_12 : decode cX7_presentSanctions 12 = .ok (.if_icmp .ge 46, 3) := by decide +kernel
theorem dX7_presentSanctions_15 : decode cX7_presentSanctions 15 = .ok (.aload_n 0, 1) := by decide +kernel
theorem dX7_presentSanctions_16 : decode cX7_presentSanctions 16 = .ok (.getfield 25, 3) := by decide +kernel
theorem dX7_presentSanctions_19 : decode cX7_presentSanctions 19 = .ok (.iload_n 3, 1) := by decide +kernel
theorem dX7_presentSanctions_20 : decode cX7_presentSanctions 20 = .ok (.invokevirtual 117, 3) := by decide +kernel
theorem dX7_presentSanctions_23 : decode cX7_presentSanctions 23 = .ok (.checkcast 143, 3) := by decide +kernel
theorem dX7_presentSanctions_26 : decode cX7_presentSanctions 26 = .ok (.astore 4, 2) := by decide +kernel
theorem dX7_presentSanctions_28 : decode cX7_presentSanctions 28 = .ok (.aload 4, 2) := by decide +kernel
theorem dX7_presentSanctions_30 : decode cX7_presentSanctions 30 = .ok (.getfield 145, 3) := by decide +kernel
theorem dX7_presentSanctions_33 : decode cX7_presentSanctions 33 = .ok (.aload_n 1, 1) := by decide +kernel
theorem dX7_presentSanctions_34 : decode cX7_presentSanctions 34 = .ok (.if_acmp .ne 18, 3) := by decide +kernel
theorem dX7_presentSanctions_37 : decode cX7_presentSanctions 37 = .ok (.aload 4, 2) := by decide +kernel
theorem dX7_presentSanctions_39 : decode cX7_presentSanctions 39 = .ok (.aload_n 0, 1) := by decide +kernel
theorem dX7_presentSanctions_40 : decode cX7_presentSanctions 40 = .ok (.getfield 41, 3) := by decide +kernel
theorem dX7_presentSanctions_43 : decode cX7_presentSanctions 43 = .ok (.invokevirtual 149, 3) := by decide +kernel
theorem dX7_presentSanctions_46 : decode cX7_presentSanctions 46 = .ok (.ifCond .eq 6, 3) := by decide +kernel
theorem dX7_presentSanctions_49 : decode cX7_presentSanctions 49 = .ok (.iinc 2 1, 3) := by decide +kernel
theorem dX7_presentSanctions_52 : decode cX7_presentSanctions 52 = .ok (.iinc 3 1, 3) := by decide +kernel
theorem dX7_presentSanctions_55 : decode cX7_presentSanctions 55 = .ok (.goto (-51), 3) := by decide +kernel
theorem dX7_presentSanctions_58 : decode cX7_presentSanctions 58 = .ok (.iload_n 2, 1) := by decide +kernel
theorem dX7_presentSanctions_59 : decode cX7_presentSanctions 59 = .ok (.ireturn, 1) := by decide +kernel
theorem dX7_reportsInState_0 : decode cX7_reportsInState 0 = .ok (.iconst 0, 1) := by decide +kernel
theorem dX7_reportsInState_1 : decode cX7_reportsInState 1 = .ok (.istore_n 2, 1) := by decide +kernel
theorem dX7_reportsInState_2 : decode cX7_reportsInState 2 = .ok (.iconst 0, 1) := by decide +kernel
theorem dX7_reportsInState_3 : decode cX7_reportsInState 3 = .ok (.istore_n 3, 1) := by decide +kernel
theorem dX7_reportsInState_4 : decode cX7_reportsInState 4 = .ok (.iload_n 3, 1) := by decide +kernel
theorem dX7_reportsInState_5 : decode cX7_reportsInState 5 = .ok (.aload_n 0, 1) := by decide +kernel
theorem dX7_reportsInState_6 : decode cX7_reportsInState 6 = .ok (.getfield 22, 3) := by decide +kernel
theorem dX7_reportsInState_9 : decode cX7_reportsInState 9 = .ok (.invokevirtual 52, 3) := by decide +kernel
theorem dX7_reportsInState_12 : decode cX7_reportsInState 12 = .ok (.if_icmp .ge 30, 3) := by decide +kernel
theorem dX7_reportsInState_15 : decode cX7_reportsInState 15 = .ok (.aload_n 0, 1) := by decide +kernel
theorem dX7_reportsInState_16 : decode cX7_reportsInState 16 = .ok (.getfield 22, 3) := by decide +kernel
theorem dX7_reportsInState_19 : decode cX7_reportsInState 19 = .ok (.iload_n 3, 1) := by decide +kernel
theorem dX7_reportsInState_20 : decode cX7_reportsInState 20 = .ok (.invokevirtual 117, 3) := by decide +kernel
theorem dX7_reportsInState_23 : decode cX7_reportsInState 23 = .ok (.checkcast 168, 3) := by decide +kernel
theorem dX7_reportsInState_26 : decode cX7_reportsInState 26 = .ok (.getfield 185, 3) := by decide +kernel
theorem dX7_reportsInState_29 : decode cX7_reportsInState 29 = .ok (.iload_n 1, 1) := by decide +kernel
theorem dX7_reportsInState_30 : decode cX7_reportsInState 30 = .ok (.if_icmp .ne 6, 3) := by decide +kernel
theorem dX7_reportsInState_33 : decode cX7_reportsInState 33 = .ok (.iinc 2 1, 3) := by decide +kernel
theorem dX7_reportsInState_36 : decode cX7_reportsInState 36 = .ok (.iinc 3 1, 3) := by decide +kernel
theorem dX7_reportsInState_39 : decode cX7_reportsInState 39 = .ok (.goto (-35), 3) := by decide +kernel
theorem dX7_reportsInState_42 : decode cX7_reportsInState 42 = .ok (.iload_n 2, 1) := by decide +kernel
theorem dX7_reportsInState_43 : decode cX7_reportsInState 43 = .ok (.ireturn, 1) := by decide +kernel
theorem dX7_guiltyReports_0 : decode cX7_guiltyReports 0 = .ok (.iconst 0, 1) := by decide +kernel
theorem dX7_guiltyReports_1 : decode cX7_guiltyReports 1 = .ok (.istore_n 1, 1) := by decide +kernel
theorem dX7_guiltyReports_2 : decode cX7_guiltyReports 2 = .ok (.iconst 0, 1) := by decide +kernel
theorem dX7_guiltyReports_3 : decode cX7_guiltyReports 3 = .ok (.istore_n 2, 1) := by decide +kernel
theorem dX7_guiltyReports_4 : decode cX7_guiltyReports 4 = .ok (.iload_n 2, 1) := by decide +kernel
theorem dX7_guiltyReports_5 : decode cX7_guiltyReports 5 = .ok (.aload_n 0, 1) := by decide +kernel
theorem dX7_guiltyReports_6 : decode cX7_guiltyReports 6 = .ok (.getfield 22, 3) := by decide +kernel
theorem dX7_guiltyReports_9 : decode cX7_guiltyReports 9 = .ok (.invokevirtual 52, 3) := by decide +kernel
theorem dX7_guiltyReports_12 : decode cX7_guiltyReports 12 = .ok (.if_icmp .ge 25, 3) := by decide +kernel
theorem dX7_guiltyReports_15 : decode cX7_guiltyReports 15 = .ok (.aload_n 0, 1) := by decide +kernel
theorem dX7_guiltyReports_16 : decode cX7_guiltyReports 16 = .ok (.getfield 34, 3) := by decide +kernel
theorem dX7_guiltyReports_19 : decode cX7_guiltyReports 19 = .ok (.iload_n 2, 1) := by decide +kernel
theorem dX7_guiltyReports_20 : decode cX7_guiltyReports 20 = .ok (.invokevirtual 230, 3) := by decide +kernel
theorem dX7_guiltyReports_23 : decode cX7_guiltyReports 23 = .ok (.bipush 103, 2) := by decide +kernel
theorem dX7_guiltyReports_25 : decode cX7_guiltyReports 25 = .ok (.if_icmp .ne 6, 3) := by decide +kernel
theorem dX7_guiltyReports_28 : decode cX7_guiltyReports 28 = .ok (.iinc 1 1, 3) := by decide +kernel
theorem dX7_guiltyReports_31 : decode cX7_guiltyReports 31 = .ok (.iinc 2 1, 3) := by decide +kernel
theorem dX7_guiltyReports_34 : decode cX7_guiltyReports 34 = .ok (.goto (-30), 3) := by decide +kernel
theorem dX7_guiltyReports_37 : decode cX7_guiltyReports 37 = .ok (.iload_n 1, 1) := by decide +kernel
theorem dX7_guiltyReports_38 : decode cX7_guiltyReports 38 = .ok (.ireturn, 1) := by decide +kernel
theorem dX7_reportsByBots_0 : decode cX7_reportsByBots 0 = .ok (.iconst 0, 1) := by decide +kernel
theorem dX7_reportsByBots_1 : decode cX7_reportsByBots 1 = .ok (.istore_n 1, 1) := by decide +kernel
theorem dX7_reportsByBots_2 : decode cX7_reportsByBots 2 = .ok (.iconst 0, 1) := by decide +kernel
theorem dX7_reportsByBots_3 : decode cX7_reportsByBots 3 = .ok (.istore_n 2, 1) := by decide +kernel
theorem dX7_reportsByBots_4 : decode cX7_reportsByBots 4 = .ok (.iload_n 2, 1) := by decide +kernel
theorem dX7_reportsByBots_5 : decode cX7_reportsByBots 5 = .ok (.aload_n 0, 1) := by decide +kernel
theorem dX7_reportsByBots_6 : decode cX7_reportsByBots 6 = .ok (.getfield 22, 3) := by decide +kernel
theorem dX7_reportsByBots_9 : decode cX7_reportsByBots 9 = .ok (.invokevirtual 52, 3) := by decide +kernel
theorem dX7_reportsByBots_12 : decode cX7_reportsByBots 12 = .ok (.if_icmp .ge 29, 3) := by decide +kernel
theorem dX7_reportsByBots_15 : decode cX7_reportsByBots 15 = .ok (.aload_n 0, 1) := by decide +kernel
theorem dX7_reportsByBots_16 : decode cX7_reportsByBots 16 = .ok (.getfield 22, 3) := by decide +kernel
theorem dX7_reportsByBots_19 : decode cX7_reportsByBots 19 = .ok (.iload_n 2, 1) := by decide +kernel
theorem dX7_reportsByBots_20 : decode cX7_reportsByBots 20 = .ok (.invokevirtual 117, 3) := by decide +kernel
theorem dX7_reportsByBots_23 : decode cX7_reportsByBots 23 = .ok (.checkcast 168, 3) := by decide +kernel
theorem dX7_reportsByBots_26 : decode cX7_reportsByBots 26 = .ok (.invokevirtual 237, 3) := by decide +kernel
theorem dX7_reportsByBots_29 : decode cX7_reportsByBots 29 = .ok (.ifCond .eq 6, 3) := by decide +kernel
theorem dX7_reportsByBots_32 : decode cX7_reportsByBots 32 = .ok (.iinc 1 1, 3) := by decide +kernel
theorem dX7_reportsByBots_35 : decode cX7_reportsByBots 35 = .ok (.iinc 2 1, 3) := by decide +kernel
theorem dX7_reportsByBots_38 : decode cX7_reportsByBots 38 = .ok (.goto (-34), 3) := by decide +kernel
theorem dX7_reportsByBots_41 : decode cX7_reportsByBots 41 = .ok (.iload_n 1, 1) := by decide +kernel
theorem dX7_reportsByBots_42 : decode cX7_reportsByBots 42 = .ok (.ireturn, 1) := by decide +kernel
theorem dX7_reversedReports_0 : decode cX7_reversedReports 0 = .ok (.iconst 0, 1) := by decide +kernel
theorem dX7_reversedReports_1 : decode cX7_reversedReports 1 = .ok (.istore_n 1, 1) := by decide +kernel
theorem dX7_reversedReports_2 : decode cX7_reversedReports 2 = .ok (.iconst 0, 1) := by decide +kernel
theorem dX7_reversedReports_3 : decode cX7_reversedReports 3 = .ok (.istore_n 2, 1) := by decide +kernel
theorem dX7_reversedReports_4 : decode cX7_reversedReports 4 = .ok (.iload_n 2, 1) := by decide +kernel
theorem dX7_reversedReports_5 : decode cX7_reversedReports 5 = .ok (.aload_n 0, 1) := by decide +kernel
theorem dX7_reversedReports_6 : decode cX7_reversedReports 6 = .ok (.getfield 22, 3) := by decide +kernel
theorem dX7_reversedReports_9 : decode cX7_reversedReports 9 = .ok (.invokevirtual 52, 3) := by decide +kernel
theorem dX7_reversedReports_12 : decode cX7_reversedReports 12 = .ok (.if_icmp .ge 29, 3) := by decide +kernel
theorem dX7_reversedReports_15 : decode cX7_reversedReports 15 = .ok (.aload_n 0, 1) := by decide +kernel
theorem dX7_reversedReports_16 : decode cX7_reversedReports 16 = .ok (.getfield 22, 3) := by decide +kernel
theorem dX7_reversedReports_19 : decode cX7_reversedReports 19 = .ok (.iload_n 2, 1) := by decide +kernel
theorem dX7_reversedReports_20 : decode cX7_reversedReports 20 = .ok (.invokevirtual 117, 3) := by decide +kernel
theorem dX7_reversedReports_23 : decode cX7_reversedReports 23 = .ok (.checkcast 168, 3) := by decide +kernel
theorem dX7_reversedReports_26 : decode cX7_reversedReports 26 = .ok (.getfield 270, 3) := by decide +kernel
theorem dX7_reversedReports_29 : decode cX7_reversedReports 29 = .ok (.ifCond .eq 6, 3) := by decide +kernel
theorem dX7_reversedReports_32 : decode cX7_reversedReports 32 = .ok (.iinc 1 1, 3) := by decide +kernel
theorem dX7_reversedReports_35 : decode cX7_reversedReports 35 = .ok (.iinc 2 1, 3) := by decide +kernel
theorem dX7_reversedReports_38 : decode cX7_reversedReports 38 = .ok (.goto (-34), 3) := by decide +kernel
theorem dX7_reversedReports_41 : decode cX7_reversedReports 41 = .ok (.iload_n 1, 1) := by decide +kernel
theorem dX7_reversedReports_42 : decode cX7_reversedReports 42 = .ok (.ireturn, 1) := by decide +kernel
end
section
theorem dX8_init_0 : decode cX8_init 0 = .ok (.aload_n 0, 1) := by decide +kernel
theorem dX8_init_1 : decode cX8_init 1 = .ok (.invokespecial 1, 3) := by decide +kernel
theorem dX8_init_4 : decode cX8_init 4 = .ok (.aload_n 0, 1) := by decide +kernel
theorem dX8_init_5 : decode cX8_init 5 = .ok (.bipush 12, 2) := by decide +kernel
theorem dX8_init_7 : decode cX8_init 7 = .ok (.newarray .int, 2) := by decide +kernel
theorem dX8_init_9 : decode cX8_init 9 = .ok (.putfield 9, 3) := by decide +kernel
theorem dX8_init_12 : decode cX8_init 12 = .ok (.aload_n 0, 1) := by decide +kernel
theorem dX8_init_13 : decode cX8_init 13 = .ok (.bipush 12, 2) := by decide +kernel
theorem dX8_init_15 : decode cX8_init 15 = .ok (.newarray .int, 2) := by decide +kernel
theorem dX8_init_17 : decode cX8_init 17 = .ok (.putfield 13, 3) := by decide +kernel
theorem dX8_init_20 : decode cX8_init 20 = .ok (.aload_n 0, 1) := by decide +kernel
theorem dX8_init_21 : decode cX8_init 21 = .ok (.bipush 12, 2) := by decide +kernel
theorem dX8_init_23 : decode cX8_init 23 = .ok (.newarray .int, 2) := by decide +kernel
theorem dX8_init_25 : decode cX8_init 25 = .ok (.putfield 16, 3) := by decide +kernel
theorem dX8_init_28 : decode cX8_init 28 = .ok (.aload_n 0, 1) := by decide +kernel
theorem dX8_init_29 : decode cX8_init 29 = .ok (.bipush 12, 2) := by decide +kernel
theorem dX8_init_31 : decode cX8_init 31 = .ok (.newarray .int, 2) := by decide +kernel
theorem dX8_init_33 : decode cX8_init 33 = .ok (.putfield 19, 3) := by decide +kernel
theorem dX8_init_36 : decode cX8_init 36 = .ok (.aload_n 0, 1) := by decide +kernel
theorem dX8_init_37 : decode cX8_init 37 = .ok (.bipush 12, 2) := by decide +kernel
theorem dX8_init_39 : decode cX8_init 39 = .ok (.newarray .int, 2) := by decide +kernel
theorem dX8_init_41 : decode cX8_init 41 = .ok (.putfield 22, 3) := by decide +kernel
theorem dX8_init_44 : decode cX8_init 44 = .ok (.aload_n 0, 1) := by decide +kernel
theorem dX8_init_45 : decode cX8_init 45 = .ok (.bipush 8, 2) := by decide +kernel
theorem dX8_init_47 : decode cX8_init 47 = .ok (.newarray .int, 2) := by decide +kernel
theorem dX8_init_49 : decode cX8_init 49 = .ok (.putfield 25, 3) := by decide +kernel
theorem dX8_init_52 : decode cX8_init 52 = .ok (.aload_n 0, 1) := by decide +kernel
theorem dX8_init_53 : decode cX8_init 53 = .ok (.iconst 4, 1) := by decide +kernel
theorem dX8_init_54 : decode cX8_init 54 = .ok (.newarray .int, 2) := by decide +kernel
theorem dX8_init_56 : decode cX8_init 56 = .ok (.putfield 28, 3) := by decide +kernel
theorem dX8_init_59 : decode cX8_init 59 = .ok (.aload_n 0, 1) := by decide +kernel
theorem dX8_init_60 : decode cX8_init 60 = .ok (.iconst 4, 1) := by decide +kernel
theorem dX8_init_61 : decode cX8_init 61 = .ok (.newarray .int, 2) := by decide +kernel
theorem dX8_init_63 : decode cX8_init 63 = .ok (.putfield 31, 3) := by decide +kernel
theorem dX8_init_66 : decode cX8_init 66 = .ok (.aload_n 0, 1) := by decide +kernel
theorem dX8_init_67 : decode cX8_init 67 = .ok (.bipush 12, 2) := by decide +kernel
theorem dX8_init_69 : decode cX8_init 69 = .ok (.newarray .boolean, 2) := by decide +kernel
theorem dX8_init_71 : decode cX8_init 71 = .ok (.putfield 34, 3) := by decide +kernel
theorem dX8_init_74 : decode cX8_init 74 = .ok (.aload_n 0, 1) := by decide +kernel
theorem dX8_init_75 : decode cX8_init 75 = .ok (.iconst 5, 1) := by decide +kernel
theorem dX8_init_76 : decode cX8_init 76 = .ok (.putfield 38, 3) := by decide +kernel
theorem dX8_init_79 : decode cX8_init 79 = .ok (.aload_n 0, 1) := by decide +kernel
theorem dX8_init_80 : decode cX8_init 80 = .ok (.bipush 20, 2) := by decide +kernel
theorem dX8_init_82 : decode cX8_init 82 = .ok (.newarray .int, 2) := by decide +kernel
theorem dX8_init_84 : decode cX8_init 84 = .ok (.putfield 42, 3) := by decide +kernel
theorem dX8_init_87 : decode cX8_init 87 = .ok (.aload_n 0, 1) := by decide +kernel
theorem dX8_init_88 : decode cX8_init 88 = .ok (.bipush 20, 2) := by decide +kernel
theorem dX8_init_90 : decode cX8_init 90 = .ok (.newarray .int, 2) := by decide +kernel
theorem dX8_init_92 : decode cX8_init 92 = .ok (.putfield 45, 3) := by decide +kernel
theorem dX8_init_95 : decode cX8_init 95 = .ok (.aload_n 0, 1) := by decide +kernel
theorem dX8_init_96 : decode cX8_init 96 = .ok (.bipush 20, 2) := by decide +kernel
theorem dX8_init_98 : decode cX8_init 98 = .ok (.newarray .int, 2) := by decide +kernel
theorem dX8_init_100 : decode cX8_init 100 = .ok (.putfield 48, 3) := by decide +kernel
theorem dX8_init_103 : decode cX8_init 103 = .ok (.aload_n 0, 1) := by decide +kernel
theorem dX8_init_104 : decode cX8_init 104 = .ok (.bipush 20, 2) := by decide +kernel
theorem dX8_init_106 : decode cX8_init 106 = .ok (.newarray .int, 2) := by decide +kernel
theorem dX8_init_108 : decode cX8_init 108 = .ok (.putfield 51, 3) := by decide +kernel
theorem dX8_init_111 : decode cX8_init 111 = .ok (.aload_n 0, 1) := by decide +kernel
theorem dX8_init_112 : decode cX8_init 112 = .ok (.bipush 20, 2) := by decide +kernel
theorem dX8_init_114 : decode cX8_init 114 = .ok (.newarray .int, 2) := by decide +kernel
theorem dX8_init_116 : decode cX8_init 116 = .ok (.putfield 54, 3) := by decide +kernel
theorem dX8_init_119 : decode cX8_init 119 = .ok (.aload_n 0, 1) := by decide +kernel
theorem dX8_init_120 : decode cX8_init 120 = .ok (.bipush 20, 2) := by decide +kernel
theorem dX8_init_122 : decode cX8_init 122 = .ok (.newarray .int, 2) := by decide +kernel
theorem dX8_init_124 : decode cX8_init 124 = .ok (.putfield 57, 3) := by decide +kernel
theorem dX8_init_127 : decode cX8_init 127 = .ok (.aload_n 0, 1) := by decide +kernel
theorem dX8_init_128 : decode cX8_init 128 = .ok (.bipush 20, 2) := by decide +kernel
theorem dX8_init_130 : decode cX8_init 130 = .ok (.newarray .int, 2) := by decide +kernel
theorem dX8_init_132 : decode cX8_init 132 = .ok (.putfield 60, 3) := by decide +kernel
theorem dX8_init_135 : decode cX8_init 135 = .ok (.aload_n 0, 1) := by decide +kernel
theorem dX8_init_136 : decode cX8_init 136 = .ok (.bipush 20, 2) := by decide +kernel
theorem dX8_init_138 : decode cX8_init 138 = .ok (.newarray .int, 2) := by decide +kernel
theorem dX8_init_140 : decode cX8_init 140 = .ok (.putfield 63, 3) := by decide +kernel
theorem dX8_init_143 : decode cX8_init 143 = .ok (.aload_n 0, 1) := by decide +kernel
theorem dX8_init_144 : decode cX8_init 144 = .ok (.bipush 20, 2) := by decide +kernel
theorem dX8_init_146 : decode cX8_init 146 = .ok (.newarray .int, 2) := by decide +kernel
theorem dX8_init_148 : decode cX8_init 148 = .ok (.putfield 66, 3) := by decide +kernel
theorem dX8_init_151 : decode cX8_init 151 = .ok (.aload_n 0, 1) := by decide +kernel
theorem dX8_init_152 : decode cX8_init 152 = .ok (.bipush 20, 2) := by decide +kernel
theorem dX8_init_154 : decode cX8_init 154 = .ok (.newarray .char, 2) := by decide +kernel
theorem dX8_init_156 : decode cX8_init 156 = .ok (.putfield 69, 3) := by decide +kernel
theorem dX8_init_159 : decode cX8_init 159 = .ok (.aload_n 0, 1) := by decide +kernel
theorem dX8_init_160 : decode cX8_init 160 = .ok (.bipush 20, 2) := by decide +kernel
theorem dX8_init_162 : decode cX8_init 162 = .ok (.newarray .char, 2) := by decide +kernel
theorem dX8_init_164 : decode cX8_init 164 = .ok (.putfield 73, 3) := by decide +kernel
theorem dX8_init_167 : decode cX8_init 167 = .ok (.aload_n 0, 1) := by decide +kernel
theorem dX8_init_168 : decode cX8_init 168 = .ok (.bipush 20, 2) := by decide +kernel
theorem dX8_init_170 : decode cX8_init 170 = .ok (.newarray .char, 2) := by decide +kernel
theorem dX8_init_172 : decode cX8_init 172 = .ok (.putfield 76, 3) := by decide +kernel
theorem dX8_init_175 : decode cX8_init 175 = .ok (.aload_n 0, 1) := by decide +kernel
theorem dX8_init_176 : decode cX8_init 176 = .ok (.bipush 20, 2) := by decide +kernel
theorem dX8_init_178 : decode cX8_init 178 = .ok (.bipush 8, 2) := by decide +kernel
theorem dX8_init_180 : decode cX8_init 180 = .ok (.multianewarray 79 2, 4) := by decide +kernel
theorem dX8_init_184 : decode cX8_init 184 = .ok (.putfield 81, 3) := by decide +kernel
theorem dX8_init_187 : decode cX8_init 187 = .ok (.return_, 1) := by decide +kernel
theorem dX8_thrown_0 : decode cX8_thrown 0 = .ok (.aload_n 0, 1) := by decide +kernel
theorem dX8_thrown_1 : decode cX8_thrown 1 = .ok (.getfield 84, 3) := by decide +kernel
theorem dX8_thrown_4 : decode cX8_thrown 4 = .ok (.ireturn, 1) := by decide +kernel
theorem dX8_fails_0 : decode cX8_fails 0 = .ok (.aload_n 0, 1) := by decide +kernel
theorem dX8_fails_1 : decode cX8_fails 1 = .ok (.iload_n 1, 1) := by decide +kernel
theorem dX8_fails_2 : decode cX8_fails 2 = .ok (.putfield 84, 3) := by decide +kernel
theorem dX8_fails_5 : decode cX8_fails 5 = .ok (.iconst 0, 1) := by decide +kernel
theorem dX8_fails_6 : decode cX8_fails 6 = .ok (.ireturn, 1) := by decide +kernel
theorem dX8_isBetween_0 : decode cX8_isBetween 0 = .ok (.iload_n 1, 1) := by decide +kernel
theorem dX8_isBetween_1 : decode cX8_isBetween 1 = .ok (.iload_n 0, 1) := by decide +kernel
theorem dX8_isBetween_2 : decode cX8_isBetween 2 = .ok (.if_icmp .gt 12, 3) := by decide +kernel
theorem dX8_isBetween_5 : decode cX8_isBetween 5 = .ok (.iload_n 0, 1) := by decide +kernel
theorem dX8_isBetween_6 : decode cX8_isBetween 6 = .ok (.iload_n 2, 1) := by decide +kernel
theorem dX8_isBetween_7 : decode cX8_isBetween 7 = .ok (.if_icmp .gt 7, 3) := by decide +kernel
theorem dX8_isBetween_10 : decode cX8_isBetween 10 = .ok (.iconst 1, 1) := by decide +kernel
theorem dX8_isBetween_11 : decode cX8_isBetween 11 = .ok (.goto 4, 3) := by decide +kernel
theorem dX8_isBetween_14 : decode cX8_isBetween 14 = .ok (.iconst 0, 1) := by decide +kernel
theorem dX8_isBetween_15 : decode cX8_isBetween 15 = .ok (.ireturn, 1) := by decide +kernel
theorem dX8_isRule_0 : decode cX8_isRule 0 = .ok (.iload_n 1, 1) := by decide +kernel
theorem dX8_isRule_1 : decode cX8_isRule 1 = .ok (.iconst 0, 1) := by decide +kernel
theorem dX8_isRule_2 : decode cX8_isRule 2 = .ok (.aload_n 0, 1) := by decide +kernel
theorem dX8_isRule_3 : decode cX8_isRule 3 = .ok (.getfield 87, 3) := by decide +kernel
theorem dX8_isRule_6 : decode cX8_isRule 6 = .ok (.iconst 1, 1) := by decide +kernel
theorem dX8_isRule_7 : decode cX8_isRule 7 = .ok (.isub, 1) := by decide +kernel
theorem dX8_isRule_8 : decode cX8_isRule 8 = .ok (.invokestatic 90, 3) := by decide +kernel
theorem dX8_isRule_11 : decode cX8_isRule 11 = .ok (.ireturn, 1) := by decide +kernel
theorem dX8_isUser_0 : decode cX8_isUser 0 = .ok (.iload_n 1, 1) := by decide +kernel
theorem dX8_isUser_1 : decode cX8_isUser 1 = .ok (.iconst 0, 1) := by decide +kernel
theorem dX8_isUser_2 : decode cX8_isUser 2 = .ok (.aload_n 0, 1) := by decide +kernel
theorem dX8_isUser_3 : decode cX8_isUser 3 = .ok (.getfield 94, 3) := by decide +kernel
theorem dX8_isUser_6 : decode cX8_isUser 6 = .ok (.iconst 1, 1) := by decide +kernel
theorem dX8_isUser_7 : decode cX8_isUser 7 = .ok (.isub, 1) := by decide +kernel
theorem dX8_isUser_8 : decode cX8_isUser 8 = .ok (.invokestatic 90, 3) := by decide +kernel
theorem dX8_isUser_11 : decode cX8_isUser 11 = .ok (.ireturn, 1) := by decide +kernel
theorem dX8_isReport_0 : decode cX8_isReport 0 = .ok (.iload_n 1, 1) := by decide +kernel
theorem dX8_isReport_1 : decode cX8_isReport 1 = .ok (.iconst 0, 1) := by decide +kernel
theorem dX8_isReport_2 : decode cX8_isReport 2 = .ok (.aload_n 0, 1) := by decide +kernel
theorem dX8_isReport_3 : decode cX8_isReport 3 = .ok (.getfield 97, 3) := by decide +kernel
theorem dX8_isReport_6 : decode cX8_isReport 6 = .ok (.iconst 1, 1) := by decide +kernel
theorem dX8_isReport_7 : decode cX8_isReport 7 = .ok (.isub, 1) := by decide +kernel
theorem dX8_isReport_8 : decode cX8_isReport 8 = .ok (.invokestatic 90, 3) := by decide +kernel
theorem dX8_isReport_11 : decode cX8_isReport 11 = .ok (.ireturn, 1) := by decide +kernel
theorem dX8_addRule_0 : decode cX8_addRule 0 = .ok (.aload_n 0, 1) := by decide +kernel
theorem dX8_addRule_1 : decode cX8_addRule 1 = .ok (.iconst 0, 1) := by decide +kernel
theorem dX8_addRule_2 : decode cX8_addRule 2 = .ok (.putfield 84, 3) := by decide +kernel
theorem dX8_addRule_5 : decode cX8_addRule 5 = .ok (.iload_n 1, 1) := by decide +kernel
theorem dX8_addRule_6 : decode cX8_addRule 6 = .ok (.iconst 0, 1) := by decide +kernel
theorem dX8_addRule_7 : decode cX8_addRule 7 = .ok (.bipush 7, 2) := by decide +kernel
theorem dX8_addRule_9 : decode cX8_addRule 9 = .ok (.invokestatic 90, 3) := by decide +kernel
theorem dX8_addRule_12 : decode cX8_addRule 12 = .ok (.ifCond .eq 41, 3) := by decide +kernel
theorem dX8_addRule_15 : decode cX8_addRule 15 = .ok (.iload_n 3, 1) := by decide +kernel
theorem dX8_addRule_16 : decode cX8_addRule 16 = .ok (.iconst 0, 1) := by decide +kernel
theorem dX8_addRule_17 : decode cX8_addRule 17 = .ok (.bipush 9, 2) := by decide +kernel
theorem dX8_addRule_19 : decode cX8_addRule 19 = .ok (.invokestatic 90, 3) := by decide +kernel
theorem dX8_addRule_22 : decode cX8_addRule 22 = .ok (.ifCond .eq 31, 3) := by decide +kernel
theorem dX8_addRule_25 : decode cX8_addRule 25 = .ok (.iload 4, 2) := by decide +kernel
theorem dX8_addRule_27 : decode cX8_addRule 27 = .ok (.iconst 1, 1) := by decide +kernel
theorem dX8_addRule_28 : decode cX8_addRule 28 = .ok (.bipush 60, 2) := by decide +kernel
theorem dX8_addRule_30 : decode cX8_addRule 30 = .ok (.invokestatic 90, 3) := by decide +kernel
theorem dX8_addRule_33 : decode cX8_addRule 33 = .ok (.ifCond .eq 20, 3) := by decide +kernel
theorem dX8_addRule_36 : decode cX8_addRule 36 = .ok (.iload 5, 2) := by decide +kernel
theorem dX8_addRule_38 : decode cX8_addRule 38 = .ok (.aload_n 0, 1) := by decide +kernel
theorem dX8_addRule_39 : decode cX8_addRule 39 = .ok (.getfield 100, 3) := by decide +kernel
theorem dX8_addRule_42 : decode cX8_addRule 42 = .ok (.iconst 1, 1) := by decide +kernel
theorem dX8_addRule_43 : decode cX8_addRule 43 = .ok (.iadd, 1) := by decide +kernel
theorem dX8_addRule_44 : decode cX8_addRule 44 = .ok (.sipush 1000, 3) := by decide +kernel
theorem dX8_addRule_47 : decode cX8_addRule 47 = .ok (.invokestatic 90, 3) := by decide +kernel
theorem dX8_addRule_50 : decode cX8_addRule 50 = .ok (.ifCond .ne 9, 3) := by decide +kernel
theorem dX8_addRule_53 : decode cX8_addRule 53 = .ok (.aload_n 0, 1) := by decide +kernel
theorem dX8_addRule_54 : decode cX8_addRule 54 = .ok (.iconst 1, 1) := by decide +kernel
theorem dX8_addRule_55 : decode cX8_addRule 55 = .ok (.invokevirtual 103, 3) := by decide +kernel
theorem dX8_addRule_58 : decode cX8_addRule 58 = .ok (.ireturn, 1) := by decide +kernel
theorem dX8_addRule_59 : decode cX8_addRule 59 = .ok (.aload_n 0, 1) := by decide +kernel
theorem dX8_addRule_60 : decode cX8_addRule 60 = .ok (.getfield 87, 3) := by decide +kernel
theorem dX8_addRule_63 : decode cX8_addRule 63 = .ok (.bipush 12, 2) := by decide +kernel
theorem dX8_addRule_65 : decode cX8_addRule 65 = .ok (.if_icmp .ne 9, 3) := by decide +kernel
theorem dX8_addRule_68 : decode cX8_addRule 68 = .ok (.aload_n 0, 1) := by decide +kernel
theorem dX8_addRule_69 : decode cX8_addRule 69 = .ok (.iconst 2, 1) := by decide +kernel
theorem dX8_addRule_70 : decode cX8_addRule 70 = .ok (.invokevirtual 103, 3) := by decide +kernel
theorem dX8_addRule_73 : decode cX8_addRule 73 = .ok (.ireturn, 1) := by decide +kernel
theorem dX8_addRule_74 : decode cX8_addRule 74 = .ok (.aload_n 0, 1) := by decide +kernel
theorem dX8_addRule_75 : decode cX8_addRule 75 = .ok (.getfield 9, 3) := by decide +kernel
theorem dX8_addRule_78 : decode cX8_addRule 78 = .ok (.aload_n 0, 1) := by decide +kernel
theorem dX8_addRule_79 : decode cX8_addRule 79 = .ok (.getfield 87, 3) := by decide +kernel
theorem dX8_addRule_82 : decode cX8_addRule 82 = .ok (.iload_n 1, 1) := by decide +kernel
theorem dX8_addRule_83 : decode cX8_addRule 83 = .ok (.iastore, 1) := by decide +kernel
theorem dX8_addRule_84 : decode cX8_addRule 84 = .ok (.aload_n 0, 1) := by decide +kernel
theorem dX8_addRule_85 : decode cX8_addRule 85 = .ok (.getfield 34, 3) := by decide +kernel
theorem dX8_addRule_88 : decode cX8_addRule 88 = .ok (.aload_n 0, 1) := by decide +kernel
theorem dX8_addRule_89 : decode cX8_addRule 89 = .ok (.getfield 87, 3) := by decide +kernel
theorem dX8_addRule_92 : decode cX8_addRule 92 = .ok (.iload_n 2, 1) := by decide +kernel
theorem dX8_addRule_93 : decode cX8_addRule 93 = .ok (.bastore, 1) := by decide +kernel
theorem dX8_addRule_94 : decode cX8_addRule 94 = .ok (.aload_n 0, 1) := by decide +kernel
theorem dX8_addRule_95 : decode cX8_addRule 95 = .ok (.getfield 13, 3) := by decide +kernel
theorem dX8_addRule_98 : decode cX8_addRule 98 = .ok (.aload_n 0, 1) := by decide +kernel
theorem dX8_addRule_99 : decode cX8_addRule 99 = .ok (.getfield 87, 3) := by decide +kernel
theorem dX8_addRule_102 : decode cX8_addRule 102 = .ok (.iload_n 3, 1) := by decide +kernel
theorem dX8_addRule_103 : decode cX8_addRule 103 = .ok (.iastore, 1) := by decide +kernel
theorem dX8_addRule_104 : decode cX8_addRule 104 = .ok (.aload_n 0, 1) := by decide +kernel
theorem dX8_addRule_105 : decode cX8_addRule 105 = .ok (.getfield 16, 3) := by decide +kernel
theorem dX8_addRule_108 : decode cX8_addRule 108 = .ok (.aload_n 0, 1) := by decide +kernel
theorem dX8_addRule_109 : decode cX8_addRule 109 = .ok (.getfield 87, 3) := by decide +kernel
theorem dX8_addRule_112 : decode cX8_addRule 112 = .ok (.iload 4, 2) := by decide +kernel
theorem dX8_addRule_114 : decode cX8_addRule 114 = .ok (.iastore, 1) := by decide +kernel
theorem dX8_addRule_115 : decode cX8_addRule 115 = .ok (.aload_n 0, 1) := by decide +kernel
theorem dX8_addRule_116 : decode cX8_addRule 116 = .ok (.getfield 19, 3) := by decide +kernel
theorem dX8_addRule_119 : decode cX8_addRule 119 = .ok (.aload_n 0, 1) := by decide +kernel
theorem dX8_addRule_120 : decode cX8_addRule 120 = .ok (.getfield 87, 3) := by decide +kernel
theorem dX8_addRule_123 : decode cX8_addRule 123 = .ok (.iload 5, 2) := by decide +kernel
theorem dX8_addRule_125 : decode cX8_addRule 125 = .ok (.iastore, 1) := by decide +kernel
theorem dX8_addRule_126 : decode cX8_addRule 126 = .ok (.aload_n 0, 1) := by decide +kernel
theorem dX8_addRule_127 : decode cX8_addRule 127 = .ok (.getfield 22, 3) := by decide +kernel
theorem dX8_addRule_130 : decode cX8_addRule 130 = .ok (.aload_n 0, 1) := by decide +kernel
theorem dX8_addRule_131 : decode cX8_addRule 131 = .ok (.getfield 87, 3) := by decide +kernel
theorem dX8_addRule_134 : decode cX8_addRule 134 = .ok (.ldc 109, 2) := by decide +kernel
theorem dX8_addRule_136 : decode cX8_addRule 136 = .ok (.iastore, 1) := by decide +kernel
theorem dX8_addRule_137 : decode cX8_addRule 137 = .ok (.aload_n 0, 1) := by decide +kernel
theorem dX8_addRule_138 : decode cX8_addRule 138 = .ok (.dup, 1) := by decide +kernel
theorem dX8_addRule_139 : decode cX8_addRule 139 = .ok (.getfield 87, 3) := by decide +kernel
theorem dX8_addRule_142 : decode cX8_addRule 142 = .ok (.iconst 1, 1) := by decide +kernel
theorem dX8_addRule_143 : decode cX8_addRule 143 = .ok (.iadd, 1) := by decide +kernel
theorem dX8_addRule_144 : decode cX8_addRule 144 = .ok (.putfield 87, 3) := by decide +kernel
theorem dX8_addRule_147 : decode cX8_addRule 147 = .ok (.aload_n 0, 1) := by decide +kernel
theorem dX8_addRule_148 : decode cX8_addRule 148 = .ok (.getfield 87, 3) := by decide +kernel
theorem dX8_addRule_151 : decode cX8_addRule 151 = .ok (.iconst 1, 1) := by decide +kernel
theorem dX8_addRule_152 : decode cX8_addRule 152 = .ok (.isub, 1) := by decide +kernel
theorem dX8_addRule_153 : decode cX8_addRule 153 = .ok (.ireturn, 1) := by decide +kernel
theorem dX8_inForce_0 : decode cX8_inForce 0 = .ok (.aload_n 0, 1) := by decide +kernel
theorem dX8_inForce_1 : decode cX8_inForce 1 = .ok (.getfield 19, 3) := by decide +kernel
theorem dX8_inForce_4 : decode cX8_inForce 4 = .ok (.iload_n 1, 1) := by decide +kernel
theorem dX8_inForce_5 : decode cX8_inForce 5 = .ok (.iaload, 1) := by decide +kernel
theorem dX8_inForce_6 : decode cX8_inForce 6 = .ok (.iload_n 2, 1) := by decide +kernel
theorem dX8_inForce_7 : decode cX8_inForce 7 = .ok (.if_icmp .gt 17, 3) := by decide +kernel
theorem dX8_inForce_10 : decode cX8_inForce 10 = .ok (.iload_n 2, 1) := by decide +kernel
theorem dX8_inForce_11 : decode cX8_inForce 11 = .ok (.aload_n 0, 1) := by decide +kernel
theorem dX8_inForce_12 : decode cX8_inForce 12 = .ok (.getfield 22, 3) := by decide +kernel
theorem dX8_inForce_15 : decode cX8_inForce 15 = .ok (.iload_n 1, 1) := by decide +kernel
theorem dX8_inForce_16 : decode cX8_inForce 16 = .ok (.iaload, 1) := by decide +kernel
theorem dX8_inForce_17 : decode cX8_inForce 17 = .ok (.if_icmp .ge 7, 3) := by decide +kernel
theorem dX8_inForce_20 : decode cX8_inForce 20 = .ok (.iconst 1, 1) := by decide +kernel
theorem dX8_inForce_21 : decode cX8_inForce 21 = .ok (.goto 4, 3) := by decide +kernel
theorem dX8_inForce_24 : decode cX8_inForce 24 = .ok (.iconst 0, 1) := by decide +kernel
theorem dX8_inForce_25 : decode cX8_inForce 25 = .ok (.ireturn, 1) := by decide +kernel
theorem dX8_repeal_0 : decode cX8_repeal 0 = .ok (.aload_n 0, 1) := by decide +kernel
theorem dX8_repeal_1 : decode cX8_repeal 1 = .ok (.iconst 0, 1) := by decide +kernel
theorem dX8_repeal_2 : decode cX8_repeal 2 = .ok (.putfield 84, 3) := by decide +kernel
theorem dX8_repeal_5 : decode cX8_repeal 5 = .ok (.aload_n 0, 1) := by decide +kernel
theorem dX8_repeal_6 : decode cX8_repeal 6 = .ok (.iload_n 1, 1) := by decide +kernel
theorem dX8_repeal_7 : decode cX8_repeal 7 = .ok (.invokevirtual 110, 3) := by decide +kernel
theorem dX8_repeal_10 : decode cX8_repeal 10 = .ok (.ifCond .ne 9, 3) := by decide +kernel
theorem dX8_repeal_13 : decode cX8_repeal 13 = .ok (.aload_n 0, 1) := by decide +kernel
theorem dX8_repeal_14 : decode cX8_repeal 14 = .ok (.iconst 1, 1) := by decide +kernel
theorem dX8_repeal_15 : decode cX8_repeal 15 = .ok (.invokevirtual 103, 3) := by decide +kernel
theorem dX8_repeal_18 : decode cX8_repeal 18 = .ok (.ireturn, 1) := by decide +kernel
theorem dX8_repeal_19 : decode cX8_repeal 19 = .ok (.iload_n 2, 1) := by decide +kernel
theorem dX8_repeal_20 : decode cX8_repeal 20 = .ok (.aload_n 0, 1) := by decide +kernel
theorem dX8_repeal_21 : decode cX8_repeal 21 = .ok (.getfield 100, 3) := by decide +kernel
theorem dX8_repeal_24 : decode cX8_repeal 24 = .ok (.aload_n 0, 1) := by decide +kernel
theorem dX8_repeal_25 : decode cX8_repeal 25 = .ok (.getfield 19, 3) := by decide +kernel
theorem dX8_repeal_28 : decode cX8_repeal 28 = .ok (.iload_n 1, 1) := by decide +kernel
theorem dX8_repeal_29 : decode cX8_repeal 29 = .ok (.iaload, 1) := by decide +kernel
theorem dX8_repeal_30 : decode cX8_repeal 30 = .ok (.invokestatic 114, 3) := by decide +kernel
theorem dX8_repeal_33 : decode cX8_repeal 33 = .ok (.iconst 1, 1) := by decide +kernel
theorem dX8_repeal_34 : decode cX8_repeal 34 = .ok (.iadd, 1) := by decide +kernel
theorem dX8_repeal_35 : decode cX8_repeal 35 = .ok (.sipush 1000, 3) := by decide +kernel
theorem dX8_repeal_38 : decode cX8_repeal 38 = .ok (.invokestatic 90, 3) := by decide +kernel
theorem dX8_repeal_41 : decode cX8_repeal 41 = .ok (.ifCond .ne 9, 3) := by decide +kernel
theorem dX8_repeal_44 : decode cX8_repeal 44 = .ok (.aload_n 0, 1) := by decide +kernel
theorem dX8_repeal_45 : decode cX8_repeal 45 = .ok (.iconst 2, 1) := by decide +kernel
theorem dX8_repeal_46 : decode cX8_repeal 46 = .ok (.invokevirtual 103, 3) := by decide +kernel
theorem dX8_repeal_49 : decode cX8_repeal 49 = .ok (.ireturn, 1) := by decide +kernel
theorem dX8_repeal_50 : decode cX8_repeal 50 = .ok (.aload_n 0, 1) := by decide +kernel
theorem dX8_repeal_51 : decode cX8_repeal 51 = .ok (.getfield 22, 3) := by decide +kernel
theorem dX8_repeal_54 : decode cX8_repeal 54 = .ok (.iload_n 1, 1) := by decide +kernel
theorem dX8_repeal_55 : decode cX8_repeal 55 = .ok (.iaload, 1) := by decide +kernel
theorem dX8_repeal_56 : decode cX8_repeal 56 = .ok (.sipush 1000, 3) := by decide +kernel
theorem dX8_repeal_59 : decode cX8_repeal 59 = .ok (.if_icmp .gt 9, 3) := by decide +kernel
theorem dX8_repeal_62 : decode cX8_repeal 62 = .ok (.aload_n 0, 1) := by decide +kernel
theorem dX8_repeal_63 : decode cX8_repeal 63 = .ok (.iconst 3, 1) := by decide +kernel
theorem dX8_repeal_64 : decode cX8_repeal 64 = .ok (.invokevirtual 103, 3) := by decide +kernel
theorem dX8_repeal_67 : decode cX8_repeal 67 = .ok (.ireturn, 1) := by decide +kernel
theorem dX8_repeal_68 : decode cX8_repeal 68 = .ok (.aload_n 0, 1) := by decide +kernel
theorem dX8_repeal_69 : decode cX8_repeal 69 = .ok (.getfield 22, 3) := by decide +kernel
theorem dX8_repeal_72 : decode cX8_repeal 72 = .ok (.iload_n 1, 1) := by decide +kernel
theorem dX8_repeal_73 : decode cX8_repeal 73 = .ok (.iload_n 2, 1) := by decide +kernel
theorem dX8_repeal_74 : decode cX8_repeal 74 = .ok (.iastore, 1) := by decide +kernel
theorem dX8_repeal_75 : decode cX8_repeal 75 = .ok (.iconst 0, 1) := by decide +kernel
theorem dX8_repeal_76 : decode cX8_repeal 76 = .ok (.istore_n 3, 1) := by decide +kernel
theorem dX8_repeal_77 : decode cX8_repeal 77 = .ok (.iconst 0, 1) := by decide +kernel
theorem dX8_repeal_78 : decode cX8_repeal 78 = .ok (.istore 4, 2) := by decide +kernel
theorem dX8_repeal_80 : decode cX8_repeal 80 = .ok (.iload 4, 2) := by decide +kernel
theorem dX8_repeal_82 : decode cX8_repeal 82 = .ok (.aload_n 0, 1) := by decide +kernel
theorem dX8_repeal_83 : decode cX8_repeal 83 = .ok (.getfield 87, 3) := by decide +kernel
theorem dX8_repeal_86 : decode cX8_repeal 86 = .ok (.if_icmp .ge 27, 3) := by decide +kernel
theorem dX8_repeal_89 : decode cX8_repeal 89 = .ok (.iload_n 3, 1) := by decide +kernel
theorem dX8_repeal_90 : decode cX8_repeal 90 = .ok (.aload_n 0, 1) := by decide +kernel
theorem dX8_repeal_91 : decode cX8_repeal 91 = .ok (.iload 4, 2) := by decide +kernel
theorem dX8_repeal_93 : decode cX8_repeal 93 = .ok (.iload_n 2, 1) := by decide +kernel
theorem dX8_repeal_94 : decode cX8_repeal 94 = .ok (.invokevirtual 120, 3) := by decide +kernel
theorem dX8_repeal_97 : decode cX8_repeal 97 = .ok (.ifCond .eq 7, 3) := by decide +kernel
theorem dX8_repeal_100 : decode cX8_repeal 100 = .ok (.iconst 1, 1) := by decide +kernel
theorem dX8_repeal_101 : decode cX8_repeal 101 = .ok (.goto 4, 3) := by decide +kernel
theorem dX8_repeal_104 : decode cX8_repeal 104 = .ok (.iconst 0, 1) := by decide +kernel
theorem dX8_repeal_105 : decode cX8_repeal 105 = .ok (.iadd, 1) := by decide +kernel
theorem dX8_repeal_106 : decode cX8_repeal 106 = .ok (.istore_n 3, 1) := by decide +kernel
theorem dX8_repeal_107 : decode cX8_repeal 107 = .ok (.iinc 4 1, 3) := by decide +kernel
theorem dX8_repeal_110 : decode cX8_repeal 110 = .ok (.goto (-30), 3) := by decide +kernel
theorem dX8_repeal_113 : decode cX8_repeal 113 = .ok (.iload_n 3, 1) := by decide +kernel
theorem dX8_repeal_114 : decode cX8_repeal 114 = .ok (.ireturn, 1) := by decide +kernel
theorem dX8_isInForce_0 : decode cX8_isInForce 0 = .ok (.aload_n 0, 1) := by decide +kernel
theorem dX8_isInForce_1 : decode cX8_isInForce 1 = .ok (.aload_n 0, 1) := by decide +kernel
theorem dX8_isInForce_2 : decode cX8_isInForce 2 = .ok (.iload_n 1, 1) := by decide +kernel
theorem dX8_isInForce_3 : decode cX8_isInForce 3 = .ok (.invokevirtual 110, 3) := by decide +kernel
theorem dX8_isInForce_6 : decode cX8_isInForce 6 = .ok (.ifCond .ne 7, 3) := by decide +kernel
theorem dX8_isInForce_9 : decode cX8_isInForce 9 = .ok (.iconst 1, 1) := by decide +kernel
theorem dX8_isInForce_10 : decode cX8_isInForce 10 = .ok (.goto 19, 3) := by decide +kernel
theorem dX8_isInForce_13 : decode cX8_isInForce 13 = .ok (.iload_n 2, 1) := by decide +kernel
theorem dX8_isInForce_14 : decode cX8_isInForce 14 = .ok (.iconst 0, 1) := by decide +kernel
theorem dX8_isInForce_15 : decode cX8_isInForce 15 = .ok (.sipush 1000, 3) := by decide +kernel
theorem dX8_isInForce_18 : decode cX8_isInForce 18 = .ok (.invokestatic 90, 3) := by decide +kernel
theorem dX8_isInForce_21 : decode cX8_isInForce 21 = .ok (.ifCond .eq 7, 3) := by decide +kernel
theorem dX8_isInForce_24 : decode cX8_isInForce 24 = .ok (.iconst 0, 1) := by decide +kernel
theorem dX8_isInForce_25 : decode cX8_isInForce 25 = .ok (.goto 4, 3) := by decide +kernel
theorem dX8_isInForce_28 : decode cX8_isInForce 28 = .ok (.iconst 2, 1) := by decide +kernel
theorem dX8_isInForce_29 : decode cX8_isInForce 29 = .ok (.putfield 84, 3) := by decide +kernel
theorem dX8_isInForce_32 : decode cX8_isInForce 32 = .ok (.aload_n 0, 1) := by decide +kernel
theorem dX8_isInForce_33 : decode cX8_isInForce 33 = .ok (.getfield 84, 3) := by decide +kernel
theorem dX8_isInForce_36 : decode cX8_isInForce 36 = .ok (.ifCond .ne 16, 3) := by decide +kernel
theorem dX8_isInForce_39 : decode cX8_isInForce 39 = .ok (.aload_n 0, 1) := by decide +kernel
theorem dX8_isInForce_40 : decode cX8_isInForce 40 = .ok (.iload_n 1, 1) := by decide +kernel
theorem dX8_isInForce_41 : decode cX8_isInForce 41 = .ok (.iload_n 2, 1) := by decide +kernel
theorem dX8_isInForce_42 : decode cX8_isInForce 42 = .ok (.invokevirtual 120, 3) := by decide +kernel
theorem dX8_isInForce_45 : decode cX8_isInForce 45 = .ok (.ifCond .eq 7, 3) := by decide +kernel
theorem dX8_isInForce_48 : decode cX8_isInForce 48 = .ok (.iconst 1, 1) := by decide +kernel
theorem dX8_isInForce_49 : decode cX8_isInForce 49 = .ok (.goto 4, 3) := by decide +kernel
theorem dX8_isInForce_52 : decode cX8_isInForce 52 = .ok (.iconst 0, 1) := by decide +kernel
theorem dX8_isInForce_53 : decode cX8_isInForce 53 = .ok (.ireturn, 1) := by decide +kernel
theorem dX8_rule_0 : decode cX8_rule 0 = .ok (.iconst (-1), 1) := by decide +kernel
theorem dX8_rule_1 : decode cX8_rule 1 = .ok (.istore_n 2, 1) := by decide +kernel
theorem dX8_rule_2 : decode cX8_rule 2 = .ok (.iconst 0, 1) := by decide +kernel
theorem dX8_rule_3 : decode cX8_rule 3 = .ok (.istore_n 3, 1) := by decide +kernel
theorem dX8_rule_4 : decode cX8_rule 4 = .ok (.iload_n 3, 1) := by decide +kernel
theorem dX8_rule_5 : decode cX8_rule 5 = .ok (.aload_n 0, 1) := by decide +kernel
theorem dX8_rule_6 : decode cX8_rule 6 = .ok (.getfield 87, 3) := by decide +kernel
theorem dX8_rule_9 : decode cX8_rule 9 = .ok (.if_icmp .ge 63, 3) := by decide +kernel
theorem dX8_rule_12 : decode cX8_rule 12 = .ok (.aload_n 0, 1) := by decide +kernel
theorem dX8_rule_13 : decode cX8_rule 13 = .ok (.iload_n 3, 1) := by decide +kernel
theorem dX8_rule_14 : decode cX8_rule 14 = .ok (.aload_n 0, 1) := by decide +kernel
theorem dX8_rule_15 : decode cX8_rule 15 = .ok (.getfield 54, 3) := by decide +kernel
theorem dX8_rule_18 : decode cX8_rule 18 = .ok (.iload_n 1, 1) := by decide +kernel
theorem dX8_rule_19 : decode cX8_rule 19 = .ok (.iaload, 1) := by decide +kernel
theorem dX8_rule_20 : decode cX8_rule 20 = .ok (.invokevirtual 120, 3) := by decide +kernel
theorem dX8_rule_23 : decode cX8_rule 23 = .ok (.ifCond .eq 43, 3) := by decide +kernel
theorem dX8_rule_26 : decode cX8_rule 26 = .ok (.aload_n 0, 1) := by decide +kernel
theorem dX8_rule_27 : decode cX8_rule 27 = .ok (.getfield 48, 3) := by decide +kernel
theorem dX8_rule_30 : decode cX8_rule 30 = .ok (.iload_n 1, 1) := by decide +kernel
theorem dX8_rule_31 : decode cX8_rule 31 = .ok (.iaload, 1) := by decide +kernel
theorem dX8_rule_32 : decode cX8_rule 32 = .ok (.aload_n 0, 1) := by decide +kernel
theorem dX8_rule_33 : decode cX8_rule 33 = .ok (.getfield 9, 3) := by decide +kernel
theorem dX8_rule_36 : decode cX8_rule 36 = .ok (.iload_n 3, 1) := by decide +kernel
theorem dX8_rule_37 : decode cX8_rule 37 = .ok (.iaload, 1) := by decide +kernel
theorem dX8_rule_38 : decode cX8_rule 38 = .ok (.ishr, 1) := by decide +kernel
theorem dX8_rule_39 : decode cX8_rule 39 = .ok (.iconst 1, 1) := by decide +kernel
theorem dX8_rule_40 : decode cX8_rule 40 = .ok (.iand, 1) := by decide +kernel
theorem dX8_rule_41 : decode cX8_rule 41 = .ok (.iconst 1, 1) := by decide +kernel
theorem dX8_rule_42 : decode cX8_rule 42 = .ok (.if_icmp .ne 24, 3) := by decide +kernel
theorem dX8_rule_45 : decode cX8_rule 45 = .ok (.iload_n 2, 1) := by decide +kernel
theorem dX8_rule_46 : decode cX8_rule 46 = .ok (.ifCond .lt 18, 3) := by decide +kernel
theorem dX8_rule_49 : decode cX8_rule 49 = .ok (.aload_n 0, 1) := by decide +kernel
theorem dX8_rule_50 : decode cX8_rule 50 = .ok (.getfield 13, 3) := by decide +kernel
theorem dX8_rule_53 : decode cX8_rule 53 = .ok (.iload_n 3, 1) := by decide +kernel
theorem dX8_rule_54 : decode cX8_rule 54 = .ok (.iaload, 1) := by decide +kernel
theorem dX8_rule_55 : decode cX8_rule 55 = .ok (.aload_n 0, 1) := by decide +kernel
theorem dX8_rule_56 : decode cX8_rule 56 = .ok (.getfield 13, 3) := by decide +kernel
theorem dX8_rule_59 : decode cX8_rule 59 = .ok (.iload_n 2, 1) := by decide +kernel
theorem dX8_rule_60 : decode cX8_rule 60 = .ok (.iaload, 1) := by decide +kernel
theorem dX8_rule_61 : decode cX8_rule 61 = .ok (.if_icmp .lt 5, 3) := by decide +kernel
theorem dX8_rule_64 : decode cX8_rule 64 = .ok (.iload_n 3, 1) := by decide +kernel
theorem dX8_rule_65 : decode cX8_rule 65 = .ok (.istore_n 2, 1) := by decide +kernel
theorem dX8_rule_66 : decode cX8_rule 66 = .ok (.iinc 3 1, 3) := by decide +kernel
theorem dX8_rule_69 : decode cX8_rule 69 = .ok (.goto (-65), 3) := by decide +kernel
theorem dX8_rule_72 : decode cX8_rule 72 = .ok (.iload_n 2, 1) := by decide +kernel
theorem dX8_rule_73 : decode cX8_rule 73 = .ok (.ireturn, 1) := by decide +kernel
theorem dX8_applying_0 : decode cX8_applying 0 = .ok (.aload_n 0, 1) := by decide +kernel
theorem dX8_applying_1 : decode cX8_applying 1 = .ok (.iconst 0, 1) := by decide +kernel
theorem dX8_applying_2 : decode cX8_applying 2 = .ok (.putfield 84, 3) := by decide +kernel
theorem dX8_applying_5 : decode cX8_applying 5 = .ok (.aload_n 0, 1) := by decide +kernel
theorem dX8_applying_6 : decode cX8_applying 6 = .ok (.iload_n 1, 1) := by decide +kernel
theorem dX8_applying_7 : decode cX8_applying 7 = .ok (.invokevirtual 124, 3) := by decide +kernel
theorem dX8_applying_10 : decode cX8_applying 10 = .ok (.ifCond .ne 9, 3) := by decide +kernel
theorem dX8_applying_13 : decode cX8_applying 13 = .ok (.aload_n 0, 1) := by decide +kernel
theorem dX8_applying_14 : decode cX8_applying 14 = .ok (.iconst 1, 1) := by decide +kernel
theorem dX8_applying_15 : decode cX8_applying 15 = .ok (.invokevirtual 103, 3) := by decide +kernel
theorem dX8_applying_18 : decode cX8_applying 18 = .ok (.ireturn, 1) := by decide +kernel
theorem dX8_applying_19 : decode cX8_applying 19 = .ok (.aload_n 0, 1) := by decide +kernel
theorem dX8_applying_20 : decode cX8_applying 20 = .ok (.iload_n 1, 1) := by decide +kernel
theorem dX8_applying_21 : decode cX8_applying 21 = .ok (.invokevirtual 127, 3) := by decide +kernel
theorem dX8_applying_24 : decode cX8_applying 24 = .ok (.ifCond .ge 11, 3) := by decide +kernel
theorem dX8_applying_27 : decode cX8_applying 27 = .ok (.aload_n 0, 1) := by decide +kernel
theorem dX8_applying_28 : decode cX8_applying 28 = .ok (.iconst 2, 1) := by decide +kernel
theorem dX8_applying_29 : decode cX8_applying 29 = .ok (.invokevirtual 103, 3) := by decide +kernel
theorem dX8_applying_32 : decode cX8_applying 32 = .ok (.goto 8, 3) := by decide +kernel
theorem dX8_applying_35 : decode cX8_applying 35 = .ok (.aload_n 0, 1) := by decide +kernel
theorem dX8_applying_36 : decode cX8_applying 36 = .ok (.iload_n 1, 1) := by decide +kernel
theorem dX8_applying_37 : decode cX8_applying 37 = .ok (.invokevirtual 127, 3) := by decide +kernel
theorem dX8_applying_40 : decode cX8_applying 40 = .ok (.ireturn, 1) := by decide +kernel
theorem dX8_conflicts_0 : decode cX8_conflicts 0 = .ok (.aload_n 0, 1) := by decide +kernel
theorem dX8_conflicts_1 : decode cX8_conflicts 1 = .ok (.iconst 0, 1) := by decide +kernel
theorem dX8_conflicts_2 : decode cX8_conflicts 2 = .ok (.putfield 84, 3) := by decide +kernel
theorem dX8_conflicts_5 : decode cX8_conflicts 5 = .ok (.iload_n 1, 1) := by decide +kernel
theorem dX8_conflicts_6 : decode cX8_conflicts 6 = .ok (.iconst 0, 1) := by decide +kernel
theorem dX8_conflicts_7 : decode cX8_conflicts 7 = .ok (.sipush 1000, 3) := by decide +kernel
theorem dX8_conflicts_10 : decode cX8_conflicts 10 = .ok (.invokestatic 90, 3) := by decide +kernel
theorem dX8_conflicts_13 : decode cX8_conflicts 13 = .ok (.ifCond .ne 9, 3) := by decide +kernel
theorem dX8_conflicts_16 : decode cX8_conflicts 16 = .ok (.aload_n 0, 1) := by decide +kernel
theorem dX8_conflicts_17 : decode cX8_conflicts 17 = .ok (.iconst 1, 1) := by decide +kernel
theorem dX8_conflicts_18 : decode cX8_conflicts 18 = .ok (.invokevirtual 103, 3) := by decide +kernel
theorem dX8_conflicts_21 : decode cX8_conflicts 21 = .ok (.ireturn, 1) := by decide +kernel
theorem dX8_conflicts_22 : decode cX8_conflicts 22 = .ok (.iconst 0, 1) := by decide +kernel
theorem dX8_conflicts_23 : decode cX8_conflicts 23 = .ok (.istore_n 2, 1) := by decide +kernel
theorem dX8_conflicts_24 : decode cX8_conflicts 24 = .ok (.iconst 0, 1) := by decide +kernel
theorem dX8_conflicts_25 : decode cX8_conflicts 25 = .ok (.istore_n 3, 1) := by decide +kernel
theorem dX8_conflicts_26 : decode cX8_conflicts 26 = .ok (.iload_n 3, 1) := by decide +kernel
theorem dX8_conflicts_27 : decode cX8_conflicts 27 = .ok (.aload_n 0, 1) := by decide +kernel
theorem dX8_conflicts_28 : decode cX8_conflicts 28 = .ok (.getfield 87, 3) := by decide +kernel
theorem dX8_conflicts_31 : decode cX8_conflicts 31 = .ok (.if_icmp .ge 99, 3) := by decide +kernel
theorem dX8_conflicts_34 : decode cX8_conflicts 34 = .ok (.iconst 0, 1) := by decide +kernel
theorem dX8_conflicts_35 : decode cX8_conflicts 35 = .ok (.istore 4, 2) := by decide +kernel
theorem dX8_conflicts_37 : decode cX8_conflicts 37 = .ok (.iload 4, 2) := by decide +kernel
theorem dX8_conflicts_39 : decode cX8_conflicts 39 = .ok (.iload_n 3, 1) := by decide +kernel
theorem dX8_conflicts_40 : decode cX8_conflicts 40 = .ok (.if_icmp .ge 84, 3) := by decide +kernel
theorem dX8_conflicts_43 : decode cX8_conflicts 43 = .ok (.iload_n 2, 1) := by decide +kernel
theorem dX8_conflicts_44 : decode cX8_conflicts 44 = .ok (.aload_n 0, 1) := by decide +kernel
theorem dX8_conflicts_45 : decode cX8_conflicts 45 = .ok (.iload_n 3, 1) := by decide +kernel
theorem dX8_conflicts_46 : decode cX8_conflicts 46 = .ok (.iload_n 1, 1) := by decide +kernel
theorem dX8_conflicts_47 : decode cX8_conflicts 47 = .ok (.invokevirtual 120, 3) := by decide +kernel
theorem dX8_conflicts_50 : decode cX8_conflicts 50 = .ok (.ifCond .eq 65, 3) := by decide +kernel
theorem dX8_conflicts_53 : decode cX8_conflicts 53 = .ok (.aload_n 0, 1) := by decide +kernel
theorem dX8_conflicts_54 : decode cX8_conflicts 54 = .ok (.iload 4, 2) := by decide +kernel
theorem dX8_conflicts_56 : decode cX8_conflicts 56 = .ok (.iload_n 1, 1) := by decide +kernel
theorem dX8_conflicts_57 : decode cX8_conflicts 57 = .ok (.invokevirtual 120, 3) := by decide +kernel
theorem dX8_conflicts_60 : decode cX8_conflicts 60 = .ok (.ifCond .eq 55, 3) := by decide +kernel
theorem dX8_conflicts_63 : decode cX8_conflicts 63 = .ok (.aload_n 0, 1) := by decide +kernel
theorem dX8_conflicts_64 : decode cX8_conflicts 64 = .ok (.getfield 9, 3) := by decide +kernel
theorem dX8_conflicts_67 : decode cX8_conflicts 67 = .ok (.iload_n 3, 1) := by decide +kernel
theorem dX8_conflicts_68 : decode cX8_conflicts 68 = .ok (.iaload, 1) := by decide +kernel
theorem dX8_conflicts_69 : decode cX8_conflicts 69 = .ok (.aload_n 0, 1) := by decide +kernel
theorem dX8_conflicts_70 : decode cX8_conflicts 70 = .ok (.getfield 9, 3) := by decide +kernel
theorem dX8_conflicts_73 : decode cX8_conflicts 73 = .ok (.iload 4, 2) := by decide +kernel
theorem dX8_conflicts_75 : decode cX8_conflicts 75 = .ok (.iaload, 1) := by decide +kernel
theorem dX8_conflicts_76 : decode cX8_conflicts 76 = .ok (.if_icmp .ne 39, 3) := by decide +kernel
theorem dX8_conflicts_79 : decode cX8_conflicts 79 = .ok (.aload_n 0, 1) := by decide +kernel
theorem dX8_conflicts_80 : decode cX8_conflicts 80 = .ok (.getfield 13, 3) := by decide +kernel
theorem dX8_conflicts_83 : decode cX8_conflicts 83 = .ok (.iload_n 3, 1) := by decide +kernel
theorem dX8_conflicts_84 : decode cX8_conflicts 84 = .ok (.iaload, 1) := by decide +kernel
theorem dX8_conflicts_85 : decode cX8_conflicts 85 = .ok (.aload_n 0, 1) := by decide +kernel
theorem dX8_conflicts_86 : decode cX8_conflicts 86 = .ok (.getfield 13, 3) := by decide +kernel
theorem dX8_conflicts_89 : decode cX8_conflicts 89 = .ok (.iload 4, 2) := by decide +kernel
theorem dX8_conflicts_91 : decode cX8_conflicts 91 = .ok (.iaload, 1) := by decide +kernel
theorem dX8_conflicts_92 : decode cX8_conflicts 92 = .ok (.if_icmp .ne 23, 3) := by decide +kernel
theorem dX8_conflicts_95 : decode cX8_conflicts 95 = .ok (.aload_n 0, 1) := by decide +kernel
theorem dX8_conflicts_96 : decode cX8_conflicts 96 = .ok (.getfield 34, 3) := by decide +kernel
theorem dX8_conflicts_99 : decode cX8_conflicts 99 = .ok (.iload_n 3, 1) := by decide +kernel
theorem dX8_conflicts_100 : decode cX8_conflicts 100 = .ok (.baload, 1) := by decide +kernel
theorem dX8_conflicts_101 : decode cX8_conflicts 101 = .ok (.aload_n 0, 1) := by decide +kernel
theorem dX8_conflicts_102 : decode cX8_conflicts 102 = .ok (.getfield 34, 3) := by decide +kernel
theorem dX8_conflicts_105 : decode cX8_conflicts 105 = .ok (.iload 4, 2) := by decide +kernel
theorem dX8_conflicts_107 : decode cX8_conflicts 107 = .ok (.baload, 1) := by decide +kernel
theorem dX8_conflicts_108 : decode cX8_conflicts 108 = .ok (.if_icmp .eq 7, 3) := by decide +kernel
theorem dX8_conflicts_111 : decode cX8_conflicts 111 = .ok (.iconst 1, 1) := by decide +kernel
theorem dX8_conflicts_112 : decode cX8_conflicts 112 = .ok (.goto 4, 3) := by decide +kernel
theorem dX8_conflicts_115 : decode cX8_conflicts 115 = .ok (.iconst 0, 1) := by decide +kernel
theorem dX8_conflicts_116 : decode cX8_conflicts 116 = .ok (.iadd, 1) := by decide +kernel
theorem dX8_conflicts_117 : decode cX8_conflicts 117 = .ok (.istore_n 2, 1) := by decide +kernel
theorem dX8_conflicts_118 : decode cX8_conflicts 118 = .ok (.iinc 4 1, 3) := by decide +kernel
theorem dX8_conflicts_121 : decode cX8_conflicts 121 = .ok (.goto (-84), 3) := by decide +kernel
theorem dX8_conflicts_124 : decode cX8_conflicts 124 = .ok (.iinc 3 1, 3) := by decide +kernel
theorem dX8_conflicts_127 : decode cX8_conflicts 127 = .ok (.goto (-101), 3) := by decide +kernel
theorem dX8_conflicts_130 : decode cX8_conflicts 130 = .ok (.iload_n 2, 1) := by decide +kernel
theorem dX8_conflicts_131 : decode cX8_conflicts 131 = .ok (.ireturn, 1) := by decide +kernel
theorem dX8_addUser_0 : decode cX8_addUser 0 = .ok (.aload_n 0, 1) := by decide +kernel
theorem dX8_addUser_1 : decode cX8_addUser 1 = .ok (.iconst 0, 1) := by decide +kernel
theorem dX8_addUser_2 : decode cX8_addUser 2 = .ok (.putfield 84, 3) := by decide +kernel
theorem dX8_addUser_5 : decode cX8_addUser 5 = .ok (.iload_n 1, 1) := by decide +kernel
theorem dX8_addUser_6 : decode cX8_addUser 6 = .ok (.iconst 1, 1) := by decide +kernel
theorem dX8_addUser_7 : decode cX8_addUser 7 = .ok (.bipush 9, 2) := by decide +kernel
theorem dX8_addUser_9 : decode cX8_addUser 9 = .ok (.invokestatic 90, 3) := by decide +kernel
theorem dX8_addUser_12 : decode cX8_addUser 12 = .ok (.ifCond .ne 9, 3) := by decide +kernel
theorem dX8_addUser_15 : decode cX8_addUser 15 = .ok (.aload_n 0, 1) := by decide +kernel
theorem dX8_addUser_16 : decode cX8_addUser 16 = .ok (.iconst 1, 1) := by decide +kernel
theorem dX8_addUser_17 : decode cX8_addUser 17 = .ok (.invokevirtual 103, 3) := by decide +kernel
theorem dX8_addUser_20 : decode cX8_addUser 20 = .ok (.ireturn, 1) := by decide +kernel
theorem dX8_addUser_21 : decode cX8_addUser 21 = .ok (.aload_n 0, 1) := by decide +kernel
theorem dX8_addUser_22 : decode cX8_addUser 22 = .ok (.getfield 94, 3) := by decide +kernel
theorem dX8_addUser_25 : decode cX8_addUser 25 = .ok (.bipush 8, 2) := by decide +kernel
theorem dX8_addUser_27 : decode cX8_addUser 27 = .ok (.if_icmp .ne 9, 3) := by decide +kernel
theorem dX8_addUser_30 : decode cX8_addUser 30 = .ok (.aload_n 0, 1) := by decide +kernel
theorem dX8_addUser_31 : decode cX8_addUser 31 = .ok (.iconst 2, 1) := by decide +kernel
theorem dX8_addUser_32 : decode cX8_addUser 32 = .ok (.invokevirtual 103, 3) := by decide +kernel
theorem dX8_addUser_35 : decode cX8_addUser 35 = .ok (.ireturn, 1) := by decide +kernel
theorem dX8_addUser_36 : decode cX8_addUser 36 = .ok (.aload_n 0, 1) := by decide +kernel
theorem dX8_addUser_37 : decode cX8_addUser 37 = .ok (.getfield 25, 3) := by decide +kernel
theorem dX8_addUser_40 : decode cX8_addUser 40 = .ok (.aload_n 0, 1) := by decide +kernel
theorem dX8_addUser_41 : decode cX8_addUser 41 = .ok (.getfield 94, 3) := by decide +kernel
theorem dX8_addUser_44 : decode cX8_addUser 44 = .ok (.iload_n 1, 1) := by decide +kernel
theorem dX8_addUser_45 : decode cX8_addUser 45 = .ok (.iastore, 1) := by decide +kernel
theorem dX8_addUser_46 : decode cX8_addUser 46 = .ok (.aload_n 0, 1) := by decide +kernel
theorem dX8_addUser_47 : decode cX8_addUser 47 = .ok (.dup, 1) := by decide +kernel
theorem dX8_addUser_48 : decode cX8_addUser 48 = .ok (.getfield 94, 3) := by decide +kernel
theorem dX8_addUser_51 : decode cX8_addUser 51 = .ok (.iconst 1, 1) := by decide +kernel
theorem dX8_addUser_52 : decode cX8_addUser 52 = .ok (.iadd, 1) := by decide +kernel
theorem dX8_addUser_53 : decode cX8_addUser 53 = .ok (.putfield 94, 3) := by decide +kernel
theorem dX8_addUser_56 : decode cX8_addUser 56 = .ok (.aload_n 0, 1) := by decide +kernel
theorem dX8_addUser_57 : decode cX8_addUser 57 = .ok (.getfield 94, 3) := by decide +kernel
theorem dX8_addUser_60 : decode cX8_addUser 60 = .ok (.iconst 1, 1) := by decide +kernel
theorem dX8_addUser_61 : decode cX8_addUser 61 = .ok (.isub, 1) := by decide +kernel
theorem dX8_addUser_62 : decode cX8_addUser 62 = .ok (.ireturn, 1) := by decide +kernel
theorem dX8_setWeight_0 : decode cX8_setWeight 0 = .ok (.aload_n 0, 1) := by decide +kernel
theorem dX8_setWeight_1 : decode cX8_setWeight 1 = .ok (.iconst 0, 1) := by decide +kernel
theorem dX8_setWeight_2 : decode cX8_setWeight 2 = .ok (.putfield 84, 3) := by decide +kernel
theorem dX8_setWeight_5 : decode cX8_setWeight 5 = .ok (.aload_n 0, 1) := by decide +kernel
theorem dX8_setWeight_6 : decode cX8_setWeight 6 = .ok (.iload_n 1, 1) := by decide +kernel
theorem dX8_setWeight_7 : decode cX8_setWeight 7 = .ok (.invokevirtual 130, 3) := by decide +kernel
theorem dX8_setWeight_10 : decode cX8_setWeight 10 = .ok (.ifCond .ne 9, 3) := by decide +kernel
theorem dX8_setWeight_13 : decode cX8_setWeight 13 = .ok (.aload_n 0, 1) := by decide +kernel
theorem dX8_setWeight_14 : decode cX8_setWeight 14 = .ok (.iconst 1, 1) := by decide +kernel
theorem dX8_setWeight_15 : decode cX8_setWeight 15 = .ok (.invokevirtual 103, 3) := by decide +kernel
theorem dX8_setWeight_18 : decode cX8_setWeight 18 = .ok (.ireturn, 1) := by decide +kernel
theorem dX8_setWeight_19 : decode cX8_setWeight 19 = .ok (.iload_n 2, 1) := by decide +kernel
theorem dX8_setWeight_20 : decode cX8_setWeight 20 = .ok (.iconst 1, 1) := by decide +kernel
theorem dX8_setWeight_21 : decode cX8_setWeight 21 = .ok (.bipush 9, 2) := by decide +kernel
theorem dX8_setWeight_23 : decode cX8_setWeight 23 = .ok (.invokestatic 90, 3) := by decide +kernel
theorem dX8_setWeight_26 : decode cX8_setWeight 26 = .ok (.ifCond .ne 9, 3) := by decide +kernel
theorem dX8_setWeight_29 : decode cX8_setWeight 29 = .ok (.aload_n 0, 1) := by decide +kernel
theorem dX8_setWeight_30 : decode cX8_setWeight 30 = .ok (.iconst 2, 1) := by decide +kernel
theorem dX8_setWeight_31 : decode cX8_setWeight 31 = .ok (.invokevirtual 103, 3) := by decide +kernel
theorem dX8_setWeight_34 : decode cX8_setWeight 34 = .ok (.ireturn, 1) := by decide +kernel
theorem dX8_setWeight_35 : decode cX8_setWeight 35 = .ok (.aload_n 0, 1) := by decide +kernel
theorem dX8_setWeight_36 : decode cX8_setWeight 36 = .ok (.getfield 25, 3) := by decide +kernel
theorem dX8_setWeight_39 : decode cX8_setWeight 39 = .ok (.iload_n 1, 1) := by decide +kernel
theorem dX8_setWeight_40 : decode cX8_setWeight 40 = .ok (.iaload, 1) := by decide +kernel
theorem dX8_setWeight_41 : decode cX8_setWeight 41 = .ok (.istore_n 3, 1) := by decide +kernel
theorem dX8_setWeight_42 : decode cX8_setWeight 42 = .ok (.aload_n 0, 1) := by decide +kernel
theorem dX8_setWeight_43 : decode cX8_setWeight 43 = .ok (.getfield 25, 3) := by decide +kernel
theorem dX8_setWeight_46 : decode cX8_setWeight 46 = .ok (.iload_n 1, 1) := by decide +kernel
theorem dX8_setWeight_47 : decode cX8_setWeight 47 = .ok (.iload_n 2, 1) := by decide +kernel
theorem dX8_setWeight_48 : decode cX8_setWeight 48 = .ok (.iastore, 1) := by decide +kernel
theorem dX8_setWeight_49 : decode cX8_setWeight 49 = .ok (.iload_n 3, 1) := by decide +kernel
theorem dX8_setWeight_50 : decode cX8_setWeight 50 = .ok (.ireturn, 1) := by decide +kernel
theorem dX8_stands_0 : decode cX8_stands 0 = .ok (.aload_n 0, 1) := by decide +kernel
theorem dX8_stands_1 : decode cX8_stands 1 = .ok (.getfield 69, 3) := by decide +kernel
theorem dX8_stands_4 : decode cX8_stands 4 = .ok (.iload_n 1, 1) := by decide +kernel
theorem dX8_stands_5 : decode cX8_stands 5 = .ok (.caload, 1) := by decide +kernel
theorem dX8_stands_6 : decode cX8_stands 6 = .ok (.bipush 100, 2) := by decide +kernel
theorem dX8_stands_8 : decode cX8_stands 8 = .ok (.if_icmp .ne 17, 3) := by decide +kernel
theorem dX8_stands_11 : decode cX8_stands 11 = .ok (.aload_n 0, 1) := by decide +kernel
theorem dX8_stands_12 : decode cX8_stands 12 = .ok (.getfield 73, 3) := by decide +kernel
theorem dX8_stands_15 : decode cX8_stands 15 = .ok (.iload_n 1, 1) := by decide +kernel
theorem dX8_stands_16 : decode cX8_stands 16 = .ok (.caload, 1) := by decide +kernel
theorem dX8_stands_17 : decode cX8_stands 17 = .ok (.iload_n 2, 1) := by decide +kernel
theorem dX8_stands_18 : decode cX8_stands 18 = .ok (.if_icmp .ne 7, 3) := by decide +kernel
theorem dX8_stands_21 : decode cX8_stands 21 = .ok (.iconst 1, 1) := by decide +kernel
theorem dX8_stands_22 : decode cX8_stands 22 = .ok (.goto 4, 3) := by decide +kernel
theorem dX8_stands_25 : decode cX8_stands 25 = .ok (.iconst 0, 1) := by decide +kernel
theorem dX8_stands_26 : decode cX8_stands 26 = .ok (.ireturn, 1) := by decide +kernel
theorem dX8_includes_0 : decode cX8_includes 0 = .ok (.aload_n 0, 1) := by decide +kernel
theorem dX8_includes_1 : decode cX8_includes 1 = .ok (.iload_n 1, 1) := by decide +kernel
theorem dX8_includes_2 : decode cX8_includes 2 = .ok (.bipush 103, 2) := by decide +kernel
theorem dX8_includes_4 : decode cX8_includes 4 = .ok (.invokevirtual 133, 3) := by decide +kernel
theorem dX8_includes_7 : decode cX8_includes 7 = .ok (.ifCond .eq 28, 3) := by decide +kernel
theorem dX8_includes_10 : decode cX8_includes 10 = .ok (.iload_n 2, 1) := by decide +kernel
theorem dX8_includes_11 : decode cX8_includes 11 = .ok (.aload_n 0, 1) := by decide +kernel
theorem dX8_includes_12 : decode cX8_includes 12 = .ok (.getfield 63, 3) := by decide +kernel
theorem dX8_includes_15 : decode cX8_includes 15 = .ok (.iload_n 1, 1) := by decide +kernel
theorem dX8_includes_16 : decode cX8_includes 16 = .ok (.iaload, 1) := by decide +kernel
theorem dX8_includes_17 : decode cX8_includes 17 = .ok (.aload_n 0, 1) := by decide +kernel
theorem dX8_includes_18 : decode cX8_includes 18 = .ok (.getfield 66, 3) := by decide +kernel
theorem dX8_includes_21 : decode cX8_includes 21 = .ok (.iload_n 1, 1) := by decide +kernel
theorem dX8_includes_22 : decode cX8_includes 22 = .ok (.iaload, 1) := by decide +kernel
theorem dX8_includes_23 : decode cX8_includes 23 = .ok (.iconst 1, 1) := by decide +kernel
theorem dX8_includes_24 : decode cX8_includes 24 = .ok (.isub, 1) := by decide +kernel
theorem dX8_includes_25 : decode cX8_includes 25 = .ok (.invokestatic 90, 3) := by decide +kernel
theorem dX8_includes_28 : decode cX8_includes 28 = .ok (.ifCond .eq 7, 3) := by decide +kernel
theorem dX8_includes_31 : decode cX8_includes 31 = .ok (.iconst 1, 1) := by decide +kernel
theorem dX8_includes_32 : decode cX8_includes 32 = .ok (.goto 4, 3) := by decide +kernel
theorem dX8_includes_35 : decode cX8_includes 35 = .ok (.iconst 0, 1) := by decide +kernel
theorem dX8_includes_36 : decode cX8_includes 36 = .ok (.ireturn, 1) := by decide +kernel
theorem dX8_sanctionsOf_0 : decode cX8_sanctionsOf 0 = .ok (.iconst 0, 1) := by decide +kernel
theorem dX8_sanctionsOf_1 : decode cX8_sanctionsOf 1 = .ok (.istore_n 2, 1) := by decide +kernel
theorem dX8_sanctionsOf_2 : decode cX8_sanctionsOf 2 = .ok (.iconst 0, 1) := by decide +kernel
theorem dX8_sanctionsOf_3 : decode cX8_sanctionsOf 3 = .ok (.istore_n 3, 1) := by decide +kernel
theorem dX8_sanctionsOf_4 : decode cX8_sanctionsOf 4 = .ok (.iload_n 3, 1) := by decide +kernel
theorem dX8_sanctionsOf_5 : decode cX8_sanctionsOf 5 = .ok (.aload_n 0, 1) := by decide +kernel
theorem dX8_sanctionsOf_6 : decode cX8_sanctionsOf 6 = .ok (.getfield 97, 3) := by decide +kernel
theorem dX8_sanctionsOf_9 : decode cX8_sanctionsOf 9 = .ok (.if_icmp .ge 39, 3) := by decide +kernel
theorem dX8_sanctionsOf_12 : decode cX8_sanctionsOf 12 = .ok (.iload_n 2, 1) := by decide +kernel
theorem dX8_sanctionsOf_13 : decode cX8_sanctionsOf 13 = .ok (.aload_n 0, 1) := by decide +kernel
theorem dX8_sanctionsOf_14 : decode cX8_sanctionsOf 14 = .ok (.getfield 45, 3) := by decide +kernel
theorem dX8_sanctionsOf_17 : decode cX8_sanctionsOf 17 = .ok (.iload_n 3, 1) := by decide +kernel
theorem dX8_sanctionsOf_18 : decode cX8_sanctionsOf 18 = .ok (.iaload, 1) := by decide +kernel
theorem dX8_sanctionsOf_19 : decode cX8_sanctionsOf 19 = .ok (.iload_n 1, 1) := by decide +kernel
theorem dX8_sanctionsOf_20 : decode cX8_sanctionsOf 20 = .ok (.if_icmp .ne 19, 3) := by decide +kernel
theorem dX8_sanctionsOf_23 : decode cX8_sanctionsOf 23 = .ok (.aload_n 0, 1) := by decide +kernel
theorem dX8_sanctionsOf_24 : decode cX8_sanctionsOf 24 = .ok (.iload_n 3, 1) := by decide +kernel
theorem dX8_sanctionsOf_25 : decode cX8_sanctionsOf 25 = .ok (.aload_n 0, 1) := by decide +kernel
theorem dX8_sanctionsOf_26 : decode cX8_sanctionsOf 26 = .ok (.getfield 100, 3) := by decide +kernel
theorem dX8_sanctionsOf_29 : decode cX8_sanctionsOf 29 = .ok (.invokevirtual 137, 3) := by decide +kernel
theorem dX8_sanctionsOf_32 : decode cX8_sanctionsOf 32 = .ok (.ifCond .eq 7, 3) := by decide +kernel
theorem dX8_sanctionsOf_35 : decode cX8_sanctionsOf 35 = .ok (.iconst 1, 1) := by decide +kernel
theorem dX8_sanctionsOf_36 : decode cX8_sanctionsOf 36 = .ok (.goto 4, 3) := by decide +kernel
theorem dX8_sanctionsOf_39 : decode cX8_sanctionsOf 39 = .ok (.iconst 0, 1) := by decide +kernel
theorem dX8_sanctionsOf_40 : decode cX8_sanctionsOf 40 = .ok (.iadd, 1) := by decide +kernel
theorem dX8_sanctionsOf_41 : decode cX8_sanctionsOf 41 = .ok (.istore_n 2, 1) := by decide +kernel
theorem dX8_sanctionsOf_42 : decode cX8_sanctionsOf 42 = .ok (.iinc 3 1, 3) := by decide +kernel
theorem dX8_sanctionsOf_45 : decode cX8_sanctionsOf 45 = .ok (.goto (-41), 3) := by decide +kernel
theorem dX8_sanctionsOf_48 : decode cX8_sanctionsOf 48 = .ok (.iload_n 2, 1) := by decide +kernel
theorem dX8_sanctionsOf_49 : decode cX8_sanctionsOf 49 = .ok (.ireturn, 1) := by decide +kernel
theorem dX8_sanctions_0 : decode cX8_sanctions 0 = .ok (.aload_n 0, 1) := by decide +kernel
theorem dX8_sanctions_1 : decode cX8_sanctions 1 = .ok (.iconst 0, 1) := by decide +kernel
theorem dX8_sanctions_2 : decode cX8_sanctions 2 = .ok (.putfield 84, 3) := by decide +kernel
theorem dX8_sanctions_5 : decode cX8_sanctions 5 = .ok (.aload_n 0, 1) := by decide +kernel
theorem dX8_sanctions_6 : decode cX8_sanctions 6 = .ok (.iload_n 1, 1) := by decide +kernel
theorem dX8_sanctions_7 : decode cX8_sanctions 7 = .ok (.invokevirtual 130, 3) := by decide +kernel
theorem dX8_sanctions_10 : decode cX8_sanctions 10 = .ok (.ifCond .eq 11, 3) := by decide +kernel
theorem dX8_sanctions_13 : decode cX8_sanctions 13 = .ok (.aload_n 0, 1) := by decide +kernel
theorem dX8_sanctions_14 : decode cX8_sanctions 14 = .ok (.iload_n 1, 1) := by decide +kernel
theorem dX8_sanctions_15 : decode cX8_sanctions 15 = .ok (.invokevirtual 140, 3) := by decide +kernel
theorem dX8_sanctions_18 : decode cX8_sanctions 18 = .ok (.goto 8, 3) := by decide +kernel
theorem dX8_sanctions_21 : decode cX8_sanctions 21 = .ok (.aload_n 0, 1) := by decide +kernel
theorem dX8_sanctions_22 : decode cX8_sanctions 22 = .ok (.iconst 1, 1) := by decide +kernel
theorem dX8_sanctions_23 : decode cX8_sanctions 23 = .ok (.invokevirtual 103, 3) := by decide +kernel
theorem dX8_sanctions_26 : decode cX8_sanctions 26 = .ok (.ireturn, 1) := by decide +kernel
theorem dX8_sanctionedUntil_0 : decode cX8_sanctionedUntil 0 = .ok (.aload_n 0, 1) := by decide +kernel
theorem dX8_sanctionedUntil_1 : decode cX8_sanctionedUntil 1 = .ok (.iconst 0, 1) := by decide +kernel
theorem dX8_sanctionedUntil_2 : decode cX8_sanctionedUntil 2 = .ok (.putfield 84, 3) := by decide +kernel
theorem dX8_sanctionedUntil_5 : decode cX8_sanctionedUntil 5 = .ok (.aload_n 0, 1) := by decide +kernel
theorem dX8_sanctionedUntil_6 : decode cX8_sanctionedUntil 6 = .ok (.iload_n 1, 1) := by decide +kernel
theorem dX8_sanctionedUntil_7 : decode cX8_sanctionedUntil 7 = .ok (.invokevirtual 130, 3) := by decide +kernel
theorem dX8_sanctionedUntil_10 : decode cX8_sanctionedUntil 10 = .ok (.ifCond .ne 9, 3) := by decide +kernel
theorem dX8_sanctionedUntil_13 : decode cX8_sanctionedUntil 13 = .ok (.aload_n 0, 1) := by decide +kernel
theorem dX8_sanctionedUntil_14 : decode cX8_sanctionedUntil 14 = .ok (.iconst 1, 1) := by decide +kernel
theorem dX8_sanctionedUntil_15 : decode cX8_sanctionedUntil 15 = .ok (.invokevirtual 103, 3) := by decide +kernel
theorem dX8_sanctionedUntil_18 : decode cX8_sanctionedUntil 18 = .ok (.ireturn, 1) := by decide +kernel
theorem dX8_sanctionedUntil_19 : decode cX8_sanctionedUntil 19 = .ok (.iconst 0, 1) := by decide +kernel
theorem dX8_sanctionedUntil_20 : decode cX8_sanctionedUntil 20 = .ok (.istore_n 2, 1) := by decide +kernel
theorem dX8_sanctionedUntil_21 : decode cX8_sanctionedUntil 21 = .ok (.iconst 0, 1) := by decide +kernel
theorem dX8_sanctionedUntil_22 : decode cX8_sanctionedUntil 22 = .ok (.istore_n 3, 1) := by decide +kernel
theorem dX8_sanctionedUntil_23 : decode cX8_sanctionedUntil 23 = .ok (.iload_n 3, 1) := by decide +kernel
theorem dX8_sanctionedUntil_24 : decode cX8_sanctionedUntil 24 = .ok (.aload_n 0, 1) := by decide +kernel
theorem dX8_sanctionedUntil_25 : decode cX8_sanctionedUntil 25 = .ok (.getfield 97, 3) := by decide +kernel
theorem dX8_sanctionedUntil_28 : decode cX8_sanctionedUntil 28 = .ok (.if_icmp .ge 46, 3) := by decide +kernel
theorem dX8_sanctionedUntil_31 : decode cX8_sanctionedUntil 31 = .ok (.aload_n 0, 1) := by decide +kernel
theorem dX8_sanctionedUntil_32 : decode cX8_sanctionedUntil 32 = .ok (.getfield 45, 3) := by decide +kernel
theorem dX8_sanctionedUntil_35 : decode cX8_sanctionedUntil 35 = .ok (.iload_n 3, 1) := by decide +kernel
theorem dX8_sanctionedUntil_36 : decode cX8_sanctionedUntil 36 = .ok (.iaload, 1) := by decide +kernel
theorem dX8_sanctionedUntil_37 : decode cX8_sanctionedUntil 37 = .ok (.iload_n 1, 1) := by decide +kernel
theorem dX8_sanctionedUntil_38 : decode cX8_sanctionedUntil 38 = .ok (.if_icmp .ne 28, 3) := by decide +kernel
theorem dX8_sanctionedUntil_41 : decode cX8_sanctionedUntil 41 = .ok (.aload_n 0, 1) := by decide +kernel
theorem dX8_sanctionedUntil_42 : decode cX8_sanctionedUntil 42 = .ok (.iload_n 3, 1) := by decide +kernel
theorem dX8_sanctionedUntil_43 : decode cX8_sanctionedUntil 43 = .ok (.aload_n 0, 1) := by decide +kernel
theorem dX8_sanctionedUntil_44 : decode cX8_sanctionedUntil 44 = .ok (.getfield 100, 3) := by decide +kernel
theorem dX8_sanctionedUntil_47 : decode cX8_sanctionedUntil 47 = .ok (.invokevirtual 137, 3) := by decide +kernel
theorem dX8_sanctionedUntil_50 : decode cX8_sanctionedUntil 50 = .ok (.ifCond .eq 16, 3) := by decide +kernel
theorem dX8_sanctionedUntil_53 : decode cX8_sanctionedUntil 53 = .ok (.iload_n 2, 1) := by decide +kernel
theorem dX8_sanctionedUntil_54 : decode cX8_sanctionedUntil 54 = .ok (.aload_n 0, 1) := by decide +kernel
theorem dX8_sanctionedUntil_55 : decode cX8_sanctionedUntil 55 = .ok (.getfield 66, 3) := by decide +kernel
theorem dX8_sanctionedUntil_58 : decode cX8_sanctionedUntil 58 = .ok (.iload_n 3, 1) := by decide +kernel
theorem dX8_sanctionedUntil_59 : decode cX8_sanctionedUntil 59 = .ok (.iaload, 1) := by decide +kernel
theorem dX8_sanctionedUntil_60 : decode cX8_sanctionedUntil 60 = .ok (.invokestatic 114, 3) := by decide +kernel
theorem dX8_sanctionedUntil_63 : decode cX8_sanctionedUntil 63 = .ok (.goto 4, 3) := by decide +kernel
theorem dX8_sanctionedUntil_66 : decode cX8_sanctionedUntil 66 = .ok (.iload_n 2, 1) := by decide +kernel
theorem dX8_sanctionedUntil_67 : decode cX8_sanctionedUntil 67 = .ok (.istore_n 2, 1) := by decide +kernel
theorem dX8_sanctionedUntil_68 : decode cX8_sanctionedUntil 68 = .ok (.iinc 3 1, 3) := by decide +kernel
theorem dX8_sanctionedUntil_71 : decode cX8_sanctionedUntil 71 = .ok (.goto (-48), 3) := by decide +kernel
theorem dX8_sanctionedUntil_74 : decode cX8_sanctionedUntil 74 = .ok (.iload_n 2, 1) := by decide +kernel
theorem dX8_sanctionedUntil_75 : decode cX8_sanctionedUntil 75 = .ok (.ifCond .ne 11, 3) := by decide +kernel
theorem dX8_sanctionedUntil_78 : decode cX8_sanctionedUntil 78 = .ok (.aload_n 0, 1) := by decide +kernel
theorem dX8_sanctionedUntil_79 : decode cX8_sanctionedUntil 79 = .ok (.iconst 2, 1) := by decide +kernel
theorem dX8_sanctionedUntil_80 : decode cX8_sanctionedUntil 80 = .ok (.invokevirtual 103, 3) := by decide +kernel
theorem dX8_sanctionedUntil_83 : decode cX8_sanctionedUntil 83 = .ok (.goto 4, 3) := by decide +kernel
theorem dX8_sanctionedUntil_86 : decode cX8_sanctionedUntil 86 = .ok (.iload_n 2, 1) := by decide +kernel
theorem dX8_sanctionedUntil_87 : decode cX8_sanctionedUntil 87 = .ok (.ireturn, 1) := by decide +kernel
theorem dX8_addBot_0 : decode cX8_addBot 0 = .ok (.aload_n 0, 1) := by decide +kernel
theorem dX8_addBot_1 : decode cX8_addBot 1 = .ok (.iconst 0, 1) := by decide +kernel
theorem dX8_addBot_2 : decode cX8_addBot 2 = .ok (.putfield 84, 3) := by decide +kernel
theorem dX8_addBot_5 : decode cX8_addBot 5 = .ok (.iload_n 1, 1) := by decide +kernel
theorem dX8_addBot_6 : decode cX8_addBot 6 = .ok (.iconst 0, 1) := by decide +kernel
theorem dX8_addBot_7 : decode cX8_addBot 7 = .ok (.bipush 7, 2) := by decide +kernel
theorem dX8_addBot_9 : decode cX8_addBot 9 = .ok (.invokestatic 90, 3) := by decide +kernel
theorem dX8_addBot_12 : decode cX8_addBot 12 = .ok (.ifCond .eq 14, 3) := by decide +kernel
theorem dX8_addBot_15 : decode cX8_addBot 15 = .ok (.iload_n 2, 1) := by decide +kernel
theorem dX8_addBot_16 : decode cX8_addBot 16 = .ok (.bipush 50, 2) := by decide +kernel
theorem dX8_addBot_18 : decode cX8_addBot 18 = .ok (.bipush 100, 2) := by decide +kernel
theorem dX8_addBot_20 : decode cX8_addBot 20 = .ok (.invokestatic 90, 3) := by decide +kernel
theorem dX8_addBot_23 : decode cX8_addBot 23 = .ok (.ifCond .ne 9, 3) := by decide +kernel
theorem dX8_addBot_26 : decode cX8_addBot 26 = .ok (.aload_n 0, 1) := by decide +kernel
theorem dX8_addBot_27 : decode cX8_addBot 27 = .ok (.iconst 1, 1) := by decide +kernel
theorem dX8_addBot_28 : decode cX8_addBot 28 = .ok (.invokevirtual 103, 3) := by decide +kernel
theorem dX8_addBot_31 : decode cX8_addBot 31 = .ok (.ireturn, 1) := by decide +kernel
theorem dX8_addBot_32 : decode cX8_addBot 32 = .ok (.aload_n 0, 1) := by decide +kernel
theorem dX8_addBot_33 : decode cX8_addBot 33 = .ok (.getfield 143, 3) := by decide +kernel
theorem dX8_addBot_36 : decode cX8_addBot 36 = .ok (.iconst 4, 1) := by decide +kernel
theorem dX8_addBot_37 : decode cX8_addBot 37 = .ok (.if_icmp .ne 9, 3) := by decide +kernel
theorem dX8_addBot_40 : decode cX8_addBot 40 = .ok (.aload_n 0, 1) := by decide +kernel
theorem dX8_addBot_41 : decode cX8_addBot 41 = .ok (.iconst 2, 1) := by decide +kernel
theorem dX8_addBot_42 : decode cX8_addBot 42 = .ok (.invokevirtual 103, 3) := by decide +kernel
theorem dX8_addBot_45 : decode cX8_addBot 45 = .ok (.ireturn, 1) := by decide +kernel
theorem dX8_addBot_46 : decode cX8_addBot 46 = .ok (.aload_n 0, 1) := by decide +kernel
theorem dX8_addBot_47 : decode cX8_addBot 47 = .ok (.getfield 28, 3) := by decide +kernel
theorem dX8_addBot_50 : decode cX8_addBot 50 = .ok (.aload_n 0, 1) := by decide +kernel
theorem dX8_addBot_51 : decode cX8_addBot 51 = .ok (.getfield 143, 3) := by decide +kernel
theorem dX8_addBot_54 : decode cX8_addBot 54 = .ok (.iload_n 1, 1) := by decide +kernel
theorem dX8_addBot_55 : decode cX8_addBot 55 = .ok (.iastore, 1) := by decide +kernel
theorem dX8_addBot_56 : decode cX8_addBot 56 = .ok (.aload_n 0, 1) := by decide +kernel
theorem dX8_addBot_57 : decode cX8_addBot 57 = .ok (.getfield 31, 3) := by decide +kernel
theorem dX8_addBot_60 : decode cX8_addBot 60 = .ok (.aload_n 0, 1) := by decide +kernel
theorem dX8_addBot_61 : decode cX8_addBot 61 = .ok (.getfield 143, 3) := by decide +kernel
theorem dX8_addBot_64 : decode cX8_addBot 64 = .ok (.iload_n 2, 1) := by decide +kernel
theorem dX8_addBot_65 : decode cX8_addBot 65 = .ok (.iastore, 1) := by decide +kernel
theorem dX8_addBot_66 : decode cX8_addBot 66 = .ok (.aload_n 0, 1) := by decide +kernel
theorem dX8_addBot_67 : decode cX8_addBot 67 = .ok (.dup, 1) := by decide +kernel
theorem dX8_addBot_68 : decode cX8_addBot 68 = .ok (.getfield 143, 3) := by decide +kernel
theorem dX8_addBot_71 : decode cX8_addBot 71 = .ok (.iconst 1, 1) := by decide +kernel
theorem dX8_addBot_72 : decode cX8_addBot 72 = .ok (.iadd, 1) := by decide +kernel
theorem dX8_addBot_73 : decode cX8_addBot 73 = .ok (.putfield 143, 3) := by decide +kernel
theorem dX8_addBot_76 : decode cX8_addBot 76 = .ok (.aload_n 0, 1) := by decide +kernel
theorem dX8_addBot_77 : decode cX8_addBot 77 = .ok (.getfield 143, 3) := by decide +kernel
theorem dX8_addBot_80 : decode cX8_addBot 80 = .ok (.iconst 1, 1) := by decide +kernel
theorem dX8_addBot_81 : decode cX8_addBot 81 = .ok (.isub, 1) := by decide +kernel
theorem dX8_addBot_82 : decode cX8_addBot 82 = .ok (.ireturn, 1) := by decide +kernel
theorem dX8_threshold_0 : decode cX8_threshold 0 = .ok (.aload_n 0, 1) := by decide +kernel
theorem dX8_threshold_1 : decode cX8_threshold 1 = .ok (.iconst 0, 1) := by decide +kernel
theorem dX8_threshold_2 : decode cX8_threshold 2 = .ok (.putfield 84, 3) := by decide +kernel
theorem dX8_threshold_5 : decode cX8_threshold 5 = .ok (.iload_n 1, 1) := by decide +kernel
theorem dX8_threshold_6 : decode cX8_threshold 6 = .ok (.iconst 0, 1) := by decide +kernel
theorem dX8_threshold_7 : decode cX8_threshold 7 = .ok (.aload_n 0, 1) := by decide +kernel
theorem dX8_threshold_8 : decode cX8_threshold 8 = .ok (.getfield 143, 3) := by decide +kernel
theorem dX8_threshold_11 : decode cX8_threshold 11 = .ok (.iconst 1, 1) := by decide +kernel
theorem dX8_threshold_12 : decode cX8_threshold 12 = .ok (.isub, 1) := by decide +kernel
theorem dX8_threshold_13 : decode cX8_threshold 13 = .ok (.invokestatic 90, 3) := by decide +kernel
theorem dX8_threshold_16 : decode cX8_threshold 16 = .ok (.ifCond .eq 12, 3) := by decide +kernel
theorem dX8_threshold_19 : decode cX8_threshold 19 = .ok (.aload_n 0, 1) := by decide +kernel
theorem dX8_threshold_20 : decode cX8_threshold 20 = .ok (.getfield 31, 3) := by decide +kernel
theorem dX8_threshold_23 : decode cX8_threshold 23 = .ok (.iload_n 1, 1) := by decide +kernel
theorem dX8_threshold_24 : decode cX8_threshold 24 = .ok (.iaload, 1) := by decide +kernel
theorem dX8_threshold_25 : decode cX8_threshold 25 = .ok (.goto 8, 3) := by decide +kernel
theorem dX8_threshold_28 : decode cX8_threshold 28 = .ok (.aload_n 0, 1) := by decide +kernel
theorem dX8_threshold_29 : decode cX8_threshold 29 = .ok (.iconst 1, 1) := by decide +kernel
theorem dX8_threshold_30 : decode cX8_threshold 30 = .ok (.invokevirtual 103, 3) := by decide +kernel
theorem dX8_threshold_33 : decode cX8_threshold 33 = .ok (.ireturn, 1) := by decide +kernel
theorem dX8_like_0 : decode cX8_like 0 = .ok (.aload_n 0, 1) := by decide +kernel
theorem dX8_like_1 : decode cX8_like 1 = .ok (.getfield 48, 3) := by decide +kernel
theorem dX8_like_4 : decode cX8_like 4 = .ok (.iload_n 1, 1) := by decide +kernel
theorem dX8_like_5 : decode cX8_like 5 = .ok (.iaload, 1) := by decide +kernel
theorem dX8_like_6 : decode cX8_like 6 = .ok (.aload_n 0, 1) := by decide +kernel
theorem dX8_like_7 : decode cX8_like 7 = .ok (.getfield 48, 3) := by decide +kernel
theorem dX8_like_10 : decode cX8_like 10 = .ok (.iload_n 2, 1) := by decide +kernel
theorem dX8_like_11 : decode cX8_like 11 = .ok (.iaload, 1) := by decide +kernel
theorem dX8_like_12 : decode cX8_like 12 = .ok (.iand, 1) := by decide +kernel
theorem dX8_like_13 : decode cX8_like 13 = .ok (.invokestatic 146, 3) := by decide +kernel
theorem dX8_like_16 : decode cX8_like 16 = .ok (.ireturn, 1) := by decide +kernel
theorem dX8_precedentOf_0 : decode cX8_precedentOf 0 = .ok (.iconst (-1), 1) := by decide +kernel
theorem dX8_precedentOf_1 : decode cX8_precedentOf 1 = .ok (.istore_n 2, 1) := by decide +kernel
theorem dX8_precedentOf_2 : decode cX8_precedentOf 2 = .ok (.iconst 0, 1) := by decide +kernel
theorem dX8_precedentOf_3 : decode cX8_precedentOf 3 = .ok (.istore_n 3, 1) := by decide +kernel
theorem dX8_precedentOf_4 : decode cX8_precedentOf 4 = .ok (.iload_n 3, 1) := by decide +kernel
theorem dX8_precedentOf_5 : decode cX8_precedentOf 5 = .ok (.aload_n 0, 1) := by decide +kernel
theorem dX8_precedentOf_6 : decode cX8_precedentOf 6 = .ok (.getfield 97, 3) := by decide +kernel
theorem dX8_precedentOf_9 : decode cX8_precedentOf 9 = .ok (.if_icmp .ge 98, 3) := by decide +kernel
theorem dX8_precedentOf_12 : decode cX8_precedentOf 12 = .ok (.iload_n 3, 1) := by decide +kernel
theorem dX8_precedentOf_13 : decode cX8_precedentOf 13 = .ok (.iload_n 1, 1) := by decide +kernel
theorem dX8_precedentOf_14 : decode cX8_precedentOf 14 = .ok (.if_icmp .eq 87, 3) := by decide +kernel
theorem dX8_precedentOf_17 : decode cX8_precedentOf 17 = .ok (.aload_n 0, 1) := by decide +kernel
theorem dX8_precedentOf_18 : decode cX8_precedentOf 18 = .ok (.iload_n 3, 1) := by decide +kernel
theorem dX8_precedentOf_19 : decode cX8_precedentOf 19 = .ok (.bipush 103, 2) := by decide +kernel
theorem dX8_precedentOf_21 : decode cX8_precedentOf 21 = .ok (.invokevirtual 133, 3) := by decide +kernel
theorem dX8_precedentOf_24 : decode cX8_precedentOf 24 = .ok (.ifCond .ne 13, 3) := by decide +kernel
theorem dX8_precedentOf_27 : decode cX8_precedentOf 27 = .ok (.aload_n 0, 1) := by decide +kernel
theorem dX8_precedentOf_28 : decode cX8_precedentOf 28 = .ok (.iload_n 3, 1) := by decide +kernel
theorem dX8_precedentOf_29 : decode cX8_precedentOf 29 = .ok (.bipush 105, 2) := by decide +kernel
theorem dX8_precedentOf_31 : decode cX8_precedentOf 31 = .ok (.invokevirtual 133, 3) := by decide +kernel
theorem dX8_precedentOf_34 : decode cX8_precedentOf 34 = .ok (.ifCond .eq 67, 3) := by decide +kernel
theorem dX8_precedentOf_37 : decode cX8_precedentOf 37 = .ok (.aload_n 0, 1) := by decide +kernel
theorem dX8_precedentOf_38 : decode cX8_precedentOf 38 = .ok (.iload_n 1, 1) := by decide +kernel
theorem dX8_precedentOf_39 : decode cX8_precedentOf 39 = .ok (.iload_n 3, 1) := by decide +kernel
theorem dX8_precedentOf_40 : decode cX8_precedentOf 40 = .ok (.invokevirtual 149, 3) := by decide +kernel
theorem dX8_precedentOf_43 : decode cX8_precedentOf 43 = .ok (.iconst 2, 1) := by decide +kernel
theorem dX8_precedentOf_44 : decode cX8_precedentOf 44 = .ok (.if_icmp .ge 6, 3) := by decide +kernel
theorem dX8_precedentOf_47 : decode cX8_precedentOf 47 = .ok (.goto 54, 3) := by decide +kernel
theorem dX8_precedentOf_50 : decode cX8_precedentOf 50 = .ok (.iload_n 2, 1) := by decide +kernel
theorem dX8_precedentOf_51 : decode cX8_precedentOf 51 = .ok (.ifCond .lt 48, 3) := by decide +kernel
theorem dX8_precedentOf_54 : decode cX8_precedentOf 54 = .ok (.aload_n 0, 1) := by decide +kernel
theorem dX8_precedentOf_55 : decode cX8_precedentOf 55 = .ok (.iload_n 1, 1) := by decide +kernel
theorem dX8_precedentOf_56 : decode cX8_precedentOf 56 = .ok (.iload_n 3, 1) := by decide +kernel
theorem dX8_precedentOf_57 : decode cX8_precedentOf 57 = .ok (.invokevirtual 149, 3) := by decide +kernel
theorem dX8_precedentOf_60 : decode cX8_precedentOf 60 = .ok (.aload_n 0, 1) := by decide +kernel
theorem dX8_precedentOf_61 : decode cX8_precedentOf 61 = .ok (.iload_n 1, 1) := by decide +kernel
theorem dX8_precedentOf_62 : decode cX8_precedentOf 62 = .ok (.iload_n 2, 1) := by decide +kernel
theorem dX8_precedentOf_63 : decode cX8_precedentOf 63 = .ok (.invokevirtual 149, 3) := by decide +kernel
theorem dX8_precedentOf_66 : decode cX8_precedentOf 66 = .ok (.if_icmp .gt 33, 3) := by decide +kernel
theorem dX8_precedentOf_69 : decode cX8_precedentOf 69 = .ok (.aload_n 0, 1) := by decide +kernel
theorem dX8_precedentOf_70 : decode cX8_precedentOf 70 = .ok (.iload_n 1, 1) := by decide +kernel
theorem dX8_precedentOf_71 : decode cX8_precedentOf 71 = .ok (.iload_n 3, 1) := by decide +kernel
theorem dX8_precedentOf_72 : decode cX8_precedentOf 72 = .ok (.invokevirtual 149, 3) := by decide +kernel
theorem dX8_precedentOf_75 : decode cX8_precedentOf 75 = .ok (.aload_n 0, 1) := by decide +kernel
theorem dX8_precedentOf_76 : decode cX8_precedentOf 76 = .ok (.iload_n 1, 1) := by decide +kernel
theorem dX8_precedentOf_77 : decode cX8_precedentOf 77 = .ok (.iload_n 2, 1) := by decide +kernel
theorem dX8_precedentOf_78 : decode cX8_precedentOf 78 = .ok (.invokevirtual 149, 3) := by decide +kernel
theorem dX8_precedentOf_81 : decode cX8_precedentOf 81 = .ok (.if_icmp .ne 20, 3) := by decide +kernel
theorem dX8_precedentOf_84 : decode cX8_precedentOf 84 = .ok (.aload_n 0, 1) := by decide +kernel
theorem dX8_precedentOf_85 : decode cX8_precedentOf 85 = .ok (.getfield 57, 3) := by decide +kernel
theorem dX8_precedentOf_88 : decode cX8_precedentOf 88 = .ok (.iload_n 3, 1) := by decide +kernel
theorem dX8_precedentOf_89 : decode cX8_precedentOf 89 = .ok (.iaload, 1) := by decide +kernel
theorem dX8_precedentOf_90 : decode cX8_precedentOf 90 = .ok (.aload_n 0, 1) := by decide +kernel
theorem dX8_precedentOf_91 : decode cX8_precedentOf 91 = .ok (.getfield 57, 3) := by decide +kernel
theorem dX8_precedentOf_94 : decode cX8_precedentOf 94 = .ok (.iload_n 2, 1) := by decide +kernel
theorem dX8_precedentOf_95 : decode cX8_precedentOf 95 = .ok (.iaload, 1) := by decide +kernel
theorem dX8_precedentOf_96 : decode cX8_precedentOf 96 = .ok (.if_icmp .le 5, 3) := by decide +kernel
theorem dX8_precedentOf_99 : decode cX8_precedentOf 99 = .ok (.iload_n 3, 1) := by decide +kernel
theorem dX8_precedentOf_100 : decode cX8_precedentOf 100 = .ok (.istore_n 2, 1) := by decide +kernel
theorem dX8_precedentOf_101 : decode cX8_precedentOf 101 = .ok (.iinc 3 1, 3) := by decide +kernel
theorem dX8_precedentOf_104 : decode cX8_precedentOf 104 = .ok (.goto (-100), 3) := by decide +kernel
theorem dX8_precedentOf_107 : decode cX8_precedentOf 107 = .ok (.iload_n 2, 1) := by decide +kernel
theorem dX8_precedentOf_108 : decode cX8_precedentOf 108 = .ok (.ireturn, 1) := by decide +kernel
theorem dX8_outcomeBy_0 : decode cX8_outcomeBy 0 = .ok (.aload_n 0, 1) := by decide +kernel
theorem dX8_outcomeBy_1 : decode cX8_outcomeBy 1 = .ok (.iload_n 1, 1) := by decide +kernel
theorem dX8_outcomeBy_2 : decode cX8_outcomeBy 2 = .ok (.invokevirtual 127, 3) := by decide +kernel
theorem dX8_outcomeBy_5 : decode cX8_outcomeBy 5 = .ok (.istore 4, 2) := by decide +kernel
theorem dX8_outcomeBy_7 : decode cX8_outcomeBy 7 = .ok (.iload 4, 2) := by decide +kernel
theorem dX8_outcomeBy_9 : decode cX8_outcomeBy 9 = .ok (.ifCond .ge 6, 3) := by decide +kernel
theorem dX8_outcomeBy_12 : decode cX8_outcomeBy 12 = .ok (.bipush 110, 2) := by decide +kernel
theorem dX8_outcomeBy_14 : decode cX8_outcomeBy 14 = .ok (.ireturn, 1) := by decide +kernel
theorem dX8_outcomeBy_15 : decode cX8_outcomeBy 15 = .ok (.aload_n 0, 1) := by decide +kernel
theorem dX8_outcomeBy_16 : decode cX8_outcomeBy 16 = .ok (.getfield 34, 3) := by decide +kernel
theorem dX8_outcomeBy_19 : decode cX8_outcomeBy 19 = .ok (.iload 4, 2) := by decide +kernel
theorem dX8_outcomeBy_21 : decode cX8_outcomeBy 21 = .ok (.baload, 1) := by decide +kernel
theorem dX8_outcomeBy_22 : decode cX8_outcomeBy 22 = .ok (.ifCond .ne 6, 3) := by decide +kernel
theorem dX8_outcomeBy_25 : decode cX8_outcomeBy 25 = .ok (.bipush 119, 2) := by decide +kernel
theorem dX8_outcomeBy_27 : decode cX8_outcomeBy 27 = .ok (.ireturn, 1) := by decide +kernel
theorem dX8_outcomeBy_28 : decode cX8_outcomeBy 28 = .ok (.aload_n 0, 1) := by decide +kernel
theorem dX8_outcomeBy_29 : decode cX8_outcomeBy 29 = .ok (.iload_n 1, 1) := by decide +kernel
theorem dX8_outcomeBy_30 : decode cX8_outcomeBy 30 = .ok (.invokevirtual 152, 3) := by decide +kernel
theorem dX8_outcomeBy_33 : decode cX8_outcomeBy 33 = .ok (.istore 5, 2) := by decide +kernel
theorem dX8_outcomeBy_35 : decode cX8_outcomeBy 35 = .ok (.iload 5, 2) := by decide +kernel
theorem dX8_outcomeBy_37 : decode cX8_outcomeBy 37 = .ok (.ifCond .lt 19, 3) := by decide +kernel
theorem dX8_outcomeBy_40 : decode cX8_outcomeBy 40 = .ok (.aload_n 0, 1) := by decide +kernel
theorem dX8_outcomeBy_41 : decode cX8_outcomeBy 41 = .ok (.getfield 73, 3) := by decide +kernel
theorem dX8_outcomeBy_44 : decode cX8_outcomeBy 44 = .ok (.iload 5, 2) := by decide +kernel
theorem dX8_outcomeBy_46 : decode cX8_outcomeBy 46 = .ok (.caload, 1) := by decide +kernel
theorem dX8_outcomeBy_47 : decode cX8_outcomeBy 47 = .ok (.bipush 103, 2) := by decide +kernel
theorem dX8_outcomeBy_49 : decode cX8_outcomeBy 49 = .ok (.if_icmp .ne 7, 3) := by decide +kernel
theorem dX8_outcomeBy_52 : decode cX8_outcomeBy 52 = .ok (.iconst 5, 1) := by decide +kernel
theorem dX8_outcomeBy_53 : decode cX8_outcomeBy 53 = .ok (.goto 4, 3) := by decide +kernel
theorem dX8_outcomeBy_56 : decode cX8_outcomeBy 56 = .ok (.iconst 0, 1) := by decide +kernel
theorem dX8_outcomeBy_57 : decode cX8_outcomeBy 57 = .ok (.istore 6, 2) := by decide +kernel
theorem dX8_outcomeBy_59 : decode cX8_outcomeBy 59 = .ok (.iload 5, 2) := by decide +kernel
theorem dX8_outcomeBy_61 : decode cX8_outcomeBy 61 = .ok (.ifCond .lt 19, 3) := by decide +kernel
theorem dX8_outcomeBy_64 : decode cX8_outcomeBy 64 = .ok (.aload_n 0, 1) := by decide +kernel
theorem dX8_outcomeBy_65 : decode cX8_outcomeBy 65 = .ok (.getfield 73, 3) := by decide +kernel
theorem dX8_outcomeBy_68 : decode cX8_outcomeBy 68 = .ok (.iload 5, 2) := by decide +kernel
theorem dX8_outcomeBy_70 : decode cX8_outcomeBy 70 = .ok (.caload, 1) := by decide +kernel
theorem dX8_outcomeBy_71 : decode cX8_outcomeBy 71 = .ok (.bipush 105, 2) := by decide +kernel
theorem dX8_outcomeBy_73 : decode cX8_outcomeBy 73 = .ok (.if_icmp .ne 7, 3) := by decide +kernel
theorem dX8_outcomeBy_76 : decode cX8_outcomeBy 76 = .ok (.iconst 5, 1) := by decide +kernel
theorem dX8_outcomeBy_77 : decode cX8_outcomeBy 77 = .ok (.goto 4, 3) := by decide +kernel
theorem dX8_outcomeBy_80 : decode cX8_outcomeBy 80 = .ok (.iconst 0, 1) := by decide +kernel
theorem dX8_outcomeBy_81 : decode cX8_outcomeBy 81 = .ok (.istore 7, 2) := by decide +kernel
theorem dX8_outcomeBy_83 : decode cX8_outcomeBy 83 = .ok (.iload_n 2, 1) := by decide +kernel
theorem dX8_outcomeBy_84 : decode cX8_outcomeBy 84 = .ok (.iload 6, 2) := by decide +kernel
theorem dX8_outcomeBy_86 : decode cX8_outcomeBy 86 = .ok (.iadd, 1) := by decide +kernel
theorem dX8_outcomeBy_87 : decode cX8_outcomeBy 87 = .ok (.iload_n 3, 1) := by decide +kernel
theorem dX8_outcomeBy_88 : decode cX8_outcomeBy 88 = .ok (.iload 7, 2) := by decide +kernel
theorem dX8_outcomeBy_90 : decode cX8_outcomeBy 90 = .ok (.iadd, 1) := by decide +kernel
theorem dX8_outcomeBy_91 : decode cX8_outcomeBy 91 = .ok (.if_icmp .le 8, 3) := by decide +kernel
theorem dX8_outcomeBy_94 : decode cX8_outcomeBy 94 = .ok (.bipush 103, 2) := by decide +kernel
theorem dX8_outcomeBy_96 : decode cX8_outcomeBy 96 = .ok (.goto 5, 3) := by decide +kernel
theorem dX8_outcomeBy_99 : decode cX8_outcomeBy 99 = .ok (.bipush 105, 2) := by decide +kernel
theorem dX8_outcomeBy_101 : decode cX8_outcomeBy 101 = .ok (.ireturn, 1) := by decide +kernel
theorem dX8_decides_0 : decode cX8_decides 0 = .ok (.aload_n 0, 1) := by decide +kernel
theorem dX8_decides_1 : decode cX8_decides 1 = .ok (.getfield 73, 3) := by decide +kernel
theorem dX8_decides_4 : decode cX8_decides 4 = .ok (.iload_n 1, 1) := by decide +kernel
theorem dX8_decides_5 : decode cX8_decides 5 = .ok (.aload_n 0, 1) := by decide +kernel
theorem dX8_decides_6 : decode cX8_decides 6 = .ok (.iload_n 1, 1) := by decide +kernel
theorem dX8_decides_7 : decode cX8_decides 7 = .ok (.iload_n 2, 1) := by decide +kernel
theorem dX8_decides_8 : decode cX8_decides 8 = .ok (.iload_n 3, 1) := by decide +kernel
theorem dX8_decides_9 : decode cX8_decides 9 = .ok (.invokevirtual 155, 3) := by decide +kernel
theorem dX8_decides_12 : decode cX8_decides 12 = .ok (.castore, 1) := by decide +kernel
theorem dX8_decides_13 : decode cX8_decides 13 = .ok (.aload_n 0, 1) := by decide +kernel
theorem dX8_decides_14 : decode cX8_decides 14 = .ok (.getfield 69, 3) := by decide +kernel
theorem dX8_decides_17 : decode cX8_decides 17 = .ok (.iload_n 1, 1) := by decide +kernel
theorem dX8_decides_18 : decode cX8_decides 18 = .ok (.bipush 100, 2) := by decide +kernel
theorem dX8_decides_20 : decode cX8_decides 20 = .ok (.castore, 1) := by decide +kernel
theorem dX8_decides_21 : decode cX8_decides 21 = .ok (.aload_n 0, 1) := by decide +kernel
theorem dX8_decides_22 : decode cX8_decides 22 = .ok (.getfield 60, 3) := by decide +kernel
theorem dX8_decides_25 : decode cX8_decides 25 = .ok (.iload_n 1, 1) := by decide +kernel
theorem dX8_decides_26 : decode cX8_decides 26 = .ok (.iload 4, 2) := by decide +kernel
theorem dX8_decides_28 : decode cX8_decides 28 = .ok (.iastore, 1) := by decide +kernel
theorem dX8_decides_29 : decode cX8_decides 29 = .ok (.aload_n 0, 1) := by decide +kernel
theorem dX8_decides_30 : decode cX8_decides 30 = .ok (.getfield 57, 3) := by decide +kernel
theorem dX8_decides_33 : decode cX8_decides 33 = .ok (.iload_n 1, 1) := by decide +kernel
theorem dX8_decides_34 : decode cX8_decides 34 = .ok (.aload_n 0, 1) := by decide +kernel
theorem dX8_decides_35 : decode cX8_decides 35 = .ok (.getfield 159, 3) := by decide +kernel
theorem dX8_decides_38 : decode cX8_decides 38 = .ok (.iastore, 1) := by decide +kernel
theorem dX8_decides_39 : decode cX8_decides 39 = .ok (.aload_n 0, 1) := by decide +kernel
theorem dX8_decides_40 : decode cX8_decides 40 = .ok (.dup, 1) := by decide +kernel
theorem dX8_decides_41 : decode cX8_decides 41 = .ok (.getfield 159, 3) := by decide +kernel
theorem dX8_decides_44 : decode cX8_decides 44 = .ok (.iconst 1, 1) := by decide +kernel
theorem dX8_decides_45 : decode cX8_decides 45 = .ok (.iadd, 1) := by decide +kernel
theorem dX8_decides_46 : decode cX8_decides 46 = .ok (.putfield 159, 3) := by decide +kernel
theorem dX8_decides_49 : decode cX8_decides 49 = .ok (.aload_n 0, 1) := by decide +kernel
theorem dX8_decides_50 : decode cX8_decides 50 = .ok (.getfield 73, 3) := by decide +kernel
theorem dX8_decides_53 : decode cX8_decides 53 = .ok (.iload_n 1, 1) := by decide +kernel
theorem dX8_decides_54 : decode cX8_decides 54 = .ok (.caload, 1) := by decide +kernel
theorem dX8_decides_55 : decode cX8_decides 55 = .ok (.bipush 103, 2) := by decide +kernel
theorem dX8_decides_57 : decode cX8_decides 57 = .ok (.if_icmp .eq 4, 3) := by decide +kernel
theorem dX8_decides_60 : decode cX8_decides 60 = .ok (.return_, 1) := by decide +kernel
theorem dX8_decides_61 : decode cX8_decides 61 = .ok (.aload_n 0, 1) := by decide +kernel
theorem dX8_decides_62 : decode cX8_decides 62 = .ok (.getfield 63, 3) := by decide +kernel
theorem dX8_decides_65 : decode cX8_decides 65 = .ok (.iload_n 1, 1) := by decide +kernel
theorem dX8_decides_66 : decode cX8_decides 66 = .ok (.aload_n 0, 1) := by decide +kernel
theorem dX8_decides_67 : decode cX8_decides 67 = .ok (.getfield 100, 3) := by decide +kernel
theorem dX8_decides_70 : decode cX8_decides 70 = .ok (.iastore, 1) := by decide +kernel
theorem dX8_decides_71 : decode cX8_decides 71 = .ok (.aload_n 0, 1) := by decide +kernel
theorem dX8_decides_72 : decode cX8_decides 72 = .ok (.getfield 66, 3) := by decide +kernel
theorem dX8_decides_75 : decode cX8_decides 75 = .ok (.iload_n 1, 1) := by decide +kernel
theorem dX8_decides_76 : decode cX8_decides 76 = .ok (.aload_n 0, 1) := by decide +kernel
theorem dX8_decides_77 : decode cX8_decides 77 = .ok (.getfield 100, 3) := by decide +kernel
theorem dX8_decides_80 : decode cX8_decides 80 = .ok (.aload_n 0, 1) := by decide +kernel
theorem dX8_decides_81 : decode cX8_decides 81 = .ok (.getfield 16, 3) := by decide +kernel
theorem dX8_decides_84 : decode cX8_decides 84 = .ok (.aload_n 0, 1) := by decide +kernel
theorem dX8_decides_85 : decode cX8_decides 85 = .ok (.iload_n 1, 1) := by decide +kernel
theorem dX8_decides_86 : decode cX8_decides 86 = .ok (.invokevirtual 127, 3) := by decide +kernel
theorem dX8_decides_89 : decode cX8_decides 89 = .ok (.iaload, 1) := by decide +kernel
theorem dX8_decides_90 : decode cX8_decides 90 = .ok (.iadd, 1) := by decide +kernel
theorem dX8_decides_91 : decode cX8_decides 91 = .ok (.iastore, 1) := by decide +kernel
theorem dX8_decides_92 : decode cX8_decides 92 = .ok (.return_, 1) := by decide +kernel
theorem dX8_file_0 : decode cX8_file 0 = .ok (.aload_n 0, 1) := by decide +kernel
theorem dX8_file_1 : decode cX8_file 1 = .ok (.iconst 0, 1) := by decide +kernel
theorem dX8_file_2 : decode cX8_file 2 = .ok (.putfield 84, 3) := by decide +kernel
theorem dX8_file_5 : decode cX8_file 5 = .ok (.aload_n 0, 1) := by decide +kernel
theorem dX8_file_6 : decode cX8_file 6 = .ok (.iload_n 1, 1) := by decide +kernel
theorem dX8_file_7 : decode cX8_file 7 = .ok (.invokevirtual 130, 3) := by decide +kernel
theorem dX8_file_10 : decode cX8_file 10 = .ok (.ifCond .eq 11, 3) := by decide +kernel
theorem dX8_file_13 : decode cX8_file 13 = .ok (.aload_n 0, 1) := by decide +kernel
theorem dX8_file_14 : decode cX8_file 14 = .ok (.iload_n 2, 1) := by decide +kernel
theorem dX8_file_15 : decode cX8_file 15 = .ok (.invokevirtual 130, 3) := by decide +kernel
theorem dX8_file_18 : decode cX8_file 18 = .ok (.ifCond .ne 9, 3) := by decide +kernel
theorem dX8_file_21 : decode cX8_file 21 = .ok (.aload_n 0, 1) := by decide +kernel
theorem dX8_file_22 : decode cX8_file 22 = .ok (.iconst 1, 1) := by decide +kernel
theorem dX8_file_23 : decode cX8_file 23 = .ok (.invokevirtual 103, 3) := by decide +kernel
theorem dX8_file_26 : decode cX8_file 26 = .ok (.ireturn, 1) := by decide +kernel
theorem dX8_file_27 : decode cX8_file 27 = .ok (.iload_n 1, 1) := by decide +kernel
theorem dX8_file_28 : decode cX8_file 28 = .ok (.iload_n 2, 1) := by decide +kernel
theorem dX8_file_29 : decode cX8_file 29 = .ok (.if_icmp .eq 25, 3) := by decide +kernel
theorem dX8_file_32 : decode cX8_file 32 = .ok (.iload_n 3, 1) := by decide +kernel
theorem dX8_file_33 : decode cX8_file 33 = .ok (.iconst 1, 1) := by decide +kernel
theorem dX8_file_34 : decode cX8_file 34 = .ok (.sipush 255, 3) := by decide +kernel
theorem dX8_file_37 : decode cX8_file 37 = .ok (.invokestatic 90, 3) := by decide +kernel
theorem dX8_file_40 : decode cX8_file 40 = .ok (.ifCond .eq 14, 3) := by decide +kernel
theorem dX8_file_43 : decode cX8_file 43 = .ok (.iload 4, 2) := by decide +kernel
theorem dX8_file_45 : decode cX8_file 45 = .ok (.iconst 0, 1) := by decide +kernel
theorem dX8_file_46 : decode cX8_file 46 = .ok (.bipush 100, 2) := by decide +kernel
theorem dX8_file_48 : decode cX8_file 48 = .ok (.invokestatic 90, 3) := by decide +kernel
theorem dX8_file_51 : decode cX8_file 51 = .ok (.ifCond .ne 9, 3) := by decide +kernel
theorem dX8_file_54 : decode cX8_file 54 = .ok (.aload_n 0, 1) := by decide +kernel
theorem dX8_file_55 : decode cX8_file 55 = .ok (.iconst 2, 1) := by decide +kernel
theorem dX8_file_56 : decode cX8_file 56 = .ok (.invokevirtual 103, 3) := by decide +kernel
theorem dX8_file_59 : decode cX8_file 59 = .ok (.ireturn, 1) := by decide +kernel
theorem dX8_file_60 : decode cX8_file 60 = .ok (.aload_n 0, 1) := by decide +kernel
theorem dX8_file_61 : decode cX8_file 61 = .ok (.getfield 97, 3) := by decide +kernel
theorem dX8_file_64 : decode cX8_file 64 = .ok (.bipush 20, 2) := by decide +kernel
theorem dX8_file_66 : decode cX8_file 66 = .ok (.if_icmp .ne 9, 3) := by decide +kernel
theorem dX8_file_69 : decode cX8_file 69 = .ok (.aload_n 0, 1) := by decide +kernel
theorem dX8_file_70 : decode cX8_file 70 = .ok (.iconst 3, 1) := by decide +kernel
theorem dX8_file_71 : decode cX8_file 71 = .ok (.invokevirtual 103, 3) := by decide +kernel
theorem dX8_file_74 : decode cX8_file 74 = .ok (.ireturn, 1) := by decide +kernel
theorem dX8_file_75 : decode cX8_file 75 = .ok (.aload_n 0, 1) := by decide +kernel
theorem dX8_file_76 : decode cX8_file 76 = .ok (.getfield 97, 3) := by decide +kernel
theorem dX8_file_79 : decode cX8_file 79 = .ok (.istore 5, 2) := by decide +kernel
theorem dX8_file_81 : decode cX8_file 81 = .ok (.aload_n 0, 1) := by decide +kernel
theorem dX8_file_82 : decode cX8_file 82 = .ok (.getfield 42, 3) := by decide +kernel
theorem dX8_file_85 : decode cX8_file 85 = .ok (.iload 5, 2) := by decide +kernel
theorem dX8_file_87 : decode cX8_file 87 = .ok (.iload_n 1, 1) := by decide +kernel
theorem dX8_file_88 : decode cX8_file 88 = .ok (.iastore, 1) := by decide +kernel
theorem dX8_file_89 : decode cX8_file 89 = .ok (.aload_n 0, 1) := by decide +kernel
theorem dX8_file_90 : decode cX8_file 90 = .ok (.getfield 45, 3) := by decide +kernel
theorem dX8_file_93 : decode cX8_file 93 = .ok (.iload 5, 2) := by decide +kernel
theorem dX8_file_95 : decode cX8_file 95 = .ok (.iload_n 2, 1) := by decide +kernel
theorem dX8_file_96 : decode cX8_file 96 = .ok (.iastore, 1) := by decide +kernel
theorem dX8_file_97 : decode cX8_file 97 = .ok (.aload_n 0, 1) := by decide +kernel
theorem dX8_file_98 : decode cX8_file 98 = .ok (.getfield 48, 3) := by decide +kernel
theorem dX8_file_101 : decode cX8_file 101 = .ok (.iload 5, 2) := by decide +kernel
theorem dX8_file_103 : decode cX8_file 103 = .ok (.iload_n 3, 1) := by decide +kernel
theorem dX8_file_104 : decode cX8_file 104 = .ok (.iastore, 1) := by decide +kernel
theorem dX8_file_105 : decode cX8_file 105 = .ok (.aload_n 0, 1) := by decide +kernel
theorem dX8_file_106 : decode cX8_file 106 = .ok (.getfield 51, 3) := by decide +kernel
theorem dX8_file_109 : decode cX8_file 109 = .ok (.iload 5, 2) := by decide +kernel
theorem dX8_file_111 : decode cX8_file 111 = .ok (.iload 4, 2) := by decide +kernel
theorem dX8_file_113 : decode cX8_file 113 = .ok (.iastore, 1) := by decide +kernel
theorem dX8_file_114 : decode cX8_file 114 = .ok (.aload_n 0, 1) := by decide +kernel
theorem dX8_file_115 : decode cX8_file 115 = .ok (.getfield 54, 3) := by decide +kernel
theorem dX8_file_118 : decode cX8_file 118 = .ok (.iload 5, 2) := by decide +kernel
theorem dX8_file_120 : decode cX8_file 120 = .ok (.aload_n 0, 1) := by decide +kernel
theorem dX8_file_121 : decode cX8_file 121 = .ok (.getfield 100, 3) := by decide +kernel
theorem dX8_file_124 : decode cX8_file 124 = .ok (.iastore, 1) := by decide +kernel
theorem dX8_file_125 : decode cX8_file 125 = .ok (.aload_n 0, 1) := by decide +kernel
theorem dX8_file_126 : decode cX8_file 126 = .ok (.getfield 69, 3) := by decide +kernel
theorem dX8_file_129 : decode cX8_file 129 = .ok (.iload 5, 2) := by decide +kernel
theorem dX8_file_131 : decode cX8_file 131 = .ok (.bipush 111, 2) := by decide +kernel
theorem dX8_file_133 : decode cX8_file 133 = .ok (.castore, 1) := by decide +kernel
theorem dX8_file_134 : decode cX8_file 134 = .ok (.aload_n 0, 1) := by decide +kernel
theorem dX8_file_135 : decode cX8_file 135 = .ok (.getfield 76, 3) := by decide +kernel
theorem dX8_file_138 : decode cX8_file 138 = .ok (.iload 5, 2) := by decide +kernel
theorem dX8_file_140 : decode cX8_file 140 = .ok (.bipush 45, 2) := by decide +kernel
theorem dX8_file_142 : decode cX8_file 142 = .ok (.castore, 1) := by decide +kernel
theorem dX8_file_143 : decode cX8_file 143 = .ok (.aload_n 0, 1) := by decide +kernel
theorem dX8_file_144 : decode cX8_file 144 = .ok (.dup, 1) := by decide +kernel
theorem dX8_file_145 : decode cX8_file 145 = .ok (.getfield 97, 3) := by decide +kernel
theorem dX8_file_148 : decode cX8_file 148 = .ok (.iconst 1, 1) := by decide +kernel
theorem dX8_file_149 : decode cX8_file 149 = .ok (.iadd, 1) := by decide +kernel
theorem dX8_file_150 : decode cX8_file 150 = .ok (.putfield 97, 3) := by decide +kernel
theorem dX8_file_153 : decode cX8_file 153 = .ok (.iconst 0, 1) := by decide +kernel
theorem dX8_file_154 : decode cX8_file 154 = .ok (.istore 6, 2) := by decide +kernel
theorem dX8_file_156 : decode cX8_file 156 = .ok (.iload 6, 2) := by decide +kernel
theorem dX8_file_158 : decode cX8_file 158 = .ok (.aload_n 0, 1) := by decide +kernel
theorem dX8_file_159 : decode cX8_file 159 = .ok (.getfield 143, 3) := by decide +kernel
theorem dX8_file_162 : decode cX8_file 162 = .ok (.if_icmp .ge 62, 3) := by decide +kernel
theorem dX8_file_165 : decode cX8_file 165 = .ok (.aload_n 0, 1) := by decide +kernel
theorem dX8_file_166 : decode cX8_file 166 = .ok (.getfield 69, 3) := by decide +kernel
theorem dX8_file_169 : decode cX8_file 169 = .ok (.iload 5, 2) := by decide +kernel
theorem dX8_file_171 : decode cX8_file 171 = .ok (.caload, 1) := by decide +kernel
theorem dX8_file_172 : decode cX8_file 172 = .ok (.bipush 111, 2) := by decide +kernel
theorem dX8_file_174 : decode cX8_file 174 = .ok (.if_icmp .ne 50, 3) := by decide +kernel
theorem dX8_file_177 : decode cX8_file 177 = .ok (.iload_n 3, 1) := by decide +kernel
theorem dX8_file_178 : decode cX8_file 178 = .ok (.aload_n 0, 1) := by decide +kernel
theorem dX8_file_179 : decode cX8_file 179 = .ok (.getfield 28, 3) := by decide +kernel
theorem dX8_file_182 : decode cX8_file 182 = .ok (.iload 6, 2) := by decide +kernel
theorem dX8_file_184 : decode cX8_file 184 = .ok (.iaload, 1) := by decide +kernel
theorem dX8_file_185 : decode cX8_file 185 = .ok (.ishr, 1) := by decide +kernel
theorem dX8_file_186 : decode cX8_file 186 = .ok (.iconst 1, 1) := by decide +kernel
theorem dX8_file_187 : decode cX8_file 187 = .ok (.iand, 1) := by decide +kernel
theorem dX8_file_188 : decode cX8_file 188 = .ok (.iconst 1, 1) := by decide +kernel
theorem dX8_file_189 : decode cX8_file 189 = .ok (.if_icmp .ne 29, 3) := by decide +kernel
theorem dX8_file_192 : decode cX8_file 192 = .ok (.aload_n 0, 1) := by decide +kernel
theorem dX8_file_193 : decode cX8_file 193 = .ok (.getfield 31, 3) := by decide +kernel
theorem dX8_file_196 : decode cX8_file 196 = .ok (.iload 6, 2) := by decide +kernel
theorem dX8_file_198 : decode cX8_file 198 = .ok (.iaload, 1) := by decide +kernel
theorem dX8_file_199 : decode cX8_file 199 = .ok (.iload 4, 2) := by decide +kernel
theorem dX8_file_201 : decode cX8_file 201 = .ok (.if_icmp .gt 17, 3) := by decide +kernel
theorem dX8_file_204 : decode cX8_file 204 = .ok (.aload_n 0, 1) := by decide +kernel
theorem dX8_file_205 : decode cX8_file 205 = .ok (.iload 5, 2) := by decide +kernel
theorem dX8_file_207 : decode cX8_file 207 = .ok (.iload 4, 2) := by decide +kernel
theorem dX8_file_209 : decode cX8_file 209 = .ok (.bipush 10, 2) := by decide +kernel
theorem dX8_file_211 : decode cX8_file 211 = .ok (.idiv, 1) := by decide +kernel
theorem dX8_file_212 : decode cX8_file 212 = .ok (.iconst 0, 1) := by decide +kernel
theorem dX8_file_213 : decode cX8_file 213 = .ok (.iload 6, 2) := by decide +kernel
theorem dX8_file_215 : decode cX8_file 215 = .ok (.invokevirtual 162, 3) := by decide +kernel
theorem dX8_file_218 : decode cX8_file 218 = .ok (.iinc 6 1, 3) := by decide +kernel
theorem dX8_file_221 : decode cX8_file 221 = .ok (.goto (-65), 3) := by decide +kernel
theorem dX8_file_224 : decode cX8_file 224 = .ok (.iload 5, 2) := by decide +kernel
theorem dX8_file_226 : decode cX8_file 226 = .ok (.ireturn, 1) := by decide +kernel
theorem dX8_state_0 : decode cX8_state 0 = .ok (.aload_n 0, 1) := by decide +kernel
theorem dX8_state_1 : decode cX8_state 1 = .ok (.iconst 0, 1) := by decide +kernel
theorem dX8_state_2 : decode cX8_state 2 = .ok (.putfield 84, 3) := by decide +kernel
theorem dX8_state_5 : decode cX8_state 5 = .ok (.aload_n 0, 1) := by decide +kernel
theorem dX8_state_6 : decode cX8_state 6 = .ok (.iload_n 1, 1) := by decide +kernel
theorem dX8_state_7 : decode cX8_state 7 = .ok (.invokevirtual 124, 3) := by decide +kernel
theorem dX8_state_10 : decode cX8_state 10 = .ok (.ifCond .eq 12, 3) := by decide +kernel
theorem dX8_state_13 : decode cX8_state 13 = .ok (.aload_n 0, 1) := by decide +kernel
theorem dX8_state_14 : decode cX8_state 14 = .ok (.getfield 69, 3) := by decide +kernel
theorem dX8_state_17 : decode cX8_state 17 = .ok (.iload_n 1, 1) := by decide +kernel
theorem dX8_state_18 : decode cX8_state 18 = .ok (.caload, 1) := by decide +kernel
theorem dX8_state_19 : decode cX8_state 19 = .ok (.goto 9, 3) := by decide +kernel
theorem dX8_state_22 : decode cX8_state 22 = .ok (.aload_n 0, 1) := by decide +kernel
theorem dX8_state_23 : decode cX8_state 23 = .ok (.iconst 1, 1) := by decide +kernel
theorem dX8_state_24 : decode cX8_state 24 = .ok (.invokevirtual 103, 3) := by decide +kernel
theorem dX8_state_27 : decode cX8_state 27 = .ok (.i2c, 1) := by decide +kernel
theorem dX8_state_28 : decode cX8_state 28 = .ok (.ireturn, 1) := by decide +kernel
theorem dX8_weight_0 : decode cX8_weight 0 = .ok (.iconst 0, 1) := by decide +kernel
theorem dX8_weight_1 : decode cX8_weight 1 = .ok (.istore_n 3, 1) := by decide +kernel
theorem dX8_weight_2 : decode cX8_weight 2 = .ok (.iconst 0, 1) := by decide +kernel
theorem dX8_weight_3 : decode cX8_weight 3 = .ok (.istore 4, 2) := by decide +kernel
theorem dX8_weight_5 : decode cX8_weight 5 = .ok (.iload 4, 2) := by decide +kernel
theorem dX8_weight_7 : decode cX8_weight 7 = .ok (.aload_n 0, 1) := by decide +kernel
theorem dX8_weight_8 : decode cX8_weight 8 = .ok (.getfield 94, 3) := by decide +kernel
theorem dX8_weight_11 : decode cX8_weight 11 = .ok (.if_icmp .ge 27, 3) := by decide +kernel
theorem dX8_weight_14 : decode cX8_weight 14 = .ok (.iload_n 3, 1) := by decide +kernel
theorem dX8_weight_15 : decode cX8_weight 15 = .ok (.iconst 0, 1) := by decide +kernel
theorem dX8_weight_16 : decode cX8_weight 16 = .ok (.iload_n 2, 1) := by decide +kernel
theorem dX8_weight_17 : decode cX8_weight 17 = .ok (.aload_n 0, 1) := by decide +kernel
theorem dX8_weight_18 : decode cX8_weight 18 = .ok (.getfield 81, 3) := by decide +kernel
theorem dX8_weight_21 : decode cX8_weight 21 = .ok (.iload_n 1, 1) := by decide +kernel
theorem dX8_weight_22 : decode cX8_weight 22 = .ok (.aaload, 1) := by decide +kernel
theorem dX8_weight_23 : decode cX8_weight 23 = .ok (.iload 4, 2) := by decide +kernel
theorem dX8_weight_25 : decode cX8_weight 25 = .ok (.iaload, 1) := by decide +kernel
theorem dX8_weight_26 : decode cX8_weight 26 = .ok (.imul, 1) := by decide +kernel
theorem dX8_weight_27 : decode cX8_weight 27 = .ok (.invokestatic 114, 3) := by decide +kernel
theorem dX8_weight_30 : decode cX8_weight 30 = .ok (.iadd, 1) := by decide +kernel
theorem dX8_weight_31 : decode cX8_weight 31 = .ok (.istore_n 3, 1) := by decide +kernel
theorem dX8_weight_32 : decode cX8_weight 32 = .ok (.iinc 4 1, 3) := by decide +kernel
theorem dX8_weight_35 : decode cX8_weight 35 = .ok (.goto (-30), 3) := by decide +kernel
theorem dX8_weight_38 : decode cX8_weight 38 = .ok (.iload_n 3, 1) := by decide +kernel
theorem dX8_weight_39 : decode cX8_weight 39 = .ok (.ireturn, 1) := by decide +kernel
theorem dX8_vote_0 : decode cX8_vote 0 = .ok (.aload_n 0, 1) := by decide +kernel
theorem dX8_vote_1 : decode cX8_vote 1 = .ok (.iconst 0, 1) := by decide +kernel
theorem dX8_vote_2 : decode cX8_vote 2 = .ok (.putfield 84, 3) := by decide +kernel
theorem dX8_vote_5 : decode cX8_vote 5 = .ok (.aload_n 0, 1) := by decide +kernel
theorem dX8_vote_6 : decode cX8_vote 6 = .ok (.iload_n 1, 1) := by decide +kernel
theorem dX8_vote_7 : decode cX8_vote 7 = .ok (.invokevirtual 124, 3) := by decide +kernel
theorem dX8_vote_10 : decode cX8_vote 10 = .ok (.ifCond .eq 11, 3) := by decide +kernel
theorem dX8_vote_13 : decode cX8_vote 13 = .ok (.aload_n 0, 1) := by decide +kernel
theorem dX8_vote_14 : decode cX8_vote 14 = .ok (.iload_n 2, 1) := by decide +kernel
theorem dX8_vote_15 : decode cX8_vote 15 = .ok (.invokevirtual 130, 3) := by decide +kernel
theorem dX8_vote_18 : decode cX8_vote 18 = .ok (.ifCond .ne 9, 3) := by decide +kernel
theorem dX8_vote_21 : decode cX8_vote 21 = .ok (.aload_n 0, 1) := by decide +kernel
theorem dX8_vote_22 : decode cX8_vote 22 = .ok (.iconst 1, 1) := by decide +kernel
theorem dX8_vote_23 : decode cX8_vote 23 = .ok (.invokevirtual 103, 3) := by decide +kernel
theorem dX8_vote_26 : decode cX8_vote 26 = .ok (.ireturn, 1) := by decide +kernel
theorem dX8_vote_27 : decode cX8_vote 27 = .ok (.aload_n 0, 1) := by decide +kernel
theorem dX8_vote_28 : decode cX8_vote 28 = .ok (.getfield 69, 3) := by decide +kernel
theorem dX8_vote_31 : decode cX8_vote 31 = .ok (.iload_n 1, 1) := by decide +kernel
theorem dX8_vote_32 : decode cX8_vote 32 = .ok (.caload, 1) := by decide +kernel
theorem dX8_vote_33 : decode cX8_vote 33 = .ok (.bipush 100, 2) := by decide +kernel
theorem dX8_vote_35 : decode cX8_vote 35 = .ok (.if_icmp .ne 9, 3) := by decide +kernel
theorem dX8_vote_38 : decode cX8_vote 38 = .ok (.aload_n 0, 1) := by decide +kernel
theorem dX8_vote_39 : decode cX8_vote 39 = .ok (.iconst 2, 1) := by decide +kernel
theorem dX8_vote_40 : decode cX8_vote 40 = .ok (.invokevirtual 103, 3) := by decide +kernel
theorem dX8_vote_43 : decode cX8_vote 43 = .ok (.ireturn, 1) := by decide +kernel
theorem dX8_vote_44 : decode cX8_vote 44 = .ok (.iload_n 2, 1) := by decide +kernel
theorem dX8_vote_45 : decode cX8_vote 45 = .ok (.aload_n 0, 1) := by decide +kernel
theorem dX8_vote_46 : decode cX8_vote 46 = .ok (.getfield 42, 3) := by decide +kernel
theorem dX8_vote_49 : decode cX8_vote 49 = .ok (.iload_n 1, 1) := by decide +kernel
theorem dX8_vote_50 : decode cX8_vote 50 = .ok (.iaload, 1) := by decide +kernel
theorem dX8_vote_51 : decode cX8_vote 51 = .ok (.if_icmp .eq 21, 3) := by decide +kernel
theorem dX8_vote_54 : decode cX8_vote 54 = .ok (.iload_n 2, 1) := by decide +kernel
theorem dX8_vote_55 : decode cX8_vote 55 = .ok (.aload_n 0, 1) := by decide +kernel
theorem dX8_vote_56 : decode cX8_vote 56 = .ok (.getfield 45, 3) := by decide +kernel
theorem dX8_vote_59 : decode cX8_vote 59 = .ok (.iload_n 1, 1) := by decide +kernel
theorem dX8_vote_60 : decode cX8_vote 60 = .ok (.iaload, 1) := by decide +kernel
theorem dX8_vote_61 : decode cX8_vote 61 = .ok (.if_icmp .eq 11, 3) := by decide +kernel
theorem dX8_vote_64 : decode cX8_vote 64 = .ok (.aload_n 0, 1) := by decide +kernel
theorem dX8_vote_65 : decode cX8_vote 65 = .ok (.iload_n 2, 1) := by decide +kernel
theorem dX8_vote_66 : decode cX8_vote 66 = .ok (.invokevirtual 140, 3) := by decide +kernel
theorem dX8_vote_69 : decode cX8_vote 69 = .ok (.ifCond .le 9, 3) := by decide +kernel
theorem dX8_vote_72 : decode cX8_vote 72 = .ok (.aload_n 0, 1) := by decide +kernel
theorem dX8_vote_73 : decode cX8_vote 73 = .ok (.iconst 3, 1) := by decide +kernel
theorem dX8_vote_74 : decode cX8_vote 74 = .ok (.invokevirtual 103, 3) := by decide +kernel
theorem dX8_vote_77 : decode cX8_vote 77 = .ok (.ireturn, 1) := by decide +kernel
theorem dX8_vote_78 : decode cX8_vote 78 = .ok (.aload_n 0, 1) := by decide +kernel
theorem dX8_vote_79 : decode cX8_vote 79 = .ok (.getfield 81, 3) := by decide +kernel
theorem dX8_vote_82 : decode cX8_vote 82 = .ok (.iload_n 1, 1) := by decide +kernel
theorem dX8_vote_83 : decode cX8_vote 83 = .ok (.aaload, 1) := by decide +kernel
theorem dX8_vote_84 : decode cX8_vote 84 = .ok (.iload_n 2, 1) := by decide +kernel
theorem dX8_vote_85 : decode cX8_vote 85 = .ok (.iload_n 3, 1) := by decide +kernel
theorem dX8_vote_86 : decode cX8_vote 86 = .ok (.ifCond .eq 12, 3) := by decide +kernel
theorem dX8_vote_89 : decode cX8_vote 89 = .ok (.aload_n 0, 1) := by decide +kernel
theorem dX8_vote_90 : decode cX8_vote 90 = .ok (.getfield 25, 3) := by decide +kernel
theorem dX8_vote_93 : decode cX8_vote 93 = .ok (.iload_n 2, 1) := by decide +kernel
theorem dX8_vote_94 : decode cX8_vote 94 = .ok (.iaload, 1) := by decide +kernel
theorem dX8_vote_95 : decode cX8_vote 95 = .ok (.goto 10, 3) := by decide +kernel
theorem dX8_vote_98 : decode cX8_vote 98 = .ok (.aload_n 0, 1) := by decide +kernel
theorem dX8_vote_99 : decode cX8_vote 99 = .ok (.getfield 25, 3) := by decide +kernel
theorem dX8_vote_102 : decode cX8_vote 102 = .ok (.iload_n 2, 1) := by decide +kernel
theorem dX8_vote_103 : decode cX8_vote 103 = .ok (.iaload, 1) := by decide +kernel
theorem dX8_vote_104 : decode cX8_vote 104 = .ok (.ineg, 1) := by decide +kernel
theorem dX8_vote_105 : decode cX8_vote 105 = .ok (.iastore, 1) := by decide +kernel
theorem dX8_vote_106 : decode cX8_vote 106 = .ok (.aload_n 0, 1) := by decide +kernel
theorem dX8_vote_107 : decode cX8_vote 107 = .ok (.iload_n 1, 1) := by decide +kernel
theorem dX8_vote_108 : decode cX8_vote 108 = .ok (.iconst 1, 1) := by decide +kernel
theorem dX8_vote_109 : decode cX8_vote 109 = .ok (.invokevirtual 166, 3) := by decide +kernel
theorem dX8_vote_112 : decode cX8_vote 112 = .ok (.aload_n 0, 1) := by decide +kernel
theorem dX8_vote_113 : decode cX8_vote 113 = .ok (.iload_n 1, 1) := by decide +kernel
theorem dX8_vote_114 : decode cX8_vote 114 = .ok (.iconst (-1), 1) := by decide +kernel
theorem dX8_vote_115 : decode cX8_vote 115 = .ok (.invokevirtual 166, 3) := by decide +kernel
theorem dX8_vote_118 : decode cX8_vote 118 = .ok (.iadd, 1) := by decide +kernel
theorem dX8_vote_119 : decode cX8_vote 119 = .ok (.ireturn, 1) := by decide +kernel
theorem dX8_isNone_0 : decode cX8_isNone 0 = .ok (.aload_n 0, 1) := by decide +kernel
theorem dX8_isNone_1 : decode cX8_isNone 1 = .ok (.aload_n 0, 1) := by decide +kernel
theorem dX8_isNone_2 : decode cX8_isNone 2 = .ok (.iload_n 1, 1) := by decide +kernel
theorem dX8_isNone_3 : decode cX8_isNone 3 = .ok (.invokevirtual 124, 3) := by decide +kernel
theorem dX8_isNone_6 : decode cX8_isNone 6 = .ok (.ifCond .eq 7, 3) := by decide +kernel
theorem dX8_isNone_9 : decode cX8_isNone 9 = .ok (.iconst 0, 1) := by decide +kernel
theorem dX8_isNone_10 : decode cX8_isNone 10 = .ok (.goto 4, 3) := by decide +kernel
theorem dX8_isNone_13 : decode cX8_isNone 13 = .ok (.iconst 1, 1) := by decide +kernel
theorem dX8_isNone_14 : decode cX8_isNone 14 = .ok (.putfield 84, 3) := by decide +kernel
theorem dX8_isNone_17 : decode cX8_isNone 17 = .ok (.aload_n 0, 1) := by decide +kernel
theorem dX8_isNone_18 : decode cX8_isNone 18 = .ok (.getfield 84, 3) := by decide +kernel
theorem dX8_isNone_21 : decode cX8_isNone 21 = .ok (.ifCond .le 7, 3) := by decide +kernel
theorem dX8_isNone_24 : decode cX8_isNone 24 = .ok (.iconst 1, 1) := by decide +kernel
theorem dX8_isNone_25 : decode cX8_isNone 25 = .ok (.goto 4, 3) := by decide +kernel
theorem dX8_isNone_28 : decode cX8_isNone 28 = .ok (.iconst 0, 1) := by decide +kernel
theorem dX8_isNone_29 : decode cX8_isNone 29 = .ok (.ireturn, 1) := by decide +kernel
theorem dX8_weightFor_0 : decode cX8_weightFor 0 = .ok (.aload_n 0, 1) := by decide +kernel
theorem dX8_weightFor_1 : decode cX8_weightFor 1 = .ok (.iload_n 1, 1) := by decide +kernel
theorem dX8_weightFor_2 : decode cX8_weightFor 2 = .ok (.invokevirtual 169, 3) := by decide +kernel
theorem dX8_weightFor_5 : decode cX8_weightFor 5 = .ok (.ifCond .eq 7, 3) := by decide +kernel
theorem dX8_weightFor_8 : decode cX8_weightFor 8 = .ok (.iconst 0, 1) := by decide +kernel
theorem dX8_weightFor_9 : decode cX8_weightFor 9 = .ok (.goto 9, 3) := by decide +kernel
theorem dX8_weightFor_12 : decode cX8_weightFor 12 = .ok (.aload_n 0, 1) := by decide +kernel
theorem dX8_weightFor_13 : decode cX8_weightFor 13 = .ok (.iload_n 1, 1) := by decide +kernel
theorem dX8_weightFor_14 : decode cX8_weightFor 14 = .ok (.iconst 1, 1) := by decide +kernel
theorem dX8_weightFor_15 : decode cX8_weightFor 15 = .ok (.invokevirtual 166, 3) := by decide +kernel
theorem dX8_weightFor_18 : decode cX8_weightFor 18 = .ok (.ireturn, 1) := by decide +kernel
theorem dX8_weightAgainst_0 : decode cX8_weightAgainst 0 = .ok (.aload_n 0, 1) := by decide +kernel
theorem dX8_weightAgainst_1 : decode cX8_weightAgainst 1 = .ok (.iload_n 1, 1) := by decide +kernel
theorem dX8_weightAgainst_2 : decode cX8_weightAgainst 2 = .ok (.invokevirtual 169, 3) := by decide +kernel
theorem dX8_weightAgainst_5 : decode cX8_weightAgainst 5 = .ok (.ifCond .eq 7, 3) := by decide +kernel
theorem dX8_weightAgainst_8 : decode cX8_weightAgainst 8 = .ok (.iconst 0, 1) := by decide +kernel
theorem dX8_weightAgainst_9 : decode cX8_weightAgainst 9 = .ok (.goto 9, 3) := by decide +kernel
theorem dX8_weightAgainst_12 : decode cX8_weightAgainst 12 = .ok (.aload_n 0, 1) := by decide +kernel
theorem dX8_weightAgainst_13 : decode cX8_weightAgainst 13 = .ok (.iload_n 1, 1) := by decide +kernel
theorem dX8_weightAgainst_14 : decode cX8_weightAgainst 14 = .ok (.iconst (-1), 1) := by decide +kernel
theorem dX8_weightAgainst_15 : decode cX8_weightAgainst 15 = .ok (.invokevirtual 166, 3) := by decide +kernel
theorem dX8_weightAgainst_18 : decode cX8_weightAgainst 18 = .ok (.ireturn, 1) := by decide +kernel
theorem dX8_setQuorum_0 : decode cX8_setQuorum 0 = .ok (.aload_n 0, 1) := by decide +kernel
theorem dX8_setQuorum_1 : decode cX8_setQuorum 1 = .ok (.iconst 0, 1) := by decide +kernel
theorem dX8_setQuorum_2 : decode cX8_setQuorum 2 = .ok (.putfield 84, 3) := by decide +kernel
theorem dX8_setQuorum_5 : decode cX8_setQuorum 5 = .ok (.iload_n 1, 1) := by decide +kernel
theorem dX8_setQuorum_6 : decode cX8_setQuorum 6 = .ok (.iconst 1, 1) := by decide +kernel
theorem dX8_setQuorum_7 : decode cX8_setQuorum 7 = .ok (.bipush 50, 2) := by decide +kernel
theorem dX8_setQuorum_9 : decode cX8_setQuorum 9 = .ok (.invokestatic 90, 3) := by decide +kernel
theorem dX8_setQuorum_12 : decode cX8_setQuorum 12 = .ok (.ifCond .ne 9, 3) := by decide +kernel
theorem dX8_setQuorum_15 : decode cX8_setQuorum 15 = .ok (.aload_n 0, 1) := by decide +kernel
theorem dX8_setQuorum_16 : decode cX8_setQuorum 16 = .ok (.iconst 1, 1) := by decide +kernel
theorem dX8_setQuorum_17 : decode cX8_setQuorum 17 = .ok (.invokevirtual 103, 3) := by decide +kernel
theorem dX8_setQuorum_20 : decode cX8_setQuorum 20 = .ok (.ireturn, 1) := by decide +kernel
theorem dX8_setQuorum_21 : decode cX8_setQuorum 21 = .ok (.aload_n 0, 1) := by decide +kernel
theorem dX8_setQuorum_22 : decode cX8_setQuorum 22 = .ok (.getfield 38, 3) := by decide +kernel
theorem dX8_setQuorum_25 : decode cX8_setQuorum 25 = .ok (.istore_n 2, 1) := by decide +kernel
theorem dX8_setQuorum_26 : decode cX8_setQuorum 26 = .ok (.aload_n 0, 1) := by decide +kernel
theorem dX8_setQuorum_27 : decode cX8_setQuorum 27 = .ok (.iload_n 1, 1) := by decide +kernel
theorem dX8_setQuorum_28 : decode cX8_setQuorum 28 = .ok (.putfield 38, 3) := by decide +kernel
theorem dX8_setQuorum_31 : decode cX8_setQuorum 31 = .ok (.iload_n 2, 1) := by decide +kernel
theorem dX8_setQuorum_32 : decode cX8_setQuorum 32 = .ok (.ireturn, 1) := by decide +kernel
theorem dX8_precedent_0 : decode cX8_precedent 0 = .ok (.aload_n 0, 1) := by decide +kernel
theorem dX8_precedent_1 : decode cX8_precedent 1 = .ok (.iload_n 1, 1) := by decide +kernel
theorem dX8_precedent_2 : decode cX8_precedent 2 = .ok (.invokevirtual 169, 3) := by decide +kernel
theorem dX8_precedent_5 : decode cX8_precedent 5 = .ok (.ifCond .eq 5, 3) := by decide +kernel
theorem dX8_precedent_8 : decode cX8_precedent 8 = .ok (.iconst 0, 1) := by decide +kernel
theorem dX8_precedent_9 : decode cX8_precedent 9 = .ok (.ireturn, 1) := by decide +kernel
theorem dX8_precedent_10 : decode cX8_precedent 10 = .ok (.aload_n 0, 1) := by decide +kernel
theorem dX8_precedent_11 : decode cX8_precedent 11 = .ok (.iload_n 1, 1) := by decide +kernel
theorem dX8_precedent_12 : decode cX8_precedent 12 = .ok (.invokevirtual 152, 3) := by decide +kernel
theorem dX8_precedent_15 : decode cX8_precedent 15 = .ok (.ifCond .ge 11, 3) := by decide +kernel
theorem dX8_precedent_18 : decode cX8_precedent 18 = .ok (.aload_n 0, 1) := by decide +kernel
theorem dX8_precedent_19 : decode cX8_precedent 19 = .ok (.iconst 2, 1) := by decide +kernel
theorem dX8_precedent_20 : decode cX8_precedent 20 = .ok (.invokevirtual 103, 3) := by decide +kernel
theorem dX8_precedent_23 : decode cX8_precedent 23 = .ok (.goto 8, 3) := by decide +kernel
theorem dX8_precedent_26 : decode cX8_precedent 26 = .ok (.aload_n 0, 1) := by decide +kernel
theorem dX8_precedent_27 : decode cX8_precedent 27 = .ok (.iload_n 1, 1) := by decide +kernel
theorem dX8_precedent_28 : decode cX8_precedent 28 = .ok (.invokevirtual 152, 3) := by decide +kernel
theorem dX8_precedent_31 : decode cX8_precedent 31 = .ok (.ireturn, 1) := by decide +kernel
theorem dX8_decide_0 : decode cX8_decide 0 = .ok (.aload_n 0, 1) := by decide +kernel
theorem dX8_decide_1 : decode cX8_decide 1 = .ok (.iload_n 1, 1) := by decide +kernel
theorem dX8_decide_2 : decode cX8_decide 2 = .ok (.invokevirtual 169, 3) := by decide +kernel
theorem dX8_decide_5 : decode cX8_decide 5 = .ok (.ifCond .eq 5, 3) := by decide +kernel
theorem dX8_decide_8 : decode cX8_decide 8 = .ok (.iconst 0, 1) := by decide +kernel
theorem dX8_decide_9 : decode cX8_decide 9 = .ok (.ireturn, 1) := by decide +kernel
theorem dX8_decide_10 : decode cX8_decide 10 = .ok (.aload_n 0, 1) := by decide +kernel
theorem dX8_decide_11 : decode cX8_decide 11 = .ok (.getfield 69, 3) := by decide +kernel
theorem dX8_decide_14 : decode cX8_decide 14 = .ok (.iload_n 1, 1) := by decide +kernel
theorem dX8_decide_15 : decode cX8_decide 15 = .ok (.caload, 1) := by decide +kernel
theorem dX8_decide_16 : decode cX8_decide 16 = .ok (.bipush 100, 2) := by decide +kernel
theorem dX8_decide_18 : decode cX8_decide 18 = .ok (.if_icmp .ne 10, 3) := by decide +kernel
theorem dX8_decide_21 : decode cX8_decide 21 = .ok (.aload_n 0, 1) := by decide +kernel
theorem dX8_decide_22 : decode cX8_decide 22 = .ok (.iconst 2, 1) := by decide +kernel
theorem dX8_decide_23 : decode cX8_decide 23 = .ok (.invokevirtual 103, 3) := by decide +kernel
theorem dX8_decide_26 : decode cX8_decide 26 = .ok (.i2c, 1) := by decide +kernel
theorem dX8_decide_27 : decode cX8_decide 27 = .ok (.ireturn, 1) := by decide +kernel
theorem dX8_decide_28 : decode cX8_decide 28 = .ok (.aload_n 0, 1) := by decide +kernel
theorem dX8_decide_29 : decode cX8_decide 29 = .ok (.iload_n 1, 1) := by decide +kernel
theorem dX8_decide_30 : decode cX8_decide 30 = .ok (.iconst 1, 1) := by decide +kernel
theorem dX8_decide_31 : decode cX8_decide 31 = .ok (.invokevirtual 166, 3) := by decide +kernel
theorem dX8_decide_34 : decode cX8_decide 34 = .ok (.aload_n 0, 1) := by decide +kernel
theorem dX8_decide_35 : decode cX8_decide 35 = .ok (.iload_n 1, 1) := by decide +kernel
theorem dX8_decide_36 : decode cX8_decide 36 = .ok (.iconst (-1), 1) := by decide +kernel
theorem dX8_decide_37 : decode cX8_decide 37 = .ok (.invokevirtual 166, 3) := by decide +kernel
theorem dX8_decide_40 : decode cX8_decide 40 = .ok (.iadd, 1) := by decide +kernel
theorem dX8_decide_41 : decode cX8_decide 41 = .ok (.aload_n 0, 1) := by decide +kernel
theorem dX8_decide_42 : decode cX8_decide 42 = .ok (.getfield 38, 3) := by decide +kernel
theorem dX8_decide_45 : decode cX8_decide 45 = .ok (.if_icmp .ge 10, 3) := by decide +kernel
theorem dX8_decide_48 : decode cX8_decide 48 = .ok (.aload_n 0, 1) := by decide +kernel
theorem dX8_decide_49 : decode cX8_decide 49 = .ok (.iconst 3, 1) := by decide +kernel
theorem dX8_decide_50 : decode cX8_decide 50 = .ok (.invokevirtual 103, 3) := by decide +kernel
theorem dX8_decide_53 : decode cX8_decide 53 = .ok (.i2c, 1) := by decide +kernel
theorem dX8_decide_54 : decode cX8_decide 54 = .ok (.ireturn, 1) := by decide +kernel
theorem dX8_decide_55 : decode cX8_decide 55 = .ok (.aload_n 0, 1) := by decide +kernel
theorem dX8_decide_56 : decode cX8_decide 56 = .ok (.getfield 69, 3) := by decide +kernel
theorem dX8_decide_59 : decode cX8_decide 59 = .ok (.iload_n 1, 1) := by decide +kernel
theorem dX8_decide_60 : decode cX8_decide 60 = .ok (.caload, 1) := by decide +kernel
theorem dX8_decide_61 : decode cX8_decide 61 = .ok (.bipush 101, 2) := by decide +kernel
theorem dX8_decide_63 : decode cX8_decide 63 = .ok (.if_icmp .ne 7, 3) := by decide +kernel
theorem dX8_decide_66 : decode cX8_decide 66 = .ok (.iconst 1, 1) := by decide +kernel
theorem dX8_decide_67 : decode cX8_decide 67 = .ok (.goto 4, 3) := by decide +kernel
theorem dX8_decide_70 : decode cX8_decide 70 = .ok (.iconst 0, 1) := by decide +kernel
theorem dX8_decide_71 : decode cX8_decide 71 = .ok (.istore_n 2, 1) := by decide +kernel
theorem dX8_decide_72 : decode cX8_decide 72 = .ok (.aload_n 0, 1) := by decide +kernel
theorem dX8_decide_73 : decode cX8_decide 73 = .ok (.getfield 60, 3) := by decide +kernel
theorem dX8_decide_76 : decode cX8_decide 76 = .ok (.iload_n 1, 1) := by decide +kernel
theorem dX8_decide_77 : decode cX8_decide 77 = .ok (.iaload, 1) := by decide +kernel
theorem dX8_decide_78 : decode cX8_decide 78 = .ok (.istore_n 3, 1) := by decide +kernel
theorem dX8_decide_79 : decode cX8_decide 79 = .ok (.aload_n 0, 1) := by decide +kernel
theorem dX8_decide_80 : decode cX8_decide 80 = .ok (.iload_n 1, 1) := by decide +kernel
theorem dX8_decide_81 : decode cX8_decide 81 = .ok (.aload_n 0, 1) := by decide +kernel
theorem dX8_decide_82 : decode cX8_decide 82 = .ok (.iload_n 1, 1) := by decide +kernel
theorem dX8_decide_83 : decode cX8_decide 83 = .ok (.iconst 1, 1) := by decide +kernel
theorem dX8_decide_84 : decode cX8_decide 84 = .ok (.invokevirtual 166, 3) := by decide +kernel
theorem dX8_decide_87 : decode cX8_decide 87 = .ok (.aload_n 0, 1) := by decide +kernel
theorem dX8_decide_88 : decode cX8_decide 88 = .ok (.iload_n 1, 1) := by decide +kernel
theorem dX8_decide_89 : decode cX8_decide 89 = .ok (.iconst (-1), 1) := by decide +kernel
theorem dX8_decide_90 : decode cX8_decide 90 = .ok (.invokevirtual 166, 3) := by decide +kernel
theorem dX8_decide_93 : decode cX8_decide 93 = .ok (.iconst (-1), 1) := by decide +kernel
theorem dX8_decide_94 : decode cX8_decide 94 = .ok (.invokevirtual 162, 3) := by decide +kernel
theorem dX8_decide_97 : decode cX8_decide 97 = .ok (.iload_n 2, 1) := by decide +kernel
theorem dX8_decide_98 : decode cX8_decide 98 = .ok (.ifCond .ne 10, 3) := by decide +kernel
theorem dX8_decide_101 : decode cX8_decide 101 = .ok (.aload_n 0, 1) := by decide +kernel
theorem dX8_decide_102 : decode cX8_decide 102 = .ok (.getfield 73, 3) := by decide +kernel
theorem dX8_decide_105 : decode cX8_decide 105 = .ok (.iload_n 1, 1) := by decide +kernel
theorem dX8_decide_106 : decode cX8_decide 106 = .ok (.caload, 1) := by decide +kernel
theorem dX8_decide_107 : decode cX8_decide 107 = .ok (.ireturn, 1) := by decide +kernel
theorem dX8_decide_108 : decode cX8_decide 108 = .ok (.aload_n 0, 1) := by decide +kernel
theorem dX8_decide_109 : decode cX8_decide 109 = .ok (.dup, 1) := by decide +kernel
theorem dX8_decide_110 : decode cX8_decide 110 = .ok (.getfield 172, 3) := by decide +kernel
theorem dX8_decide_113 : decode cX8_decide 113 = .ok (.iconst 1, 1) := by decide +kernel
theorem dX8_decide_114 : decode cX8_decide 114 = .ok (.iadd, 1) := by decide +kernel
theorem dX8_decide_115 : decode cX8_decide 115 = .ok (.putfield 172, 3) := by decide +kernel
theorem dX8_decide_118 : decode cX8_decide 118 = .ok (.aload_n 0, 1) := by decide +kernel
theorem dX8_decide_119 : decode cX8_decide 119 = .ok (.getfield 73, 3) := by decide +kernel
theorem dX8_decide_122 : decode cX8_decide 122 = .ok (.iload_n 1, 1) := by decide +kernel
theorem dX8_decide_123 : decode cX8_decide 123 = .ok (.caload, 1) := by decide +kernel
theorem dX8_decide_124 : decode cX8_decide 124 = .ok (.aload_n 0, 1) := by decide +kernel
theorem dX8_decide_125 : decode cX8_decide 125 = .ok (.getfield 76, 3) := by decide +kernel
theorem dX8_decide_128 : decode cX8_decide 128 = .ok (.iload_n 1, 1) := by decide +kernel
theorem dX8_decide_129 : decode cX8_decide 129 = .ok (.caload, 1) := by decide +kernel
theorem dX8_decide_130 : decode cX8_decide 130 = .ok (.if_icmp .eq 7, 3) := by decide +kernel
theorem dX8_decide_133 : decode cX8_decide 133 = .ok (.iconst 1, 1) := by decide +kernel
theorem dX8_decide_134 : decode cX8_decide 134 = .ok (.goto 4, 3) := by decide +kernel
theorem dX8_decide_137 : decode cX8_decide 137 = .ok (.iconst 0, 1) := by decide +kernel
theorem dX8_decide_138 : decode cX8_decide 138 = .ok (.istore 4, 2) := by decide +kernel
theorem dX8_decide_140 : decode cX8_decide 140 = .ok (.aload_n 0, 1) := by decide +kernel
theorem dX8_decide_141 : decode cX8_decide 141 = .ok (.dup, 1) := by decide +kernel
theorem dX8_decide_142 : decode cX8_decide 142 = .ok (.getfield 175, 3) := by decide +kernel
theorem dX8_decide_145 : decode cX8_decide 145 = .ok (.iload 4, 2) := by decide +kernel
theorem dX8_decide_147 : decode cX8_decide 147 = .ok (.ifCond .eq 7, 3) := by decide +kernel
theorem dX8_decide_150 : decode cX8_decide 150 = .ok (.iconst 1, 1) := by decide +kernel
theorem dX8_decide_151 : decode cX8_decide 151 = .ok (.goto 4, 3) := by decide +kernel
theorem dX8_decide_154 : decode cX8_decide 154 = .ok (.iconst 0, 1) := by decide +kernel
theorem dX8_decide_155 : decode cX8_decide 155 = .ok (.iadd, 1) := by decide +kernel
theorem dX8_decide_156 : decode cX8_decide 156 = .ok (.putfield 175, 3) := by decide +kernel
theorem dX8_decide_159 : decode cX8_decide 159 = .ok (.iload_n 3, 1) := by decide +kernel
theorem dX8_decide_160 : decode cX8_decide 160 = .ok (.ifCond .lt 54, 3) := by decide +kernel
theorem dX8_decide_163 : decode cX8_decide 163 = .ok (.aload_n 0, 1) := by decide +kernel
theorem dX8_decide_164 : decode cX8_decide 164 = .ok (.getfield 76, 3) := by decide +kernel
theorem dX8_decide_167 : decode cX8_decide 167 = .ok (.iload_n 1, 1) := by decide +kernel
theorem dX8_decide_168 : decode cX8_decide 168 = .ok (.caload, 1) := by decide +kernel
theorem dX8_decide_169 : decode cX8_decide 169 = .ok (.bipush 103, 2) := by decide +kernel
theorem dX8_decide_171 : decode cX8_decide 171 = .ok (.if_icmp .ne 43, 3) := by decide +kernel
theorem dX8_decide_174 : decode cX8_decide 174 = .ok (.aload_n 0, 1) := by decide +kernel
theorem dX8_decide_175 : decode cX8_decide 175 = .ok (.getfield 31, 3) := by decide +kernel
theorem dX8_decide_178 : decode cX8_decide 178 = .ok (.iload_n 3, 1) := by decide +kernel
theorem dX8_decide_179 : decode cX8_decide 179 = .ok (.iload 4, 2) := by decide +kernel
theorem dX8_decide_181 : decode cX8_decide 181 = .ok (.ifCond .eq 19, 3) := by decide +kernel
theorem dX8_decide_184 : decode cX8_decide 184 = .ok (.bipush 100, 2) := by decide +kernel
theorem dX8_decide_186 : decode cX8_decide 186 = .ok (.aload_n 0, 1) := by decide +kernel
theorem dX8_decide_187 : decode cX8_decide 187 = .ok (.getfield 31, 3) := by decide +kernel
theorem dX8_decide_190 : decode cX8_decide 190 = .ok (.iload_n 3, 1) := by decide +kernel
theorem dX8_decide_191 : decode cX8_decide 191 = .ok (.iaload, 1) := by decide +kernel
theorem dX8_decide_192 : decode cX8_decide 192 = .ok (.iconst 5, 1) := by decide +kernel
theorem dX8_decide_193 : decode cX8_decide 193 = .ok (.iadd, 1) := by decide +kernel
theorem dX8_decide_194 : decode cX8_decide 194 = .ok (.invokestatic 178, 3) := by decide +kernel
theorem dX8_decide_197 : decode cX8_decide 197 = .ok (.goto 16, 3) := by decide +kernel
theorem dX8_decide_200 : decode cX8_decide 200 = .ok (.bipush 50, 2) := by decide +kernel
theorem dX8_decide_202 : decode cX8_decide 202 = .ok (.aload_n 0, 1) := by decide +kernel
theorem dX8_decide_203 : decode cX8_decide 203 = .ok (.getfield 31, 3) := by decide +kernel
theorem dX8_decide_206 : decode cX8_decide 206 = .ok (.iload_n 3, 1) := by decide +kernel
theorem dX8_decide_207 : decode cX8_decide 207 = .ok (.iaload, 1) := by decide +kernel
theorem dX8_decide_208 : decode cX8_decide 208 = .ok (.iconst 1, 1) := by decide +kernel
theorem dX8_decide_209 : decode cX8_decide 209 = .ok (.isub, 1) := by decide +kernel
theorem dX8_decide_210 : decode cX8_decide 210 = .ok (.invokestatic 114, 3) := by decide +kernel
theorem dX8_decide_213 : decode cX8_decide 213 = .ok (.iastore, 1) := by decide +kernel
theorem dX8_decide_214 : decode cX8_decide 214 = .ok (.aload_n 0, 1) := by decide +kernel
theorem dX8_decide_215 : decode cX8_decide 215 = .ok (.getfield 73, 3) := by decide +kernel
theorem dX8_decide_218 : decode cX8_decide 218 = .ok (.iload_n 1, 1) := by decide +kernel
theorem dX8_decide_219 : decode cX8_decide 219 = .ok (.caload, 1) := by decide +kernel
theorem dX8_decide_220 : decode cX8_decide 220 = .ok (.ireturn, 1) := by decide +kernel
theorem dX8_isOpen_0 : decode cX8_isOpen 0 = .ok (.aload_n 0, 1) := by decide +kernel
theorem dX8_isOpen_1 : decode cX8_isOpen 1 = .ok (.aload_n 0, 1) := by decide +kernel
theorem dX8_isOpen_2 : decode cX8_isOpen 2 = .ok (.iload_n 1, 1) := by decide +kernel
theorem dX8_isOpen_3 : decode cX8_isOpen 3 = .ok (.invokevirtual 124, 3) := by decide +kernel
theorem dX8_isOpen_6 : decode cX8_isOpen 6 = .ok (.ifCond .ne 7, 3) := by decide +kernel
theorem dX8_isOpen_9 : decode cX8_isOpen 9 = .ok (.iconst 1, 1) := by decide +kernel
theorem dX8_isOpen_10 : decode cX8_isOpen 10 = .ok (.goto 19, 3) := by decide +kernel
theorem dX8_isOpen_13 : decode cX8_isOpen 13 = .ok (.aload_n 0, 1) := by decide +kernel
theorem dX8_isOpen_14 : decode cX8_isOpen 14 = .ok (.getfield 69, 3) := by decide +kernel
theorem dX8_isOpen_17 : decode cX8_isOpen 17 = .ok (.iload_n 1, 1) := by decide +kernel
theorem dX8_isOpen_18 : decode cX8_isOpen 18 = .ok (.caload, 1) := by decide +kernel
theorem dX8_isOpen_19 : decode cX8_isOpen 19 = .ok (.bipush 100, 2) := by decide +kernel
theorem dX8_isOpen_21 : decode cX8_isOpen 21 = .ok (.if_icmp .ne 7, 3) := by decide +kernel
theorem dX8_isOpen_24 : decode cX8_isOpen 24 = .ok (.iconst 0, 1) := by decide +kernel
theorem dX8_isOpen_25 : decode cX8_isOpen 25 = .ok (.goto 4, 3) := by decide +kernel
theorem dX8_isOpen_28 : decode cX8_isOpen 28 = .ok (.iconst 2, 1) := by decide +kernel
theorem dX8_isOpen_29 : decode cX8_isOpen 29 = .ok (.putfield 84, 3) := by decide +kernel
theorem dX8_isOpen_32 : decode cX8_isOpen 32 = .ok (.aload_n 0, 1) := by decide +kernel
theorem dX8_isOpen_33 : decode cX8_isOpen 33 = .ok (.getfield 84, 3) := by decide +kernel
theorem dX8_isOpen_36 : decode cX8_isOpen 36 = .ok (.ifCond .le 7, 3) := by decide +kernel
theorem dX8_isOpen_39 : decode cX8_isOpen 39 = .ok (.iconst 1, 1) := by decide +kernel
theorem dX8_isOpen_40 : decode cX8_isOpen 40 = .ok (.goto 4, 3) := by decide +kernel
theorem dX8_isOpen_43 : decode cX8_isOpen 43 = .ok (.iconst 0, 1) := by decide +kernel
theorem dX8_isOpen_44 : decode cX8_isOpen 44 = .ok (.ireturn, 1) := by decide +kernel
theorem dX8_outcome_0 : decode cX8_outcome 0 = .ok (.aload_n 0, 1) := by decide +kernel
theorem dX8_outcome_1 : decode cX8_outcome 1 = .ok (.iload_n 1, 1) := by decide +kernel
theorem dX8_outcome_2 : decode cX8_outcome 2 = .ok (.invokevirtual 181, 3) := by decide +kernel
theorem dX8_outcome_5 : decode cX8_outcome 5 = .ok (.ifCond .eq 7, 3) := by decide +kernel
theorem dX8_outcome_8 : decode cX8_outcome 8 = .ok (.iconst 0, 1) := by decide +kernel
theorem dX8_outcome_9 : decode cX8_outcome 9 = .ok (.goto 9, 3) := by decide +kernel
theorem dX8_outcome_12 : decode cX8_outcome 12 = .ok (.aload_n 0, 1) := by decide +kernel
theorem dX8_outcome_13 : decode cX8_outcome 13 = .ok (.getfield 73, 3) := by decide +kernel
theorem dX8_outcome_16 : decode cX8_outcome 16 = .ok (.iload_n 1, 1) := by decide +kernel
theorem dX8_outcome_17 : decode cX8_outcome 17 = .ok (.caload, 1) := by decide +kernel
theorem dX8_outcome_18 : decode cX8_outcome 18 = .ok (.ireturn, 1) := by decide +kernel
theorem dX8_outcomeAnew_0 : decode cX8_outcomeAnew 0 = .ok (.aload_n 0, 1) := by decide +kernel
theorem dX8_outcomeAnew_1 : decode cX8_outcomeAnew 1 = .ok (.iload_n 1, 1) := by decide +kernel
theorem dX8_outcomeAnew_2 : decode cX8_outcomeAnew 2 = .ok (.invokevirtual 184, 3) := by decide +kernel
theorem dX8_outcomeAnew_5 : decode cX8_outcomeAnew 5 = .ok (.ireturn, 1) := by decide +kernel
theorem dX8_isByBot_0 : decode cX8_isByBot 0 = .ok (.aload_n 0, 1) := by decide +kernel
theorem dX8_isByBot_1 : decode cX8_isByBot 1 = .ok (.iload_n 1, 1) := by decide +kernel
theorem dX8_isByBot_2 : decode cX8_isByBot 2 = .ok (.invokevirtual 181, 3) := by decide +kernel
theorem dX8_isByBot_5 : decode cX8_isByBot 5 = .ok (.ifCond .ne 16, 3) := by decide +kernel
theorem dX8_isByBot_8 : decode cX8_isByBot 8 = .ok (.aload_n 0, 1) := by decide +kernel
theorem dX8_isByBot_9 : decode cX8_isByBot 9 = .ok (.getfield 60, 3) := by decide +kernel
theorem dX8_isByBot_12 : decode cX8_isByBot 12 = .ok (.iload_n 1, 1) := by decide +kernel
theorem dX8_isByBot_13 : decode cX8_isByBot 13 = .ok (.iaload, 1) := by decide +kernel
theorem dX8_isByBot_14 : decode cX8_isByBot 14 = .ok (.ifCond .lt 7, 3) := by decide +kernel
theorem dX8_isByBot_17 : decode cX8_isByBot 17 = .ok (.iconst 1, 1) := by decide +kernel
theorem dX8_isByBot_18 : decode cX8_isByBot 18 = .ok (.goto 4, 3) := by decide +kernel
theorem dX8_isByBot_21 : decode cX8_isByBot 21 = .ok (.iconst 0, 1) := by decide +kernel
theorem dX8_isByBot_22 : decode cX8_isByBot 22 = .ok (.ireturn, 1) := by decide +kernel
theorem dX8_appeal_0 : decode cX8_appeal 0 = .ok (.aload_n 0, 1) := by decide +kernel
theorem dX8_appeal_1 : decode cX8_appeal 1 = .ok (.iload_n 1, 1) := by decide +kernel
theorem dX8_appeal_2 : decode cX8_appeal 2 = .ok (.invokevirtual 181, 3) := by decide +kernel
theorem dX8_appeal_5 : decode cX8_appeal 5 = .ok (.ifCond .eq 5, 3) := by decide +kernel
theorem dX8_appeal_8 : decode cX8_appeal 8 = .ok (.iconst 0, 1) := by decide +kernel
theorem dX8_appeal_9 : decode cX8_appeal 9 = .ok (.ireturn, 1) := by decide +kernel
theorem dX8_appeal_10 : decode cX8_appeal 10 = .ok (.aload_n 0, 1) := by decide +kernel
theorem dX8_appeal_11 : decode cX8_appeal 11 = .ok (.getfield 76, 3) := by decide +kernel
theorem dX8_appeal_14 : decode cX8_appeal 14 = .ok (.iload_n 1, 1) := by decide +kernel
theorem dX8_appeal_15 : decode cX8_appeal 15 = .ok (.caload, 1) := by decide +kernel
theorem dX8_appeal_16 : decode cX8_appeal 16 = .ok (.bipush 45, 2) := by decide +kernel
theorem dX8_appeal_18 : decode cX8_appeal 18 = .ok (.if_icmp .eq 9, 3) := by decide +kernel
theorem dX8_appeal_21 : decode cX8_appeal 21 = .ok (.aload_n 0, 1) := by decide +kernel
theorem dX8_appeal_22 : decode cX8_appeal 22 = .ok (.iconst 3, 1) := by decide +kernel
theorem dX8_appeal_23 : decode cX8_appeal 23 = .ok (.invokevirtual 103, 3) := by decide +kernel
theorem dX8_appeal_26 : decode cX8_appeal 26 = .ok (.ireturn, 1) := by decide +kernel
theorem dX8_appeal_27 : decode cX8_appeal 27 = .ok (.aload_n 0, 1) := by decide +kernel
theorem dX8_appeal_28 : decode cX8_appeal 28 = .ok (.getfield 76, 3) := by decide +kernel
theorem dX8_appeal_31 : decode cX8_appeal 31 = .ok (.iload_n 1, 1) := by decide +kernel
theorem dX8_appeal_32 : decode cX8_appeal 32 = .ok (.aload_n 0, 1) := by decide +kernel
theorem dX8_appeal_33 : decode cX8_appeal 33 = .ok (.getfield 73, 3) := by decide +kernel
theorem dX8_appeal_36 : decode cX8_appeal 36 = .ok (.iload_n 1, 1) := by decide +kernel
theorem dX8_appeal_37 : decode cX8_appeal 37 = .ok (.caload, 1) := by decide +kernel
theorem dX8_appeal_38 : decode cX8_appeal 38 = .ok (.castore, 1) := by decide +kernel
theorem dX8_appeal_39 : decode cX8_appeal 39 = .ok (.aload_n 0, 1) := by decide +kernel
theorem dX8_appeal_40 : decode cX8_appeal 40 = .ok (.getfield 69, 3) := by decide +kernel
theorem dX8_appeal_43 : decode cX8_appeal 43 = .ok (.iload_n 1, 1) := by decide +kernel
theorem dX8_appeal_44 : decode cX8_appeal 44 = .ok (.bipush 101, 2) := by decide +kernel
theorem dX8_appeal_46 : decode cX8_appeal 46 = .ok (.castore, 1) := by decide +kernel
theorem dX8_appeal_47 : decode cX8_appeal 47 = .ok (.iconst 0, 1) := by decide +kernel
theorem dX8_appeal_48 : decode cX8_appeal 48 = .ok (.istore_n 2, 1) := by decide +kernel
theorem dX8_appeal_49 : decode cX8_appeal 49 = .ok (.iconst 0, 1) := by decide +kernel
theorem dX8_appeal_50 : decode cX8_appeal 50 = .ok (.istore_n 3, 1) := by decide +kernel
theorem dX8_appeal_51 : decode cX8_appeal 51 = .ok (.iload_n 3, 1) := by decide +kernel
theorem dX8_appeal_52 : decode cX8_appeal 52 = .ok (.aload_n 0, 1) := by decide +kernel
theorem dX8_appeal_53 : decode cX8_appeal 53 = .ok (.getfield 97, 3) := by decide +kernel
theorem dX8_appeal_56 : decode cX8_appeal 56 = .ok (.if_icmp .ge 28, 3) := by decide +kernel
theorem dX8_appeal_59 : decode cX8_appeal 59 = .ok (.iload_n 2, 1) := by decide +kernel
theorem dX8_appeal_60 : decode cX8_appeal 60 = .ok (.aload_n 0, 1) := by decide +kernel
theorem dX8_appeal_61 : decode cX8_appeal 61 = .ok (.getfield 69, 3) := by decide +kernel
theorem dX8_appeal_64 : decode cX8_appeal 64 = .ok (.iload_n 3, 1) := by decide +kernel
theorem dX8_appeal_65 : decode cX8_appeal 65 = .ok (.caload, 1) := by decide +kernel
theorem dX8_appeal_66 : decode cX8_appeal 66 = .ok (.bipush 101, 2) := by decide +kernel
theorem dX8_appeal_68 : decode cX8_appeal 68 = .ok (.if_icmp .ne 7, 3) := by decide +kernel
theorem dX8_appeal_71 : decode cX8_appeal 71 = .ok (.iconst 1, 1) := by decide +kernel
theorem dX8_appeal_72 : decode cX8_appeal 72 = .ok (.goto 4, 3) := by decide +kernel
theorem dX8_appeal_75 : decode cX8_appeal 75 = .ok (.iconst 0, 1) := by decide +kernel
theorem dX8_appeal_76 : decode cX8_appeal 76 = .ok (.iadd, 1) := by decide +kernel
theorem dX8_appeal_77 : decode cX8_appeal 77 = .ok (.istore_n 2, 1) := by decide +kernel
theorem dX8_appeal_78 : decode cX8_appeal 78 = .ok (.iinc 3 1, 3) := by decide +kernel
theorem dX8_appeal_81 : decode cX8_appeal 81 = .ok (.goto (-30), 3) := by decide +kernel
theorem dX8_appeal_84 : decode cX8_appeal 84 = .ok (.iload_n 2, 1) := by decide +kernel
theorem dX8_appeal_85 : decode cX8_appeal 85 = .ok (.ireturn, 1) := by decide +kernel
theorem dX8_isReversed_0 : decode cX8_isReversed 0 = .ok (.aload_n 0, 1) := by decide +kernel
theorem dX8_isReversed_1 : decode cX8_isReversed 1 = .ok (.getfield 69, 3) := by decide +kernel
theorem dX8_isReversed_4 : decode cX8_isReversed 4 = .ok (.iload_n 1, 1) := by decide +kernel
theorem dX8_isReversed_5 : decode cX8_isReversed 5 = .ok (.caload, 1) := by decide +kernel
theorem dX8_isReversed_6 : decode cX8_isReversed 6 = .ok (.bipush 100, 2) := by decide +kernel
theorem dX8_isReversed_8 : decode cX8_isReversed 8 = .ok (.if_icmp .ne 33, 3) := by decide +kernel
theorem dX8_isReversed_11 : decode cX8_isReversed 11 = .ok (.aload_n 0, 1) := by decide +kernel
theorem dX8_isReversed_12 : decode cX8_isReversed 12 = .ok (.getfield 76, 3) := by decide +kernel
theorem dX8_isReversed_15 : decode cX8_isReversed 15 = .ok (.iload_n 1, 1) := by decide +kernel
theorem dX8_isReversed_16 : decode cX8_isReversed 16 = .ok (.caload, 1) := by decide +kernel
theorem dX8_isReversed_17 : decode cX8_isReversed 17 = .ok (.bipush 45, 2) := by decide +kernel
theorem dX8_isReversed_19 : decode cX8_isReversed 19 = .ok (.if_icmp .eq 22, 3) := by decide +kernel
theorem dX8_isReversed_22 : decode cX8_isReversed 22 = .ok (.aload_n 0, 1) := by decide +kernel
theorem dX8_isReversed_23 : decode cX8_isReversed 23 = .ok (.getfield 76, 3) := by decide +kernel
theorem dX8_isReversed_26 : decode cX8_isReversed 26 = .ok (.iload_n 1, 1) := by decide +kernel
theorem dX8_isReversed_27 : decode cX8_isReversed 27 = .ok (.caload, 1) := by decide +kernel
theorem dX8_isReversed_28 : decode cX8_isReversed 28 = .ok (.aload_n 0, 1) := by decide +kernel
theorem dX8_isReversed_29 : decode cX8_isReversed 29 = .ok (.getfield 73, 3) := by decide +kernel
theorem dX8_isReversed_32 : decode cX8_isReversed 32 = .ok (.iload_n 1, 1) := by decide +kernel
theorem dX8_isReversed_33 : decode cX8_isReversed 33 = .ok (.caload, 1) := by decide +kernel
theorem dX8_isReversed_34 : decode cX8_isReversed 34 = .ok (.if_icmp .eq 7, 3) := by decide +kernel
theorem dX8_isReversed_37 : decode cX8_isReversed 37 = .ok (.iconst 1, 1) := by decide +kernel
theorem dX8_isReversed_38 : decode cX8_isReversed 38 = .ok (.goto 4, 3) := by decide +kernel
theorem dX8_isReversed_41 : decode cX8_isReversed 41 = .ok (.iconst 0, 1) := by decide +kernel
theorem dX8_isReversed_42 : decode cX8_isReversed 42 = .ok (.ireturn, 1) := by decide +kernel
theorem dX8_wasReversed_0 : decode cX8_wasReversed 0 = .ok (.aload_n 0, 1) := by decide +kernel
theorem dX8_wasReversed_1 : decode cX8_wasReversed 1 = .ok (.iload_n 1, 1) := by decide +kernel
theorem dX8_wasReversed_2 : decode cX8_wasReversed 2 = .ok (.invokevirtual 169, 3) := by decide +kernel
theorem dX8_wasReversed_5 : decode cX8_wasReversed 5 = .ok (.ifCond .ne 15, 3) := by decide +kernel
theorem dX8_wasReversed_8 : decode cX8_wasReversed 8 = .ok (.aload_n 0, 1) := by decide +kernel
theorem dX8_wasReversed_9 : decode cX8_wasReversed 9 = .ok (.iload_n 1, 1) := by decide +kernel
theorem dX8_wasReversed_10 : decode cX8_wasReversed 10 = .ok (.invokevirtual 188, 3) := by decide +kernel
theorem dX8_wasReversed_13 : decode cX8_wasReversed 13 = .ok (.ifCond .eq 7, 3) := by decide +kernel
theorem dX8_wasReversed_16 : decode cX8_wasReversed 16 = .ok (.iconst 1, 1) := by decide +kernel
theorem dX8_wasReversed_17 : decode cX8_wasReversed 17 = .ok (.goto 4, 3) := by decide +kernel
theorem dX8_wasReversed_20 : decode cX8_wasReversed 20 = .ok (.iconst 0, 1) := by decide +kernel
theorem dX8_wasReversed_21 : decode cX8_wasReversed 21 = .ok (.ireturn, 1) := by decide +kernel
theorem dX8_today_0 : decode cX8_today 0 = .ok (.aload_n 0, 1) := by decide +kernel
theorem dX8_today_1 : decode cX8_today 1 = .ok (.iconst 0, 1) := by decide +kernel
theorem dX8_today_2 : decode cX8_today 2 = .ok (.putfield 84, 3) := by decide +kernel
theorem dX8_today_5 : decode cX8_today 5 = .ok (.aload_n 0, 1) := by decide +kernel
theorem dX8_today_6 : decode cX8_today 6 = .ok (.getfield 100, 3) := by decide +kernel
theorem dX8_today_9 : decode cX8_today 9 = .ok (.ireturn, 1) := by decide +kernel
theorem dX8_pass_0 : decode cX8_pass 0 = .ok (.aload_n 0, 1) := by decide +kernel
theorem dX8_pass_1 : decode cX8_pass 1 = .ok (.iconst 0, 1) := by decide +kernel
theorem dX8_pass_2 : decode cX8_pass 2 = .ok (.putfield 84, 3) := by decide +kernel
theorem dX8_pass_5 : decode cX8_pass 5 = .ok (.iload_n 1, 1) := by decide +kernel
theorem dX8_pass_6 : decode cX8_pass 6 = .ok (.iconst 1, 1) := by decide +kernel
theorem dX8_pass_7 : decode cX8_pass 7 = .ok (.bipush 100, 2) := by decide +kernel
theorem dX8_pass_9 : decode cX8_pass 9 = .ok (.invokestatic 90, 3) := by decide +kernel
theorem dX8_pass_12 : decode cX8_pass 12 = .ok (.ifCond .ne 9, 3) := by decide +kernel
theorem dX8_pass_15 : decode cX8_pass 15 = .ok (.aload_n 0, 1) := by decide +kernel
theorem dX8_pass_16 : decode cX8_pass 16 = .ok (.iconst 1, 1) := by decide +kernel
theorem dX8_pass_17 : decode cX8_pass 17 = .ok (.invokevirtual 103, 3) := by decide +kernel
theorem dX8_pass_20 : decode cX8_pass 20 = .ok (.ireturn, 1) := by decide +kernel
theorem dX8_pass_21 : decode cX8_pass 21 = .ok (.aload_n 0, 1) := by decide +kernel
theorem dX8_pass_22 : decode cX8_pass 22 = .ok (.getfield 100, 3) := by decide +kernel
theorem dX8_pass_25 : decode cX8_pass 25 = .ok (.iload_n 1, 1) := by decide +kernel
theorem dX8_pass_26 : decode cX8_pass 26 = .ok (.iadd, 1) := by decide +kernel
theorem dX8_pass_27 : decode cX8_pass 27 = .ok (.sipush 1000, 3) := by decide +kernel
theorem dX8_pass_30 : decode cX8_pass 30 = .ok (.if_icmp .le 9, 3) := by decide +kernel
theorem dX8_pass_33 : decode cX8_pass 33 = .ok (.aload_n 0, 1) := by decide +kernel
theorem dX8_pass_34 : decode cX8_pass 34 = .ok (.iconst 2, 1) := by decide +kernel
theorem dX8_pass_35 : decode cX8_pass 35 = .ok (.invokevirtual 103, 3) := by decide +kernel
theorem dX8_pass_38 : decode cX8_pass 38 = .ok (.ireturn, 1) := by decide +kernel
theorem dX8_pass_39 : decode cX8_pass 39 = .ok (.iconst 0, 1) := by decide +kernel
theorem dX8_pass_40 : decode cX8_pass 40 = .ok (.istore_n 2, 1) := by decide +kernel
theorem dX8_pass_41 : decode cX8_pass 41 = .ok (.iconst 0, 1) := by decide +kernel
theorem dX8_pass_42 : decode cX8_pass 42 = .ok (.istore_n 3, 1) := by decide +kernel
theorem dX8_pass_43 : decode cX8_pass 43 = .ok (.iload_n 3, 1) := by decide +kernel
theorem dX8_pass_44 : decode cX8_pass 44 = .ok (.iload_n 1, 1) := by decide +kernel
theorem dX8_pass_45 : decode cX8_pass 45 = .ok (.if_icmp .ge 101, 3) := by decide +kernel
theorem dX8_pass_48 : decode cX8_pass 48 = .ok (.iconst 0, 1) := by decide +kernel
theorem dX8_pass_49 : decode cX8_pass 49 = .ok (.istore 4, 2) := by decide +kernel
theorem dX8_pass_51 : decode cX8_pass 51 = .ok (.iload 4, 2) := by decide +kernel
theorem dX8_pass_53 : decode cX8_pass 53 = .ok (.aload_n 0, 1) := by decide +kernel
theorem dX8_pass_54 : decode cX8_pass 54 = .ok (.getfield 97, 3) := by decide +kernel
theorem dX8_pass_57 : decode cX8_pass 57 = .ok (.if_icmp .ge 73, 3) := by decide +kernel
theorem dX8_pass_60 : decode cX8_pass 60 = .ok (.aload_n 0, 1) := by decide +kernel
theorem dX8_pass_61 : decode cX8_pass 61 = .ok (.dup, 1) := by decide +kernel
theorem dX8_pass_62 : decode cX8_pass 62 = .ok (.getfield 191, 3) := by decide +kernel
theorem dX8_pass_65 : decode cX8_pass 65 = .ok (.aload_n 0, 1) := by decide +kernel
theorem dX8_pass_66 : decode cX8_pass 66 = .ok (.iload 4, 2) := by decide +kernel
theorem dX8_pass_68 : decode cX8_pass 68 = .ok (.aload_n 0, 1) := by decide +kernel
theorem dX8_pass_69 : decode cX8_pass 69 = .ok (.getfield 100, 3) := by decide +kernel
theorem dX8_pass_72 : decode cX8_pass 72 = .ok (.invokevirtual 137, 3) := by decide +kernel
theorem dX8_pass_75 : decode cX8_pass 75 = .ok (.ifCond .eq 7, 3) := by decide +kernel
theorem dX8_pass_78 : decode cX8_pass 78 = .ok (.lconst 1, 1) := by decide +kernel
theorem dX8_pass_79 : decode cX8_pass 79 = .ok (.goto 4, 3) := by decide +kernel
theorem dX8_pass_82 : decode cX8_pass 82 = .ok (.lconst 0, 1) := by decide +kernel
theorem dX8_pass_83 : decode cX8_pass 83 = .ok (.ladd, 1) := by decide +kernel
theorem dX8_pass_84 : decode cX8_pass 84 = .ok (.putfield 191, 3) := by decide +kernel
theorem dX8_pass_87 : decode cX8_pass 87 = .ok (.iload_n 2, 1) := by decide +kernel
theorem dX8_pass_88 : decode cX8_pass 88 = .ok (.aload_n 0, 1) := by decide +kernel
theorem dX8_pass_89 : decode cX8_pass 89 = .ok (.iload 4, 2) := by decide +kernel
theorem dX8_pass_91 : decode cX8_pass 91 = .ok (.aload_n 0, 1) := by decide +kernel
theorem dX8_pass_92 : decode cX8_pass 92 = .ok (.getfield 100, 3) := by decide +kernel
theorem dX8_pass_95 : decode cX8_pass 95 = .ok (.invokevirtual 137, 3) := by decide +kernel
theorem dX8_pass_98 : decode cX8_pass 98 = .ok (.ifCond .eq 23, 3) := by decide +kernel
theorem dX8_pass_101 : decode cX8_pass 101 = .ok (.aload_n 0, 1) := by decide +kernel
theorem dX8_pass_102 : decode cX8_pass 102 = .ok (.getfield 66, 3) := by decide +kernel
theorem dX8_pass_105 : decode cX8_pass 105 = .ok (.iload 4, 2) := by decide +kernel
theorem dX8_pass_107 : decode cX8_pass 107 = .ok (.iaload, 1) := by decide +kernel
theorem dX8_pass_108 : decode cX8_pass 108 = .ok (.aload_n 0, 1) := by decide +kernel
theorem dX8_pass_109 : decode cX8_pass 109 = .ok (.getfield 100, 3) := by decide +kernel
theorem dX8_pass_112 : decode cX8_pass 112 = .ok (.iconst 1, 1) := by decide +kernel
theorem dX8_pass_113 : decode cX8_pass 113 = .ok (.iadd, 1) := by decide +kernel
theorem dX8_pass_114 : decode cX8_pass 114 = .ok (.if_icmp .ne 7, 3) := by decide +kernel
theorem dX8_pass_117 : decode cX8_pass 117 = .ok (.iconst 1, 1) := by decide +kernel
theorem dX8_pass_118 : decode cX8_pass 118 = .ok (.goto 4, 3) := by decide +kernel
theorem dX8_pass_121 : decode cX8_pass 121 = .ok (.iconst 0, 1) := by decide +kernel
theorem dX8_pass_122 : decode cX8_pass 122 = .ok (.iadd, 1) := by decide +kernel
theorem dX8_pass_123 : decode cX8_pass 123 = .ok (.istore_n 2, 1) := by decide +kernel
theorem dX8_pass_124 : decode cX8_pass 124 = .ok (.iinc 4 1, 3) := by decide +kernel
theorem dX8_pass_127 : decode cX8_pass 127 = .ok (.goto (-76), 3) := by decide +kernel
theorem dX8_pass_130 : decode cX8_pass 130 = .ok (.aload_n 0, 1) := by decide +kernel
theorem dX8_pass_131 : decode cX8_pass 131 = .ok (.dup, 1) := by decide +kernel
theorem dX8_pass_132 : decode cX8_pass 132 = .ok (.getfield 100, 3) := by decide +kernel
theorem dX8_pass_135 : decode cX8_pass 135 = .ok (.iconst 1, 1) := by decide +kernel
theorem dX8_pass_136 : decode cX8_pass 136 = .ok (.iadd, 1) := by decide +kernel
theorem dX8_pass_137 : decode cX8_pass 137 = .ok (.putfield 100, 3) := by decide +kernel
theorem dX8_pass_140 : decode cX8_pass 140 = .ok (.iinc 3 1, 3) := by decide +kernel
theorem dX8_pass_143 : decode cX8_pass 143 = .ok (.goto (-100), 3) := by decide +kernel
theorem dX8_pass_146 : decode cX8_pass 146 = .ok (.iload_n 2, 1) := by decide +kernel
theorem dX8_pass_147 : decode cX8_pass 147 = .ok (.ireturn, 1) := by decide +kernel
theorem dX8_decisions_0 : decode cX8_decisions 0 = .ok (.aload_n 0, 1) := by decide +kernel
theorem dX8_decisions_1 : decode cX8_decisions 1 = .ok (.iconst 0, 1) := by decide +kernel
theorem dX8_decisions_2 : decode cX8_decisions 2 = .ok (.putfield 84, 3) := by decide +kernel
theorem dX8_decisions_5 : decode cX8_decisions 5 = .ok (.aload_n 0, 1) := by decide +kernel
theorem dX8_decisions_6 : decode cX8_decisions 6 = .ok (.getfield 159, 3) := by decide +kernel
theorem dX8_decisions_9 : decode cX8_decisions 9 = .ok (.ireturn, 1) := by decide +kernel
theorem dX8_likeness_0 : decode cX8_likeness 0 = .ok (.aload_n 0, 1) := by decide +kernel
theorem dX8_likeness_1 : decode cX8_likeness 1 = .ok (.aload_n 0, 1) := by decide +kernel
theorem dX8_likeness_2 : decode cX8_likeness 2 = .ok (.iload_n 1, 1) := by decide +kernel
theorem dX8_likeness_3 : decode cX8_likeness 3 = .ok (.invokevirtual 124, 3) := by decide +kernel
theorem dX8_likeness_6 : decode cX8_likeness 6 = .ok (.ifCond .eq 15, 3) := by decide +kernel
theorem dX8_likeness_9 : decode cX8_likeness 9 = .ok (.aload_n 0, 1) := by decide +kernel
theorem dX8_likeness_10 : decode cX8_likeness 10 = .ok (.iload_n 2, 1) := by decide +kernel
theorem dX8_likeness_11 : decode cX8_likeness 11 = .ok (.invokevirtual 124, 3) := by decide +kernel
theorem dX8_likeness_14 : decode cX8_likeness 14 = .ok (.ifCond .eq 7, 3) := by decide +kernel
theorem dX8_likeness_17 : decode cX8_likeness 17 = .ok (.iconst 0, 1) := by decide +kernel
theorem dX8_likeness_18 : decode cX8_likeness 18 = .ok (.goto 4, 3) := by decide +kernel
theorem dX8_likeness_21 : decode cX8_likeness 21 = .ok (.iconst 1, 1) := by decide +kernel
theorem dX8_likeness_22 : decode cX8_likeness 22 = .ok (.putfield 84, 3) := by decide +kernel
theorem dX8_likeness_25 : decode cX8_likeness 25 = .ok (.aload_n 0, 1) := by decide +kernel
theorem dX8_likeness_26 : decode cX8_likeness 26 = .ok (.getfield 84, 3) := by decide +kernel
theorem dX8_likeness_29 : decode cX8_likeness 29 = .ok (.ifCond .le 7, 3) := by decide +kernel
theorem dX8_likeness_32 : decode cX8_likeness 32 = .ok (.iconst 0, 1) := by decide +kernel
theorem dX8_likeness_33 : decode cX8_likeness 33 = .ok (.goto 9, 3) := by decide +kernel
theorem dX8_likeness_36 : decode cX8_likeness 36 = .ok (.aload_n 0, 1) := by decide +kernel
theorem dX8_likeness_37 : decode cX8_likeness 37 = .ok (.iload_n 1, 1) := by decide +kernel
theorem dX8_likeness_38 : decode cX8_likeness 38 = .ok (.iload_n 2, 1) := by decide +kernel
theorem dX8_likeness_39 : decode cX8_likeness 39 = .ok (.invokevirtual 149, 3) := by decide +kernel
theorem dX8_likeness_42 : decode cX8_likeness 42 = .ok (.ireturn, 1) := by decide +kernel
theorem dX8_isOf_0 : decode cX8_isOf 0 = .ok (.iload_n 2, 1) := by decide +kernel
theorem dX8_isOf_1 : decode cX8_isOf 1 = .ok (.lookupswitch 86 #[(98, 60), (103, 52), (111, 35)], 35) := by decide +kernel
theorem dX8_isOf_36 : decode cX8_isOf 36 = .ok (.aload_n 0, 1) := by decide +kernel
theorem dX8_isOf_37 : decode cX8_isOf 37 = .ok (.getfield 69, 3) := by decide +kernel
theorem dX8_isOf_40 : decode cX8_isOf 40 = .ok (.iload_n 1, 1) := by decide +kernel
theorem dX8_isOf_41 : decode cX8_isOf 41 = .ok (.caload, 1) := by decide +kernel
theorem dX8_isOf_42 : decode cX8_isOf 42 = .ok (.bipush 111, 2) := by decide +kernel
theorem dX8_isOf_44 : decode cX8_isOf 44 = .ok (.if_icmp .ne 7, 3) := by decide +kernel
theorem dX8_isOf_47 : decode cX8_isOf 47 = .ok (.iconst 1, 1) := by decide +kernel
theorem dX8_isOf_48 : decode cX8_isOf 48 = .ok (.goto 4, 3) := by decide +kernel
theorem dX8_isOf_51 : decode cX8_isOf 51 = .ok (.iconst 0, 1) := by decide +kernel
theorem dX8_isOf_52 : decode cX8_isOf 52 = .ok (.ireturn, 1) := by decide +kernel
theorem dX8_isOf_53 : decode cX8_isOf 53 = .ok (.aload_n 0, 1) := by decide +kernel
theorem dX8_isOf_54 : decode cX8_isOf 54 = .ok (.iload_n 1, 1) := by decide +kernel
theorem dX8_isOf_55 : decode cX8_isOf 55 = .ok (.bipush 103, 2) := by decide +kernel
theorem dX8_isOf_57 : decode cX8_isOf 57 = .ok (.invokevirtual 133, 3) := by decide +kernel
theorem dX8_isOf_60 : decode cX8_isOf 60 = .ok (.ireturn, 1) := by decide +kernel
theorem dX8_isOf_61 : decode cX8_isOf 61 = .ok (.aload_n 0, 1) := by decide +kernel
theorem dX8_isOf_62 : decode cX8_isOf 62 = .ok (.getfield 69, 3) := by decide +kernel
theorem dX8_isOf_65 : decode cX8_isOf 65 = .ok (.iload_n 1, 1) := by decide +kernel
theorem dX8_isOf_66 : decode cX8_isOf 66 = .ok (.caload, 1) := by decide +kernel
theorem dX8_isOf_67 : decode cX8_isOf 67 = .ok (.bipush 100, 2) := by decide +kernel
theorem dX8_isOf_69 : decode cX8_isOf 69 = .ok (.if_icmp .ne 16, 3) := by decide +kernel
theorem dX8_isOf_72 : decode cX8_isOf 72 = .ok (.aload_n 0, 1) := by decide +kernel
theorem dX8_isOf_73 : decode cX8_isOf 73 = .ok (.getfield 60, 3) := by decide +kernel
theorem dX8_isOf_76 : decode cX8_isOf 76 = .ok (.iload_n 1, 1) := by decide +kernel
theorem dX8_isOf_77 : decode cX8_isOf 77 = .ok (.iaload, 1) := by decide +kernel
theorem dX8_isOf_78 : decode cX8_isOf 78 = .ok (.ifCond .lt 7, 3) := by decide +kernel
theorem dX8_isOf_81 : decode cX8_isOf 81 = .ok (.iconst 1, 1) := by decide +kernel
theorem dX8_isOf_82 : decode cX8_isOf 82 = .ok (.goto 4, 3) := by decide +kernel
theorem dX8_isOf_85 : decode cX8_isOf 85 = .ok (.iconst 0, 1) := by decide +kernel
theorem dX8_isOf_86 : decode cX8_isOf 86 = .ok (.ireturn, 1) := by decide +kernel
theorem dX8_isOf_87 : decode cX8_isOf 87 = .ok (.aload_n 0, 1) := by decide +kernel
theorem dX8_isOf_88 : decode cX8_isOf 88 = .ok (.iload_n 1, 1) := by decide +kernel
theorem dX8_isOf_89 : decode cX8_isOf 89 = .ok (.invokevirtual 188, 3) := by decide +kernel
theorem dX8_isOf_92 : decode cX8_isOf 92 = .ok (.ireturn, 1) := by decide +kernel
theorem dX8_count_0 : decode cX8_count 0 = .ok (.aload_n 0, 1) := by decide +kernel
theorem dX8_count_1 : decode cX8_count 1 = .ok (.iconst 0, 1) := by decide +kernel
theorem dX8_count_2 : decode cX8_count 2 = .ok (.putfield 84, 3) := by decide +kernel
theorem dX8_count_5 : decode cX8_count 5 = .ok (.iload_n 1, 1) := by decide +kernel
theorem dX8_count_6 : decode cX8_count 6 = .ok (.bipush 111, 2) := by decide +kernel
theorem dX8_count_8 : decode cX8_count 8 = .ok (.if_icmp .eq 27, 3) := by decide +kernel
theorem dX8_count_11 : decode cX8_count 11 = .ok (.iload_n 1, 1) := by decide +kernel
theorem dX8_count_12 : decode cX8_count 12 = .ok (.bipush 103, 2) := by decide +kernel
theorem dX8_count_14 : decode cX8_count 14 = .ok (.if_icmp .eq 21, 3) := by decide +kernel
theorem dX8_count_17 : decode cX8_count 17 = .ok (.iload_n 1, 1) := by decide +kernel
theorem dX8_count_18 : decode cX8_count 18 = .ok (.bipush 98, 2) := by decide +kernel
theorem dX8_count_20 : decode cX8_count 20 = .ok (.if_icmp .eq 15, 3) := by decide +kernel
theorem dX8_count_23 : decode cX8_count 23 = .ok (.iload_n 1, 1) := by decide +kernel
theorem dX8_count_24 : decode cX8_count 24 = .ok (.bipush 114, 2) := by decide +kernel
theorem dX8_count_26 : decode cX8_count 26 = .ok (.if_icmp .eq 9, 3) := by decide +kernel
theorem dX8_count_29 : decode cX8_count 29 = .ok (.aload_n 0, 1) := by decide +kernel
theorem dX8_count_30 : decode cX8_count 30 = .ok (.iconst 1, 1) := by decide +kernel
theorem dX8_count_31 : decode cX8_count 31 = .ok (.invokevirtual 103, 3) := by decide +kernel
theorem dX8_count_34 : decode cX8_count 34 = .ok (.ireturn, 1) := by decide +kernel
theorem dX8_count_35 : decode cX8_count 35 = .ok (.iconst 0, 1) := by decide +kernel
theorem dX8_count_36 : decode cX8_count 36 = .ok (.istore_n 2, 1) := by decide +kernel
theorem dX8_count_37 : decode cX8_count 37 = .ok (.iconst 0, 1) := by decide +kernel
theorem dX8_count_38 : decode cX8_count 38 = .ok (.istore_n 3, 1) := by decide +kernel
theorem dX8_count_39 : decode cX8_count 39 = .ok (.iload_n 3, 1) := by decide +kernel
theorem dX8_count_40 : decode cX8_count 40 = .ok (.aload_n 0, 1) := by decide +kernel
theorem dX8_count_41 : decode cX8_count 41 = .ok (.getfield 97, 3) := by decide +kernel
theorem dX8_count_44 : decode cX8_count 44 = .ok (.if_icmp .ge 26, 3) := by decide +kernel
theorem dX8_count_47 : decode cX8_count 47 = .ok (.iload_n 2, 1) := by decide +kernel
theorem dX8_count_48 : decode cX8_count 48 = .ok (.aload_n 0, 1) := by decide +kernel
theorem dX8_count_49 : decode cX8_count 49 = .ok (.iload_n 3, 1) := by decide +kernel
theorem dX8_count_50 : decode cX8_count 50 = .ok (.iload_n 1, 1) := by decide +kernel
theorem dX8_count_51 : decode cX8_count 51 = .ok (.invokevirtual 195, 3) := by decide +kernel
theorem dX8_count_54 : decode cX8_count 54 = .ok (.ifCond .eq 7, 3) := by decide +kernel
theorem dX8_count_57 : decode cX8_count 57 = .ok (.iconst 1, 1) := by decide +kernel
theorem dX8_count_58 : decode cX8_count 58 = .ok (.goto 4, 3) := by decide +kernel
theorem dX8_count_61 : decode cX8_count 61 = .ok (.iconst 0, 1) := by decide +kernel
theorem dX8_count_62 : decode cX8_count 62 = .ok (.iadd, 1) := by decide +kernel
theorem dX8_count_63 : decode cX8_count 63 = .ok (.istore_n 2, 1) := by decide +kernel
theorem dX8_count_64 : decode cX8_count 64 = .ok (.iinc 3 1, 3) := by decide +kernel
theorem dX8_count_67 : decode cX8_count 67 = .ok (.goto (-28), 3) := by decide +kernel
theorem dX8_count_70 : decode cX8_count 70 = .ok (.iload_n 2, 1) := by decide +kernel
theorem dX8_count_71 : decode cX8_count 71 = .ok (.ireturn, 1) := by decide +kernel
theorem dX8_meanEvidence_0 : decode cX8_meanEvidence 0 = .ok (.aload_n 0, 1) := by decide +kernel
theorem dX8_meanEvidence_1 : decode cX8_meanEvidence 1 = .ok (.iconst 0, 1) := by decide +kernel
theorem dX8_meanEvidence_2 : decode cX8_meanEvidence 2 = .ok (.putfield 84, 3) := by decide +kernel
theorem dX8_meanEvidence_5 : decode cX8_meanEvidence 5 = .ok (.iconst 0, 1) := by decide +kernel
theorem dX8_meanEvidence_6 : decode cX8_meanEvidence 6 = .ok (.istore_n 1, 1) := by decide +kernel
theorem dX8_meanEvidence_7 : decode cX8_meanEvidence 7 = .ok (.iconst 0, 1) := by decide +kernel
theorem dX8_meanEvidence_8 : decode cX8_meanEvidence 8 = .ok (.istore_n 2, 1) := by decide +kernel
theorem dX8_meanEvidence_9 : decode cX8_meanEvidence 9 = .ok (.iconst 0, 1) := by decide +kernel
theorem dX8_meanEvidence_10 : decode cX8_meanEvidence 10 = .ok (.istore_n 3, 1) := by decide +kernel
theorem dX8_meanEvidence_11 : decode cX8_meanEvidence 11 = .ok (.iload_n 3, 1) := by decide +kernel
theorem dX8_meanEvidence_12 : decode cX8_meanEvidence 12 = .ok (.aload_n 0, 1) := by decide +kernel
theorem dX8_meanEvidence_13 : decode cX8_meanEvidence 13 = .ok (.getfield 97, 3) := by decide +kernel
theorem dX8_meanEvidence_16 : decode cX8_meanEvidence 16 = .ok (.if_icmp .ge 34, 3) := by decide +kernel
theorem dX8_meanEvidence_19 : decode cX8_meanEvidence 19 = .ok (.aload_n 0, 1) := by decide +kernel
theorem dX8_meanEvidence_20 : decode cX8_meanEvidence 20 = .ok (.iload_n 3, 1) := by decide +kernel
theorem dX8_meanEvidence_21 : decode cX8_meanEvidence 21 = .ok (.bipush 103, 2) := by decide +kernel
theorem dX8_meanEvidence_23 : decode cX8_meanEvidence 23 = .ok (.invokevirtual 133, 3) := by decide +kernel
theorem dX8_meanEvidence_26 : decode cX8_meanEvidence 26 = .ok (.ifCond .ne 6, 3) := by decide +kernel
theorem dX8_meanEvidence_29 : decode cX8_meanEvidence 29 = .ok (.goto 15, 3) := by decide +kernel
theorem dX8_meanEvidence_32 : decode cX8_meanEvidence 32 = .ok (.iinc 1 1, 3) := by decide +kernel
theorem dX8_meanEvidence_35 : decode cX8_meanEvidence 35 = .ok (.iload_n 2, 1) := by decide +kernel
theorem dX8_meanEvidence_36 : decode cX8_meanEvidence 36 = .ok (.aload_n 0, 1) := by decide +kernel
theorem dX8_meanEvidence_37 : decode cX8_meanEvidence 37 = .ok (.getfield 51, 3) := by decide +kernel
theorem dX8_meanEvidence_40 : decode cX8_meanEvidence 40 = .ok (.iload_n 3, 1) := by decide +kernel
theorem dX8_meanEvidence_41 : decode cX8_meanEvidence 41 = .ok (.iaload, 1) := by decide +kernel
theorem dX8_meanEvidence_42 : decode cX8_meanEvidence 42 = .ok (.iadd, 1) := by decide +kernel
theorem dX8_meanEvidence_43 : decode cX8_meanEvidence 43 = .ok (.istore_n 2, 1) := by decide +kernel
theorem dX8_meanEvidence_44 : decode cX8_meanEvidence 44 = .ok (.iinc 3 1, 3) := by decide +kernel
theorem dX8_meanEvidence_47 : decode cX8_meanEvidence 47 = .ok (.goto (-36), 3) := by decide +kernel
theorem dX8_meanEvidence_50 : decode cX8_meanEvidence 50 = .ok (.iload_n 1, 1) := by decide +kernel
theorem dX8_meanEvidence_51 : decode cX8_meanEvidence 51 = .ok (.ifCond .ne 12, 3) := by decide +kernel
theorem dX8_meanEvidence_54 : decode cX8_meanEvidence 54 = .ok (.aload_n 0, 1) := by decide +kernel
theorem dX8_meanEvidence_55 : decode cX8_meanEvidence 55 = .ok (.iconst 1, 1) := by decide +kernel
theorem dX8_meanEvidence_56 : decode cX8_meanEvidence 56 = .ok (.invokevirtual 103, 3) := by decide +kernel
theorem dX8_meanEvidence_59 : decode cX8_meanEvidence 59 = .ok (.i2d, 1) := by decide +kernel
theorem dX8_meanEvidence_60 : decode cX8_meanEvidence 60 = .ok (.goto 8, 3) := by decide +kernel
theorem dX8_meanEvidence_63 : decode cX8_meanEvidence 63 = .ok (.iload_n 2, 1) := by decide +kernel
theorem dX8_meanEvidence_64 : decode cX8_meanEvidence 64 = .ok (.i2d, 1) := by decide +kernel
theorem dX8_meanEvidence_65 : decode cX8_meanEvidence 65 = .ok (.iload_n 1, 1) := by decide +kernel
theorem dX8_meanEvidence_66 : decode cX8_meanEvidence 66 = .ok (.i2d, 1) := by decide +kernel
theorem dX8_meanEvidence_67 : decode cX8_meanEvidence 67 = .ok (.ddiv, 1) := by decide +kernel
theorem dX8_meanEvidence_68 : decode cX8_meanEvidence 68 = .ok (.dreturn, 1) := by decide +kernel
theorem dX8_reversedShare_0 : decode cX8_reversedShare 0 = .ok (.aload_n 0, 1) := by decide +kernel
theorem dX8_reversedShare_1 : decode cX8_reversedShare 1 = .ok (.iconst 0, 1) := by decide +kernel
theorem dX8_reversedShare_2 : decode cX8_reversedShare 2 = .ok (.putfield 84, 3) := by decide +kernel
theorem dX8_reversedShare_5 : decode cX8_reversedShare 5 = .ok (.aload_n 0, 1) := by decide +kernel
theorem dX8_reversedShare_6 : decode cX8_reversedShare 6 = .ok (.getfield 172, 3) := by decide +kernel
theorem dX8_reversedShare_9 : decode cX8_reversedShare 9 = .ok (.ifCond .ne 12, 3) := by decide +kernel
theorem dX8_reversedShare_12 : decode cX8_reversedShare 12 = .ok (.aload_n 0, 1) := by decide +kernel
theorem dX8_reversedShare_13 : decode cX8_reversedShare 13 = .ok (.iconst 1, 1) := by decide +kernel
theorem dX8_reversedShare_14 : decode cX8_reversedShare 14 = .ok (.invokevirtual 103, 3) := by decide +kernel
theorem dX8_reversedShare_17 : decode cX8_reversedShare 17 = .ok (.i2f, 1) := by decide +kernel
theorem dX8_reversedShare_18 : decode cX8_reversedShare 18 = .ok (.goto 14, 3) := by decide +kernel
theorem dX8_reversedShare_21 : decode cX8_reversedShare 21 = .ok (.aload_n 0, 1) := by decide +kernel
theorem dX8_reversedShare_22 : decode cX8_reversedShare 22 = .ok (.getfield 175, 3) := by decide +kernel
theorem dX8_reversedShare_25 : decode cX8_reversedShare 25 = .ok (.i2f, 1) := by decide +kernel
theorem dX8_reversedShare_26 : decode cX8_reversedShare 26 = .ok (.aload_n 0, 1) := by decide +kernel
theorem dX8_reversedShare_27 : decode cX8_reversedShare 27 = .ok (.getfield 172, 3) := by decide +kernel
theorem dX8_reversedShare_30 : decode cX8_reversedShare 30 = .ok (.i2f, 1) := by decide +kernel
theorem dX8_reversedShare_31 : decode cX8_reversedShare 31 = .ok (.fdiv, 1) := by decide +kernel
theorem dX8_reversedShare_32 : decode cX8_reversedShare 32 = .ok (.freturn, 1) := by decide +kernel
theorem dX8_sanctionDays_0 : decode cX8_sanctionDays 0 = .ok (.aload_n 0, 1) := by decide +kernel
theorem dX8_sanctionDays_1 : decode cX8_sanctionDays 1 = .ok (.iconst 0, 1) := by decide +kernel
theorem dX8_sanctionDays_2 : decode cX8_sanctionDays 2 = .ok (.putfield 84, 3) := by decide +kernel
theorem dX8_sanctionDays_5 : decode cX8_sanctionDays 5 = .ok (.aload_n 0, 1) := by decide +kernel
theorem dX8_sanctionDays_6 : decode cX8_sanctionDays 6 = .ok (.getfield 191, 3) := by decide +kernel
theorem dX8_sanctionDays_9 : decode cX8_sanctionDays 9 = .ok (.lreturn, 1) := by decide +kernel
theorem dX8_isConsistent_0 : decode cX8_isConsistent 0 = .ok (.aload_n 0, 1) := by decide +kernel
theorem dX8_isConsistent_1 : decode cX8_isConsistent 1 = .ok (.iconst 0, 1) := by decide +kernel
theorem dX8_isConsistent_2 : decode cX8_isConsistent 2 = .ok (.putfield 84, 3) := by decide +kernel
theorem dX8_isConsistent_5 : decode cX8_isConsistent 5 = .ok (.iconst 1, 1) := by decide +kernel
theorem dX8_isConsistent_6 : decode cX8_isConsistent 6 = .ok (.ireturn, 1) := by decide +kernel
end
section
theorem dL_addRule_0 : decode cL_addRule 0 = .ok (.aload 6, 2) := by decide +kernel
theorem dL_addRule_2 : decode cL_addRule 2 = .ok (.iconst 0, 1) := by decide +kernel
theorem dL_addRule_3 : decode cL_addRule 3 = .ok (.aload_n 0, 1) := by decide +kernel
theorem dL_addRule_4 : decode cL_addRule 4 = .ok (.iload_n 1, 1) := by decide +kernel
theorem dL_addRule_5 : decode cL_addRule 5 = .ok (.iload_n 2, 1) := by decide +kernel
theorem dL_addRule_6 : decode cL_addRule 6 = .ok (.iload_n 3, 1) := by decide +kernel
theorem dL_addRule_7 : decode cL_addRule 7 = .ok (.iload 4, 2) := by decide +kernel
theorem dL_addRule_9 : decode cL_addRule 9 = .ok (.iload 5, 2) := by decide +kernel
theorem dL_addRule_11 : decode cL_addRule 11 = .ok (.invokevirtual 7, 3) := by decide +kernel
theorem dL_addRule_14 : decode cL_addRule 14 = .ok (.i2l, 1) := by decide +kernel
theorem dL_addRule_15 : decode cL_addRule 15 = .ok (.lastore, 1) := by decide +kernel
theorem dL_addRule_16 : decode cL_addRule 16 = .ok (.goto 11, 3) := by decide +kernel
theorem dL_addRule_19 : decode cL_addRule 19 = .ok (.astore 7, 2) := by decide +kernel
theorem dL_addRule_21 : decode cL_addRule 21 = .ok (.iconst 1, 1) := by decide +kernel
theorem dL_addRule_22 : decode cL_addRule 22 = .ok (.ireturn, 1) := by decide +kernel
theorem dL_addRule_23 : decode cL_addRule 23 = .ok (.astore 7, 2) := by decide +kernel
theorem dL_addRule_25 : decode cL_addRule 25 = .ok (.iconst 2, 1) := by decide +kernel
theorem dL_addRule_26 : decode cL_addRule 26 = .ok (.ireturn, 1) := by decide +kernel
theorem dL_addRule_27 : decode cL_addRule 27 = .ok (.iconst 0, 1) := by decide +kernel
theorem dL_addRule_28 : decode cL_addRule 28 = .ok (.ireturn, 1) := by decide +kernel
theorem dL_repeal_0 : decode cL_repeal 0 = .ok (.aload_n 3, 1) := by decide +kernel
theorem dL_repeal_1 : decode cL_repeal 1 = .ok (.iconst 0, 1) := by decide +kernel
theorem dL_repeal_2 : decode cL_repeal 2 = .ok (.aload_n 0, 1) := by decide +kernel
theorem dL_repeal_3 : decode cL_repeal 3 = .ok (.iload_n 1, 1) := by decide +kernel
theorem dL_repeal_4 : decode cL_repeal 4 = .ok (.iload_n 2, 1) := by decide +kernel
theorem dL_repeal_5 : decode cL_repeal 5 = .ok (.invokevirtual 17, 3) := by decide +kernel
theorem dL_repeal_8 : decode cL_repeal 8 = .ok (.i2l, 1) := by decide +kernel
theorem dL_repeal_9 : decode cL_repeal 9 = .ok (.lastore, 1) := by decide +kernel
theorem dL_repeal_10 : decode cL_repeal 10 = .ok (.goto 15, 3) := by decide +kernel
theorem dL_repeal_13 : decode cL_repeal 13 = .ok (.astore 4, 2) := by decide +kernel
theorem dL_repeal_15 : decode cL_repeal 15 = .ok (.iconst 1, 1) := by decide +kernel
theorem dL_repeal_16 : decode cL_repeal 16 = .ok (.ireturn, 1) := by decide +kernel
theorem dL_repeal_17 : decode cL_repeal 17 = .ok (.astore 4, 2) := by decide +kernel
theorem dL_repeal_19 : decode cL_repeal 19 = .ok (.iconst 2, 1) := by decide +kernel
theorem dL_repeal_20 : decode cL_repeal 20 = .ok (.ireturn, 1) := by decide +kernel
theorem dL_repeal_21 : decode cL_repeal 21 = .ok (.astore 4, 2) := by decide +kernel
theorem dL_repeal_23 : decode cL_repeal 23 = .ok (.iconst 3, 1) := by decide +kernel
theorem dL_repeal_24 : decode cL_repeal 24 = .ok (.ireturn, 1) := by decide +kernel
theorem dL_repeal_25 : decode cL_repeal 25 = .ok (.iconst 0, 1) := by decide +kernel
theorem dL_repeal_26 : decode cL_repeal 26 = .ok (.ireturn, 1) := by decide +kernel
theorem dL_isInForce_0 : decode cL_isInForce 0 = .ok (.aload_n 3, 1) := by decide +kernel
theorem dL_isInForce_1 : decode cL_isInForce 1 = .ok (.iconst 0, 1) := by decide +kernel
theorem dL_isInForce_2 : decode cL_isInForce 2 = .ok (.aload_n 0, 1) := by decide +kernel
theorem dL_isInForce_3 : decode cL_isInForce 3 = .ok (.iload_n 1, 1) := by decide +kernel
theorem dL_isInForce_4 : decode cL_isInForce 4 = .ok (.iload_n 2, 1) := by decide +kernel
theorem dL_isInForce_5 : decode cL_isInForce 5 = .ok (.invokevirtual 23, 3) := by decide +kernel
theorem dL_isInForce_8 : decode cL_isInForce 8 = .ok (.ifCond .eq 7, 3) := by decide +kernel
theorem dL_isInForce_11 : decode cL_isInForce 11 = .ok (.lconst 1, 1) := by decide +kernel
theorem dL_isInForce_12 : decode cL_isInForce 12 = .ok (.goto 4, 3) := by decide +kernel
theorem dL_isInForce_15 : decode cL_isInForce 15 = .ok (.lconst 0, 1) := by decide +kernel
theorem dL_isInForce_16 : decode cL_isInForce 16 = .ok (.lastore, 1) := by decide +kernel
theorem dL_isInForce_17 : decode cL_isInForce 17 = .ok (.goto 11, 3) := by decide +kernel
theorem dL_isInForce_20 : decode cL_isInForce 20 = .ok (.astore 4, 2) := by decide +kernel
theorem dL_isInForce_22 : decode cL_isInForce 22 = .ok (.iconst 1, 1) := by decide +kernel
theorem dL_isInForce_23 : decode cL_isInForce 23 = .ok (.ireturn, 1) := by decide +kernel
theorem dL_isInForce_24 : decode cL_isInForce 24 = .ok (.astore 4, 2) := by decide +kernel
theorem dL_isInForce_26 : decode cL_isInForce 26 = .ok (.iconst 2, 1) := by decide +kernel
theorem dL_isInForce_27 : decode cL_isInForce 27 = .ok (.ireturn, 1) := by decide +kernel
theorem dL_isInForce_28 : decode cL_isInForce 28 = .ok (.iconst 0, 1) := by decide +kernel
theorem dL_isInForce_29 : decode cL_isInForce 29 = .ok (.ireturn, 1) := by decide +kernel
theorem dL_applying_0 : decode cL_applying 0 = .ok (.aload_n 2, 1) := by decide +kernel
theorem dL_applying_1 : decode cL_applying 1 = .ok (.iconst 0, 1) := by decide +kernel
theorem dL_applying_2 : decode cL_applying 2 = .ok (.aload_n 0, 1) := by decide +kernel
theorem dL_applying_3 : decode cL_applying 3 = .ok (.iload_n 1, 1) := by decide +kernel
theorem dL_applying_4 : decode cL_applying 4 = .ok (.invokevirtual 27, 3) := by decide +kernel
theorem dL_applying_7 : decode cL_applying 7 = .ok (.i2l, 1) := by decide +kernel
theorem dL_applying_8 : decode cL_applying 8 = .ok (.lastore, 1) := by decide +kernel
theorem dL_applying_9 : decode cL_applying 9 = .ok (.goto 9, 3) := by decide +kernel
theorem dL_applying_12 : decode cL_applying 12 = .ok (.astore_n 3, 1) := by decide +kernel
theorem dL_applying_13 : decode cL_applying 13 = .ok (.iconst 1, 1) := by decide +kernel
theorem dL_applying_14 : decode cL_applying 14 = .ok (.ireturn, 1) := by decide +kernel
theorem dL_applying_15 : decode cL_applying 15 = .ok (.astore_n 3, 1) := by decide +kernel
theorem dL_applying_16 : decode cL_applying 16 = .ok (.iconst 2, 1) := by decide +kernel
theorem dL_applying_17 : decode cL_applying 17 = .ok (.ireturn, 1) := by decide +kernel
theorem dL_applying_18 : decode cL_applying 18 = .ok (.iconst 0, 1) := by decide +kernel
theorem dL_applying_19 : decode cL_applying 19 = .ok (.ireturn, 1) := by decide +kernel
theorem dL_conflicts_0 : decode cL_conflicts 0 = .ok (.aload_n 2, 1) := by decide +kernel
theorem dL_conflicts_1 : decode cL_conflicts 1 = .ok (.iconst 0, 1) := by decide +kernel
theorem dL_conflicts_2 : decode cL_conflicts 2 = .ok (.aload_n 0, 1) := by decide +kernel
theorem dL_conflicts_3 : decode cL_conflicts 3 = .ok (.iload_n 1, 1) := by decide +kernel
theorem dL_conflicts_4 : decode cL_conflicts 4 = .ok (.invokevirtual 33, 3) := by decide +kernel
theorem dL_conflicts_7 : decode cL_conflicts 7 = .ok (.i2l, 1) := by decide +kernel
theorem dL_conflicts_8 : decode cL_conflicts 8 = .ok (.lastore, 1) := by decide +kernel
theorem dL_conflicts_9 : decode cL_conflicts 9 = .ok (.goto 6, 3) := by decide +kernel
theorem dL_conflicts_12 : decode cL_conflicts 12 = .ok (.astore_n 3, 1) := by decide +kernel
theorem dL_conflicts_13 : decode cL_conflicts 13 = .ok (.iconst 1, 1) := by decide +kernel
theorem dL_conflicts_14 : decode cL_conflicts 14 = .ok (.ireturn, 1) := by decide +kernel
theorem dL_conflicts_15 : decode cL_conflicts 15 = .ok (.iconst 0, 1) := by decide +kernel
theorem dL_conflicts_16 : decode cL_conflicts 16 = .ok (.ireturn, 1) := by decide +kernel
theorem dL_addUser_0 : decode cL_addUser 0 = .ok (.aload_n 2, 1) := by decide +kernel
theorem dL_addUser_1 : decode cL_addUser 1 = .ok (.iconst 0, 1) := by decide +kernel
theorem dL_addUser_2 : decode cL_addUser 2 = .ok (.aload_n 0, 1) := by decide +kernel
theorem dL_addUser_3 : decode cL_addUser 3 = .ok (.iload_n 1, 1) := by decide +kernel
theorem dL_addUser_4 : decode cL_addUser 4 = .ok (.invokevirtual 36, 3) := by decide +kernel
theorem dL_addUser_7 : decode cL_addUser 7 = .ok (.i2l, 1) := by decide +kernel
theorem dL_addUser_8 : decode cL_addUser 8 = .ok (.lastore, 1) := by decide +kernel
theorem dL_addUser_9 : decode cL_addUser 9 = .ok (.goto 9, 3) := by decide +kernel
theorem dL_addUser_12 : decode cL_addUser 12 = .ok (.astore_n 3, 1) := by decide +kernel
theorem dL_addUser_13 : decode cL_addUser 13 = .ok (.iconst 1, 1) := by decide +kernel
theorem dL_addUser_14 : decode cL_addUser 14 = .ok (.ireturn, 1) := by decide +kernel
theorem dL_addUser_15 : decode cL_addUser 15 = .ok (.astore_n 3, 1) := by decide +kernel
theorem dL_addUser_16 : decode cL_addUser 16 = .ok (.iconst 2, 1) := by decide +kernel
theorem dL_addUser_17 : decode cL_addUser 17 = .ok (.ireturn, 1) := by decide +kernel
theorem dL_addUser_18 : decode cL_addUser 18 = .ok (.iconst 0, 1) := by decide +kernel
theorem dL_addUser_19 : decode cL_addUser 19 = .ok (.ireturn, 1) := by decide +kernel
theorem dL_setWeight_0 : decode cL_setWeight 0 = .ok (.aload_n 3, 1) := by decide +kernel
theorem dL_setWeight_1 : decode cL_setWeight 1 = .ok (.iconst 0, 1) := by decide +kernel
theorem dL_setWeight_2 : decode cL_setWeight 2 = .ok (.aload_n 0, 1) := by decide +kernel
theorem dL_setWeight_3 : decode cL_setWeight 3 = .ok (.iload_n 1, 1) := by decide +kernel
theorem dL_setWeight_4 : decode cL_setWeight 4 = .ok (.iload_n 2, 1) := by decide +kernel
theorem dL_setWeight_5 : decode cL_setWeight 5 = .ok (.invokevirtual 39, 3) := by decide +kernel
theorem dL_setWeight_8 : decode cL_setWeight 8 = .ok (.i2l, 1) := by decide +kernel
theorem dL_setWeight_9 : decode cL_setWeight 9 = .ok (.lastore, 1) := by decide +kernel
theorem dL_setWeight_10 : decode cL_setWeight 10 = .ok (.goto 11, 3) := by decide +kernel
theorem dL_setWeight_13 : decode cL_setWeight 13 = .ok (.astore 4, 2) := by decide +kernel
theorem dL_setWeight_15 : decode cL_setWeight 15 = .ok (.iconst 1, 1) := by decide +kernel
theorem dL_setWeight_16 : decode cL_setWeight 16 = .ok (.ireturn, 1) := by decide +kernel
theorem dL_setWeight_17 : decode cL_setWeight 17 = .ok (.astore 4, 2) := by decide +kernel
theorem dL_setWeight_19 : decode cL_setWeight 19 = .ok (.iconst 2, 1) := by decide +kernel
theorem dL_setWeight_20 : decode cL_setWeight 20 = .ok (.ireturn, 1) := by decide +kernel
theorem dL_setWeight_21 : decode cL_setWeight 21 = .ok (.iconst 0, 1) := by decide +kernel
theorem dL_setWeight_22 : decode cL_setWeight 22 = .ok (.ireturn, 1) := by decide +kernel
theorem dL_sanctions_0 : decode cL_sanctions 0 = .ok (.aload_n 2, 1) := by decide +kernel
theorem dL_sanctions_1 : decode cL_sanctions 1 = .ok (.iconst 0, 1) := by decide +kernel
theorem dL_sanctions_2 : decode cL_sanctions 2 = .ok (.aload_n 0, 1) := by decide +kernel
theorem dL_sanctions_3 : decode cL_sanctions 3 = .ok (.iload_n 1, 1) := by decide +kernel
theorem dL_sanctions_4 : decode cL_sanctions 4 = .ok (.invokevirtual 42, 3) := by decide +kernel
theorem dL_sanctions_7 : decode cL_sanctions 7 = .ok (.i2l, 1) := by decide +kernel
theorem dL_sanctions_8 : decode cL_sanctions 8 = .ok (.lastore, 1) := by decide +kernel
theorem dL_sanctions_9 : decode cL_sanctions 9 = .ok (.goto 6, 3) := by decide +kernel
theorem dL_sanctions_12 : decode cL_sanctions 12 = .ok (.astore_n 3, 1) := by decide +kernel
theorem dL_sanctions_13 : decode cL_sanctions 13 = .ok (.iconst 1, 1) := by decide +kernel
theorem dL_sanctions_14 : decode cL_sanctions 14 = .ok (.ireturn, 1) := by decide +kernel
theorem dL_sanctions_15 : decode cL_sanctions 15 = .ok (.iconst 0, 1) := by decide +kernel
theorem dL_sanctions_16 : decode cL_sanctions 16 = .ok (.ireturn, 1) := by decide +kernel
theorem dL_sanctionedUntil_0 : decode cL_sanctionedUntil 0 = .ok (.aload_n 2, 1) := by decide +kernel
theorem dL_sanctionedUntil_1 : decode cL_sanctionedUntil 1 = .ok (.iconst 0, 1) := by decide +kernel
theorem dL_sanctionedUntil_2 : decode cL_sanctionedUntil 2 = .ok (.aload_n 0, 1) := by decide +kernel
theorem dL_sanctionedUntil_3 : decode cL_sanctionedUntil 3 = .ok (.iload_n 1, 1) := by decide +kernel
theorem dL_sanctionedUntil_4 : decode cL_sanctionedUntil 4 = .ok (.invokevirtual 45, 3) := by decide +kernel
theorem dL_sanctionedUntil_7 : decode cL_sanctionedUntil 7 = .ok (.i2l, 1) := by decide +kernel
theorem dL_sanctionedUntil_8 : decode cL_sanctionedUntil 8 = .ok (.lastore, 1) := by decide +kernel
theorem dL_sanctionedUntil_9 : decode cL_sanctionedUntil 9 = .ok (.goto 9, 3) := by decide +kernel
theorem dL_sanctionedUntil_12 : decode cL_sanctionedUntil 12 = .ok (.astore_n 3, 1) := by decide +kernel
theorem dL_sanctionedUntil_13 : decode cL_sanctionedUntil 13 = .ok (.iconst 1, 1) := by decide +kernel
theorem dL_sanctionedUntil_14 : decode cL_sanctionedUntil 14 = .ok (.ireturn, 1) := by decide +kernel
theorem dL_sanctionedUntil_15 : decode cL_sanctionedUntil 15 = .ok (.astore_n 3, 1) := by decide +kernel
theorem dL_sanctionedUntil_16 : decode cL_sanctionedUntil 16 = .ok (.iconst 2, 1) := by decide +kernel
theorem dL_sanctionedUntil_17 : decode cL_sanctionedUntil 17 = .ok (.ireturn, 1) := by decide +kernel
theorem dL_sanctionedUntil_18 : decode cL_sanctionedUntil 18 = .ok (.iconst 0, 1) := by decide +kernel
theorem dL_sanctionedUntil_19 : decode cL_sanctionedUntil 19 = .ok (.ireturn, 1) := by decide +kernel
theorem dL_addBot_0 : decode cL_addBot 0 = .ok (.aload_n 3, 1) := by decide +kernel
theorem dL_addBot_1 : decode cL_addBot 1 = .ok (.iconst 0, 1) := by decide +kernel
theorem dL_addBot_2 : decode cL_addBot 2 = .ok (.aload_n 0, 1) := by decide +kernel
theorem dL_addBot_3 : decode cL_addBot 3 = .ok (.iload_n 1, 1) := by decide +kernel
theorem dL_addBot_4 : decode cL_addBot 4 = .ok (.iload_n 2, 1) := by decide +kernel
theorem dL_addBot_5 : decode cL_addBot 5 = .ok (.invokevirtual 48, 3) := by decide +kernel
theorem dL_addBot_8 : decode cL_addBot 8 = .ok (.i2l, 1) := by decide +kernel
theorem dL_addBot_9 : decode cL_addBot 9 = .ok (.lastore, 1) := by decide +kernel
theorem dL_addBot_10 : decode cL_addBot 10 = .ok (.goto 11, 3) := by decide +kernel
theorem dL_addBot_13 : decode cL_addBot 13 = .ok (.astore 4, 2) := by decide +kernel
theorem dL_addBot_15 : decode cL_addBot 15 = .ok (.iconst 1, 1) := by decide +kernel
theorem dL_addBot_16 : decode cL_addBot 16 = .ok (.ireturn, 1) := by decide +kernel
theorem dL_addBot_17 : decode cL_addBot 17 = .ok (.astore 4, 2) := by decide +kernel
theorem dL_addBot_19 : decode cL_addBot 19 = .ok (.iconst 2, 1) := by decide +kernel
theorem dL_addBot_20 : decode cL_addBot 20 = .ok (.ireturn, 1) := by decide +kernel
theorem dL_addBot_21 : decode cL_addBot 21 = .ok (.iconst 0, 1) := by decide +kernel
theorem dL_addBot_22 : decode cL_addBot 22 = .ok (.ireturn, 1) := by decide +kernel
theorem dL_threshold_0 : decode cL_threshold 0 = .ok (.aload_n 2, 1) := by decide +kernel
theorem dL_threshold_1 : decode cL_threshold 1 = .ok (.iconst 0, 1) := by decide +kernel
theorem dL_threshold_2 : decode cL_threshold 2 = .ok (.aload_n 0, 1) := by decide +kernel
theorem dL_threshold_3 : decode cL_threshold 3 = .ok (.iload_n 1, 1) := by decide +kernel
theorem dL_threshold_4 : decode cL_threshold 4 = .ok (.invokevirtual 51, 3) := by decide +kernel
theorem dL_threshold_7 : decode cL_threshold 7 = .ok (.i2l, 1) := by decide +kernel
theorem dL_threshold_8 : decode cL_threshold 8 = .ok (.lastore, 1) := by decide +kernel
theorem dL_threshold_9 : decode cL_threshold 9 = .ok (.goto 6, 3) := by decide +kernel
theorem dL_threshold_12 : decode cL_threshold 12 = .ok (.astore_n 3, 1) := by decide +kernel
theorem dL_threshold_13 : decode cL_threshold 13 = .ok (.iconst 1, 1) := by decide +kernel
theorem dL_threshold_14 : decode cL_threshold 14 = .ok (.ireturn, 1) := by decide +kernel
theorem dL_threshold_15 : decode cL_threshold 15 = .ok (.iconst 0, 1) := by decide +kernel
theorem dL_threshold_16 : decode cL_threshold 16 = .ok (.ireturn, 1) := by decide +kernel
theorem dL_file_0 : decode cL_file 0 = .ok (.aload 5, 2) := by decide +kernel
theorem dL_file_2 : decode cL_file 2 = .ok (.iconst 0, 1) := by decide +kernel
theorem dL_file_3 : decode cL_file 3 = .ok (.aload_n 0, 1) := by decide +kernel
theorem dL_file_4 : decode cL_file 4 = .ok (.iload_n 1, 1) := by decide +kernel
theorem dL_file_5 : decode cL_file 5 = .ok (.iload_n 2, 1) := by decide +kernel
theorem dL_file_6 : decode cL_file 6 = .ok (.iload_n 3, 1) := by decide +kernel
theorem dL_file_7 : decode cL_file 7 = .ok (.iload 4, 2) := by decide +kernel
theorem dL_file_9 : decode cL_file 9 = .ok (.invokevirtual 54, 3) := by decide +kernel
theorem dL_file_12 : decode cL_file 12 = .ok (.i2l, 1) := by decide +kernel
theorem dL_file_13 : decode cL_file 13 = .ok (.lastore, 1) := by decide +kernel
theorem dL_file_14 : decode cL_file 14 = .ok (.goto 15, 3) := by decide +kernel
theorem dL_file_17 : decode cL_file 17 = .ok (.astore 6, 2) := by decide +kernel
theorem dL_file_19 : decode cL_file 19 = .ok (.iconst 1, 1) := by decide +kernel
theorem dL_file_20 : decode cL_file 20 = .ok (.ireturn, 1) := by decide +kernel
theorem dL_file_21 : decode cL_file 21 = .ok (.astore 6, 2) := by decide +kernel
theorem dL_file_23 : decode cL_file 23 = .ok (.iconst 2, 1) := by decide +kernel
theorem dL_file_24 : decode cL_file 24 = .ok (.ireturn, 1) := by decide +kernel
theorem dL_file_25 : decode cL_file 25 = .ok (.astore 6, 2) := by decide +kernel
theorem dL_file_27 : decode cL_file 27 = .ok (.iconst 3, 1) := by decide +kernel
theorem dL_file_28 : decode cL_file 28 = .ok (.ireturn, 1) := by decide +kernel
theorem dL_file_29 : decode cL_file 29 = .ok (.iconst 0, 1) := by decide +kernel
theorem dL_file_30 : decode cL_file 30 = .ok (.ireturn, 1) := by decide +kernel
theorem dL_state_0 : decode cL_state 0 = .ok (.aload_n 2, 1) := by decide +kernel
theorem dL_state_1 : decode cL_state 1 = .ok (.iconst 0, 1) := by decide +kernel
theorem dL_state_2 : decode cL_state 2 = .ok (.aload_n 0, 1) := by decide +kernel
theorem dL_state_3 : decode cL_state 3 = .ok (.iload_n 1, 1) := by decide +kernel
theorem dL_state_4 : decode cL_state 4 = .ok (.invokevirtual 58, 3) := by decide +kernel
theorem dL_state_7 : decode cL_state 7 = .ok (.i2l, 1) := by decide +kernel
theorem dL_state_8 : decode cL_state 8 = .ok (.lastore, 1) := by decide +kernel
theorem dL_state_9 : decode cL_state 9 = .ok (.goto 6, 3) := by decide +kernel
theorem dL_state_12 : decode cL_state 12 = .ok (.astore_n 3, 1) := by decide +kernel
theorem dL_state_13 : decode cL_state 13 = .ok (.iconst 1, 1) := by decide +kernel
theorem dL_state_14 : decode cL_state 14 = .ok (.ireturn, 1) := by decide +kernel
theorem dL_state_15 : decode cL_state 15 = .ok (.iconst 0, 1) := by decide +kernel
theorem dL_state_16 : decode cL_state 16 = .ok (.ireturn, 1) := by decide +kernel
theorem dL_vote_0 : decode cL_vote 0 = .ok (.aload 4, 2) := by decide +kernel
theorem dL_vote_2 : decode cL_vote 2 = .ok (.iconst 0, 1) := by decide +kernel
theorem dL_vote_3 : decode cL_vote 3 = .ok (.aload_n 0, 1) := by decide +kernel
theorem dL_vote_4 : decode cL_vote 4 = .ok (.iload_n 1, 1) := by decide +kernel
theorem dL_vote_5 : decode cL_vote 5 = .ok (.iload_n 2, 1) := by decide +kernel
theorem dL_vote_6 : decode cL_vote 6 = .ok (.iload_n 3, 1) := by decide +kernel
theorem dL_vote_7 : decode cL_vote 7 = .ok (.invokevirtual 62, 3) := by decide +kernel
theorem dL_vote_10 : decode cL_vote 10 = .ok (.i2l, 1) := by decide +kernel
theorem dL_vote_11 : decode cL_vote 11 = .ok (.lastore, 1) := by decide +kernel
theorem dL_vote_12 : decode cL_vote 12 = .ok (.goto 15, 3) := by decide +kernel
theorem dL_vote_15 : decode cL_vote 15 = .ok (.astore 5, 2) := by decide +kernel
theorem dL_vote_17 : decode cL_vote 17 = .ok (.iconst 1, 1) := by decide +kernel
theorem dL_vote_18 : decode cL_vote 18 = .ok (.ireturn, 1) := by decide +kernel
theorem dL_vote_19 : decode cL_vote 19 = .ok (.astore 5, 2) := by decide +kernel
theorem dL_vote_21 : decode cL_vote 21 = .ok (.iconst 2, 1) := by decide +kernel
theorem dL_vote_22 : decode cL_vote 22 = .ok (.ireturn, 1) := by decide +kernel
theorem dL_vote_23 : decode cL_vote 23 = .ok (.astore 5, 2) := by decide +kernel
theorem dL_vote_25 : decode cL_vote 25 = .ok (.iconst 3, 1) := by decide +kernel
theorem dL_vote_26 : decode cL_vote 26 = .ok (.ireturn, 1) := by decide +kernel
theorem dL_vote_27 : decode cL_vote 27 = .ok (.iconst 0, 1) := by decide +kernel
theorem dL_vote_28 : decode cL_vote 28 = .ok (.ireturn, 1) := by decide +kernel
theorem dL_weightFor_0 : decode cL_weightFor 0 = .ok (.aload_n 2, 1) := by decide +kernel
theorem dL_weightFor_1 : decode cL_weightFor 1 = .ok (.iconst 0, 1) := by decide +kernel
theorem dL_weightFor_2 : decode cL_weightFor 2 = .ok (.aload_n 0, 1) := by decide +kernel
theorem dL_weightFor_3 : decode cL_weightFor 3 = .ok (.iload_n 1, 1) := by decide +kernel
theorem dL_weightFor_4 : decode cL_weightFor 4 = .ok (.invokevirtual 68, 3) := by decide +kernel
theorem dL_weightFor_7 : decode cL_weightFor 7 = .ok (.i2l, 1) := by decide +kernel
theorem dL_weightFor_8 : decode cL_weightFor 8 = .ok (.lastore, 1) := by decide +kernel
theorem dL_weightFor_9 : decode cL_weightFor 9 = .ok (.goto 6, 3) := by decide +kernel
theorem dL_weightFor_12 : decode cL_weightFor 12 = .ok (.astore_n 3, 1) := by decide +kernel
theorem dL_weightFor_13 : decode cL_weightFor 13 = .ok (.iconst 1, 1) := by decide +kernel
theorem dL_weightFor_14 : decode cL_weightFor 14 = .ok (.ireturn, 1) := by decide +kernel
theorem dL_weightFor_15 : decode cL_weightFor 15 = .ok (.iconst 0, 1) := by decide +kernel
theorem dL_weightFor_16 : decode cL_weightFor 16 = .ok (.ireturn, 1) := by decide +kernel
theorem dL_weightAgainst_0 : decode cL_weightAgainst 0 = .ok (.aload_n 2, 1) := by decide +kernel
theorem dL_weightAgainst_1 : decode cL_weightAgainst 1 = .ok (.iconst 0, 1) := by decide +kernel
theorem dL_weightAgainst_2 : decode cL_weightAgainst 2 = .ok (.aload_n 0, 1) := by decide +kernel
theorem dL_weightAgainst_3 : decode cL_weightAgainst 3 = .ok (.iload_n 1, 1) := by decide +kernel
theorem dL_weightAgainst_4 : decode cL_weightAgainst 4 = .ok (.invokevirtual 71, 3) := by decide +kernel
theorem dL_weightAgainst_7 : decode cL_weightAgainst 7 = .ok (.i2l, 1) := by decide +kernel
theorem dL_weightAgainst_8 : decode cL_weightAgainst 8 = .ok (.lastore, 1) := by decide +kernel
theorem dL_weightAgainst_9 : decode cL_weightAgainst 9 = .ok (.goto 6, 3) := by decide +kernel
theorem dL_weightAgainst_12 : decode cL_weightAgainst 12 = .ok (.astore_n 3, 1) := by decide +kernel
theorem dL_weightAgainst_13 : decode cL_weightAgainst 13 = .ok (.iconst 1, 1) := by decide +kernel
theorem dL_weightAgainst_14 : decode cL_weightAgainst 14 = .ok (.ireturn, 1) := by decide +kernel
theorem dL_weightAgainst_15 : decode cL_weightAgainst 15 = .ok (.iconst 0, 1) := by decide +kernel
theorem dL_weightAgainst_16 : decode cL_weightAgainst 16 = .ok (.ireturn, 1) := by decide +kernel
theorem dL_setQuorum_0 : decode cL_setQuorum 0 = .ok (.aload_n 2, 1) := by decide +kernel
theorem dL_setQuorum_1 : decode cL_setQuorum 1 = .ok (.iconst 0, 1) := by decide +kernel
theorem dL_setQuorum_2 : decode cL_setQuorum 2 = .ok (.aload_n 0, 1) := by decide +kernel
theorem dL_setQuorum_3 : decode cL_setQuorum 3 = .ok (.iload_n 1, 1) := by decide +kernel
theorem dL_setQuorum_4 : decode cL_setQuorum 4 = .ok (.invokevirtual 74, 3) := by decide +kernel
theorem dL_setQuorum_7 : decode cL_setQuorum 7 = .ok (.i2l, 1) := by decide +kernel
theorem dL_setQuorum_8 : decode cL_setQuorum 8 = .ok (.lastore, 1) := by decide +kernel
theorem dL_setQuorum_9 : decode cL_setQuorum 9 = .ok (.goto 6, 3) := by decide +kernel
theorem dL_setQuorum_12 : decode cL_setQuorum 12 = .ok (.astore_n 3, 1) := by decide +kernel
theorem dL_setQuorum_13 : decode cL_setQuorum 13 = .ok (.iconst 1, 1) := by decide +kernel
theorem dL_setQuorum_14 : decode cL_setQuorum 14 = .ok (.ireturn, 1) := by decide +kernel
theorem dL_setQuorum_15 : decode cL_setQuorum 15 = .ok (.iconst 0, 1) := by decide +kernel
theorem dL_setQuorum_16 : decode cL_setQuorum 16 = .ok (.ireturn, 1) := by decide +kernel
theorem dL_precedent_0 : decode cL_precedent 0 = .ok (.aload_n 2, 1) := by decide +kernel
theorem dL_precedent_1 : decode cL_precedent 1 = .ok (.iconst 0, 1) := by decide +kernel
theorem dL_precedent_2 : decode cL_precedent 2 = .ok (.aload_n 0, 1) := by decide +kernel
theorem dL_precedent_3 : decode cL_precedent 3 = .ok (.iload_n 1, 1) := by decide +kernel
theorem dL_precedent_4 : decode cL_precedent 4 = .ok (.invokevirtual 77, 3) := by decide +kernel
theorem dL_precedent_7 : decode cL_precedent 7 = .ok (.i2l, 1) := by decide +kernel
theorem dL_precedent_8 : decode cL_precedent 8 = .ok (.lastore, 1) := by decide +kernel
theorem dL_precedent_9 : decode cL_precedent 9 = .ok (.goto 9, 3) := by decide +kernel
theorem dL_precedent_12 : decode cL_precedent 12 = .ok (.astore_n 3, 1) := by decide +kernel
theorem dL_precedent_13 : decode cL_precedent 13 = .ok (.iconst 1, 1) := by decide +kernel
theorem dL_precedent_14 : decode cL_precedent 14 = .ok (.ireturn, 1) := by decide +kernel
theorem dL_precedent_15 : decode cL_precedent 15 = .ok (.astore_n 3, 1) := by decide +kernel
theorem dL_precedent_16 : decode cL_precedent 16 = .ok (.iconst 2, 1) := by decide +kernel
theorem dL_precedent_17 : decode cL_precedent 17 = .ok (.ireturn, 1) := by decide +kernel
theorem dL_precedent_18 : decode cL_precedent 18 = .ok (.iconst 0, 1) := by decide +kernel
theorem dL_precedent_19 : decode cL_precedent 19 = .ok (.ireturn, 1) := by decide +kernel
theorem dL_decide_0 : decode cL_decide 0 = .ok (.aload_n 2, 1) := by decide +kernel
theorem dL_decide_1 : decode cL_decide 1 = .ok (.iconst 0, 1) := by decide +kernel
theorem dL_decide_2 : decode cL_decide 2 = .ok (.aload_n 0, 1) := by decide +kernel
theorem dL_decide_3 : decode cL_decide 3 = .ok (.iload_n 1, 1) := by decide +kernel
theorem dL_decide_4 : decode cL_decide 4 = .ok (.invokevirtual 80, 3) := by decide +kernel
theorem dL_decide_7 : decode cL_decide 7 = .ok (.i2l, 1) := by decide +kernel
theorem dL_decide_8 : decode cL_decide 8 = .ok (.lastore, 1) := by decide +kernel
theorem dL_decide_9 : decode cL_decide 9 = .ok (.goto 12, 3) := by decide +kernel
theorem dL_decide_12 : decode cL_decide 12 = .ok (.astore_n 3, 1) := by decide +kernel
theorem dL_decide_13 : decode cL_decide 13 = .ok (.iconst 1, 1) := by decide +kernel
theorem dL_decide_14 : decode cL_decide 14 = .ok (.ireturn, 1) := by decide +kernel
theorem dL_decide_15 : decode cL_decide 15 = .ok (.astore_n 3, 1) := by decide +kernel
theorem dL_decide_16 : decode cL_decide 16 = .ok (.iconst 2, 1) := by decide +kernel
theorem dL_decide_17 : decode cL_decide 17 = .ok (.ireturn, 1) := by decide +kernel
theorem dL_decide_18 : decode cL_decide 18 = .ok (.astore_n 3, 1) := by decide +kernel
theorem dL_decide_19 : decode cL_decide 19 = .ok (.iconst 3, 1) := by decide +kernel
theorem dL_decide_20 : decode cL_decide 20 = .ok (.ireturn, 1) := by decide +kernel
theorem dL_decide_21 : decode cL_decide 21 = .ok (.iconst 0, 1) := by decide +kernel
theorem dL_decide_22 : decode cL_decide 22 = .ok (.ireturn, 1) := by decide +kernel
theorem dL_outcome_0 : decode cL_outcome 0 = .ok (.aload_n 2, 1) := by decide +kernel
theorem dL_outcome_1 : decode cL_outcome 1 = .ok (.iconst 0, 1) := by decide +kernel
theorem dL_outcome_2 : decode cL_outcome 2 = .ok (.aload_n 0, 1) := by decide +kernel
theorem dL_outcome_3 : decode cL_outcome 3 = .ok (.iload_n 1, 1) := by decide +kernel
theorem dL_outcome_4 : decode cL_outcome 4 = .ok (.invokevirtual 83, 3) := by decide +kernel
theorem dL_outcome_7 : decode cL_outcome 7 = .ok (.i2l, 1) := by decide +kernel
theorem dL_outcome_8 : decode cL_outcome 8 = .ok (.lastore, 1) := by decide +kernel
theorem dL_outcome_9 : decode cL_outcome 9 = .ok (.goto 9, 3) := by decide +kernel
theorem dL_outcome_12 : decode cL_outcome 12 = .ok (.astore_n 3, 1) := by decide +kernel
theorem dL_outcome_13 : decode cL_outcome 13 = .ok (.iconst 1, 1) := by decide +kernel
theorem dL_outcome_14 : decode cL_outcome 14 = .ok (.ireturn, 1) := by decide +kernel
theorem dL_outcome_15 : decode cL_outcome 15 = .ok (.astore_n 3, 1) := by decide +kernel
theorem dL_outcome_16 : decode cL_outcome 16 = .ok (.iconst 2, 1) := by decide +kernel
theorem dL_outcome_17 : decode cL_outcome 17 = .ok (.ireturn, 1) := by decide +kernel
theorem dL_outcome_18 : decode cL_outcome 18 = .ok (.iconst 0, 1) := by decide +kernel
theorem dL_outcome_19 : decode cL_outcome 19 = .ok (.ireturn, 1) := by decide +kernel
theorem dL_outcomeAnew_0 : decode cL_outcomeAnew 0 = .ok (.aload_n 2, 1) := by decide +kernel
theorem dL_outcomeAnew_1 : decode cL_outcomeAnew 1 = .ok (.iconst 0, 1) := by decide +kernel
theorem dL_outcomeAnew_2 : decode cL_outcomeAnew 2 = .ok (.aload_n 0, 1) := by decide +kernel
theorem dL_outcomeAnew_3 : decode cL_outcomeAnew 3 = .ok (.iload_n 1, 1) := by decide +kernel
theorem dL_outcomeAnew_4 : decode cL_outcomeAnew 4 = .ok (.invokevirtual 86, 3) := by decide +kernel
theorem dL_outcomeAnew_7 : decode cL_outcomeAnew 7 = .ok (.i2l, 1) := by decide +kernel
theorem dL_outcomeAnew_8 : decode cL_outcomeAnew 8 = .ok (.lastore, 1) := by decide +kernel
theorem dL_outcomeAnew_9 : decode cL_outcomeAnew 9 = .ok (.goto 9, 3) := by decide +kernel
theorem dL_outcomeAnew_12 : decode cL_outcomeAnew 12 = .ok (.astore_n 3, 1) := by decide +kernel
theorem dL_outcomeAnew_13 : decode cL_outcomeAnew 13 = .ok (.iconst 1, 1) := by decide +kernel
theorem dL_outcomeAnew_14 : decode cL_outcomeAnew 14 = .ok (.ireturn, 1) := by decide +kernel
theorem dL_outcomeAnew_15 : decode cL_outcomeAnew 15 = .ok (.astore_n 3, 1) := by decide +kernel
theorem dL_outcomeAnew_16 : decode cL_outcomeAnew 16 = .ok (.iconst 2, 1) := by decide +kernel
theorem dL_outcomeAnew_17 : decode cL_outcomeAnew 17 = .ok (.ireturn, 1) := by decide +kernel
theorem dL_outcomeAnew_18 : decode cL_outcomeAnew 18 = .ok (.iconst 0, 1) := by decide +kernel
theorem dL_outcomeAnew_19 : decode cL_outcomeAnew 19 = .ok (.ireturn, 1) := by decide +kernel
theorem dL_isByBot_0 : decode cL_isByBot 0 = .ok (.aload_n 2, 1) := by decide +kernel
theorem dL_isByBot_1 : decode cL_isByBot 1 = .ok (.iconst 0, 1) := by decide +kernel
theorem dL_isByBot_2 : decode cL_isByBot 2 = .ok (.aload_n 0, 1) := by decide +kernel
theorem dL_isByBot_3 : decode cL_isByBot 3 = .ok (.iload_n 1, 1) := by decide +kernel
theorem dL_isByBot_4 : decode cL_isByBot 4 = .ok (.invokevirtual 89, 3) := by decide +kernel
theorem dL_isByBot_7 : decode cL_isByBot 7 = .ok (.ifCond .eq 7, 3) := by decide +kernel
theorem dL_isByBot_10 : decode cL_isByBot 10 = .ok (.lconst 1, 1) := by decide +kernel
theorem dL_isByBot_11 : decode cL_isByBot 11 = .ok (.goto 4, 3) := by decide +kernel
theorem dL_isByBot_14 : decode cL_isByBot 14 = .ok (.lconst 0, 1) := by decide +kernel
theorem dL_isByBot_15 : decode cL_isByBot 15 = .ok (.lastore, 1) := by decide +kernel
theorem dL_isByBot_16 : decode cL_isByBot 16 = .ok (.goto 9, 3) := by decide +kernel
theorem dL_isByBot_19 : decode cL_isByBot 19 = .ok (.astore_n 3, 1) := by decide +kernel
theorem dL_isByBot_20 : decode cL_isByBot 20 = .ok (.iconst 1, 1) := by decide +kernel
theorem dL_isByBot_21 : decode cL_isByBot 21 = .ok (.ireturn, 1) := by decide +kernel
theorem dL_isByBot_22 : decode cL_isByBot 22 = .ok (.astore_n 3, 1) := by decide +kernel
theorem dL_isByBot_23 : decode cL_isByBot 23 = .ok (.iconst 2, 1) := by decide +kernel
theorem dL_isByBot_24 : decode cL_isByBot 24 = .ok (.ireturn, 1) := by decide +kernel
theorem dL_isByBot_25 : decode cL_isByBot 25 = .ok (.iconst 0, 1) := by decide +kernel
theorem dL_isByBot_26 : decode cL_isByBot 26 = .ok (.ireturn, 1) := by decide +kernel
theorem dL_appeal_0 : decode cL_appeal 0 = .ok (.aload_n 2, 1) := by decide +kernel
theorem dL_appeal_1 : decode cL_appeal 1 = .ok (.iconst 0, 1) := by decide +kernel
theorem dL_appeal_2 : decode cL_appeal 2 = .ok (.aload_n 0, 1) := by decide +kernel
theorem dL_appeal_3 : decode cL_appeal 3 = .ok (.iload_n 1, 1) := by decide +kernel
theorem dL_appeal_4 : decode cL_appeal 4 = .ok (.invokevirtual 93, 3) := by decide +kernel
theorem dL_appeal_7 : decode cL_appeal 7 = .ok (.i2l, 1) := by decide +kernel
theorem dL_appeal_8 : decode cL_appeal 8 = .ok (.lastore, 1) := by decide +kernel
theorem dL_appeal_9 : decode cL_appeal 9 = .ok (.goto 12, 3) := by decide +kernel
theorem dL_appeal_12 : decode cL_appeal 12 = .ok (.astore_n 3, 1) := by decide +kernel
theorem dL_appeal_13 : decode cL_appeal 13 = .ok (.iconst 1, 1) := by decide +kernel
theorem dL_appeal_14 : decode cL_appeal 14 = .ok (.ireturn, 1) := by decide +kernel
theorem dL_appeal_15 : decode cL_appeal 15 = .ok (.astore_n 3, 1) := by decide +kernel
theorem dL_appeal_16 : decode cL_appeal 16 = .ok (.iconst 2, 1) := by decide +kernel
theorem dL_appeal_17 : decode cL_appeal 17 = .ok (.ireturn, 1) := by decide +kernel
theorem dL_appeal_18 : decode cL_appeal 18 = .ok (.astore_n 3, 1) := by decide +kernel
theorem dL_appeal_19 : decode cL_appeal 19 = .ok (.iconst 3, 1) := by decide +kernel
theorem dL_appeal_20 : decode cL_appeal 20 = .ok (.ireturn, 1) := by decide +kernel
theorem dL_appeal_21 : decode cL_appeal 21 = .ok (.iconst 0, 1) := by decide +kernel
theorem dL_appeal_22 : decode cL_appeal 22 = .ok (.ireturn, 1) := by decide +kernel
theorem dL_wasReversed_0 : decode cL_wasReversed 0 = .ok (.aload_n 2, 1) := by decide +kernel
theorem dL_wasReversed_1 : decode cL_wasReversed 1 = .ok (.iconst 0, 1) := by decide +kernel
theorem dL_wasReversed_2 : decode cL_wasReversed 2 = .ok (.aload_n 0, 1) := by decide +kernel
theorem dL_wasReversed_3 : decode cL_wasReversed 3 = .ok (.iload_n 1, 1) := by decide +kernel
theorem dL_wasReversed_4 : decode cL_wasReversed 4 = .ok (.invokevirtual 96, 3) := by decide +kernel
theorem dL_wasReversed_7 : decode cL_wasReversed 7 = .ok (.ifCond .eq 7, 3) := by decide +kernel
theorem dL_wasReversed_10 : decode cL_wasReversed 10 = .ok (.lconst 1, 1) := by decide +kernel
theorem dL_wasReversed_11 : decode cL_wasReversed 11 = .ok (.goto 4, 3) := by decide +kernel
theorem dL_wasReversed_14 : decode cL_wasReversed 14 = .ok (.lconst 0, 1) := by decide +kernel
theorem dL_wasReversed_15 : decode cL_wasReversed 15 = .ok (.lastore, 1) := by decide +kernel
theorem dL_wasReversed_16 : decode cL_wasReversed 16 = .ok (.goto 6, 3) := by decide +kernel
theorem dL_wasReversed_19 : decode cL_wasReversed 19 = .ok (.astore_n 3, 1) := by decide +kernel
theorem dL_wasReversed_20 : decode cL_wasReversed 20 = .ok (.iconst 1, 1) := by decide +kernel
theorem dL_wasReversed_21 : decode cL_wasReversed 21 = .ok (.ireturn, 1) := by decide +kernel
theorem dL_wasReversed_22 : decode cL_wasReversed 22 = .ok (.iconst 0, 1) := by decide +kernel
theorem dL_wasReversed_23 : decode cL_wasReversed 23 = .ok (.ireturn, 1) := by decide +kernel
theorem dL_pass_0 : decode cL_pass 0 = .ok (.aload_n 2, 1) := by decide +kernel
theorem dL_pass_1 : decode cL_pass 1 = .ok (.iconst 0, 1) := by decide +kernel
theorem dL_pass_2 : decode cL_pass 2 = .ok (.aload_n 0, 1) := by decide +kernel
theorem dL_pass_3 : decode cL_pass 3 = .ok (.iload_n 1, 1) := by decide +kernel
theorem dL_pass_4 : decode cL_pass 4 = .ok (.invokevirtual 99, 3) := by decide +kernel
theorem dL_pass_7 : decode cL_pass 7 = .ok (.i2l, 1) := by decide +kernel
theorem dL_pass_8 : decode cL_pass 8 = .ok (.lastore, 1) := by decide +kernel
theorem dL_pass_9 : decode cL_pass 9 = .ok (.goto 9, 3) := by decide +kernel
theorem dL_pass_12 : decode cL_pass 12 = .ok (.astore_n 3, 1) := by decide +kernel
theorem dL_pass_13 : decode cL_pass 13 = .ok (.iconst 1, 1) := by decide +kernel
theorem dL_pass_14 : decode cL_pass 14 = .ok (.ireturn, 1) := by decide +kernel
theorem dL_pass_15 : decode cL_pass 15 = .ok (.astore_n 3, 1) := by decide +kernel
theorem dL_pass_16 : decode cL_pass 16 = .ok (.iconst 2, 1) := by decide +kernel
theorem dL_pass_17 : decode cL_pass 17 = .ok (.ireturn, 1) := by decide +kernel
theorem dL_pass_18 : decode cL_pass 18 = .ok (.iconst 0, 1) := by decide +kernel
theorem dL_pass_19 : decode cL_pass 19 = .ok (.ireturn, 1) := by decide +kernel
theorem dL_likeness_0 : decode cL_likeness 0 = .ok (.aload_n 3, 1) := by decide +kernel
theorem dL_likeness_1 : decode cL_likeness 1 = .ok (.iconst 0, 1) := by decide +kernel
theorem dL_likeness_2 : decode cL_likeness 2 = .ok (.aload_n 0, 1) := by decide +kernel
theorem dL_likeness_3 : decode cL_likeness 3 = .ok (.iload_n 1, 1) := by decide +kernel
theorem dL_likeness_4 : decode cL_likeness 4 = .ok (.iload_n 2, 1) := by decide +kernel
theorem dL_likeness_5 : decode cL_likeness 5 = .ok (.invokevirtual 102, 3) := by decide +kernel
theorem dL_likeness_8 : decode cL_likeness 8 = .ok (.i2l, 1) := by decide +kernel
theorem dL_likeness_9 : decode cL_likeness 9 = .ok (.lastore, 1) := by decide +kernel
theorem dL_likeness_10 : decode cL_likeness 10 = .ok (.goto 7, 3) := by decide +kernel
theorem dL_likeness_13 : decode cL_likeness 13 = .ok (.astore 4, 2) := by decide +kernel
theorem dL_likeness_15 : decode cL_likeness 15 = .ok (.iconst 1, 1) := by decide +kernel
theorem dL_likeness_16 : decode cL_likeness 16 = .ok (.ireturn, 1) := by decide +kernel
theorem dL_likeness_17 : decode cL_likeness 17 = .ok (.iconst 0, 1) := by decide +kernel
theorem dL_likeness_18 : decode cL_likeness 18 = .ok (.ireturn, 1) := by decide +kernel
theorem dL_count_0 : decode cL_count 0 = .ok (.aload_n 2, 1) := by decide +kernel
theorem dL_count_1 : decode cL_count 1 = .ok (.iconst 0, 1) := by decide +kernel
theorem dL_count_2 : decode cL_count 2 = .ok (.aload_n 0, 1) := by decide +kernel
theorem dL_count_3 : decode cL_count 3 = .ok (.iload_n 1, 1) := by decide +kernel
theorem dL_count_4 : decode cL_count 4 = .ok (.invokevirtual 105, 3) := by decide +kernel
theorem dL_count_7 : decode cL_count 7 = .ok (.i2l, 1) := by decide +kernel
theorem dL_count_8 : decode cL_count 8 = .ok (.lastore, 1) := by decide +kernel
theorem dL_count_9 : decode cL_count 9 = .ok (.goto 6, 3) := by decide +kernel
theorem dL_count_12 : decode cL_count 12 = .ok (.astore_n 3, 1) := by decide +kernel
theorem dL_count_13 : decode cL_count 13 = .ok (.iconst 1, 1) := by decide +kernel
theorem dL_count_14 : decode cL_count 14 = .ok (.ireturn, 1) := by decide +kernel
theorem dL_count_15 : decode cL_count 15 = .ok (.iconst 0, 1) := by decide +kernel
theorem dL_count_16 : decode cL_count 16 = .ok (.ireturn, 1) := by decide +kernel
theorem dL_meanEvidence_0 : decode cL_meanEvidence 0 = .ok (.aload_n 1, 1) := by decide +kernel
theorem dL_meanEvidence_1 : decode cL_meanEvidence 1 = .ok (.iconst 0, 1) := by decide +kernel
theorem dL_meanEvidence_2 : decode cL_meanEvidence 2 = .ok (.aload_n 0, 1) := by decide +kernel
theorem dL_meanEvidence_3 : decode cL_meanEvidence 3 = .ok (.invokevirtual 109, 3) := by decide +kernel
theorem dL_meanEvidence_6 : decode cL_meanEvidence 6 = .ok (.dastore, 1) := by decide +kernel
theorem dL_meanEvidence_7 : decode cL_meanEvidence 7 = .ok (.goto 6, 3) := by decide +kernel
theorem dL_meanEvidence_10 : decode cL_meanEvidence 10 = .ok (.astore_n 2, 1) := by decide +kernel
theorem dL_meanEvidence_11 : decode cL_meanEvidence 11 = .ok (.iconst 1, 1) := by decide +kernel
theorem dL_meanEvidence_12 : decode cL_meanEvidence 12 = .ok (.ireturn, 1) := by decide +kernel
theorem dL_meanEvidence_13 : decode cL_meanEvidence 13 = .ok (.iconst 0, 1) := by decide +kernel
theorem dL_meanEvidence_14 : decode cL_meanEvidence 14 = .ok (.ireturn, 1) := by decide +kernel
theorem dL_reversedShare_0 : decode cL_reversedShare 0 = .ok (.aload_n 1, 1) := by decide +kernel
theorem dL_reversedShare_1 : decode cL_reversedShare 1 = .ok (.iconst 0, 1) := by decide +kernel
theorem dL_reversedShare_2 : decode cL_reversedShare 2 = .ok (.aload_n 0, 1) := by decide +kernel
theorem dL_reversedShare_3 : decode cL_reversedShare 3 = .ok (.invokevirtual 115, 3) := by decide +kernel
theorem dL_reversedShare_6 : decode cL_reversedShare 6 = .ok (.f2d, 1) := by decide +kernel
theorem dL_reversedShare_7 : decode cL_reversedShare 7 = .ok (.dastore, 1) := by decide +kernel
theorem dL_reversedShare_8 : decode cL_reversedShare 8 = .ok (.goto 6, 3) := by decide +kernel
theorem dL_reversedShare_11 : decode cL_reversedShare 11 = .ok (.astore_n 2, 1) := by decide +kernel
theorem dL_reversedShare_12 : decode cL_reversedShare 12 = .ok (.iconst 1, 1) := by decide +kernel
theorem dL_reversedShare_13 : decode cL_reversedShare 13 = .ok (.ireturn, 1) := by decide +kernel
theorem dL_reversedShare_14 : decode cL_reversedShare 14 = .ok (.iconst 0, 1) := by decide +kernel
theorem dL_reversedShare_15 : decode cL_reversedShare 15 = .ok (.ireturn, 1) := by decide +kernel
end
section
/-! ===== THE WORLD: cells by a label (what kind of thing) and a number; a pure state that says what they hold ===== -/
/-- a value of a frame: the machine's own, or 'the thing i of label l' -/
abbrev k_AV : Type := Value ⊕ (Nat × Nat)
abbrev k_i (x : Int32) : k_AV := .inl (.int x)
abbrev k_l (x : Int64) : k_AV := .inl (.long x)
abbrev k_f (x : UInt32) : k_AV := .inl (.float x)
abbrev k_d (x : UInt64) : k_AV := .inl (.double x)
abbrev k_n : k_AV := .inl .null
abbrev k_r (a : Nat) : k_AV := .inl (.ref a)
abbrev k_p (l i : Nat) : k_AV := .inr (l, i)
/-- ints, longs, doubles, references (numbers at the label that the kind tells), how many things a label has, how long a list is -/
abbrev k_S : Type := (Nat → Nat → Nat → Int32) × (Nat → Nat → Nat → Int64) × (Nat → Nat → Nat → UInt64) × (Nat → Nat → Nat → Option Nat) × (Nat → Nat) × (Nat → Nat)
def k_I (σ : k_S) : Nat → Nat → Nat → Int32 := σ.1
def k_J (σ : k_S) : Nat → Nat → Nat → Int64 := σ.2.1
def k_D (σ : k_S) : Nat → Nat → Nat → UInt64 := σ.2.2.1
def k_P (σ : k_S) : Nat → Nat → Nat → Option Nat := σ.2.2.2.1
def k_N (σ : k_S) : Nat → Nat := σ.2.2.2.2.1
def k_Z (σ : k_S) : Nat → Nat := σ.2.2.2.2.2
def k_up3 {α : Type} (f : Nat → Nat → Nat → α) (l i k : Nat) (v : α) : Nat → Nat → Nat → α := fun l' i' k' => if l' = l ∧ i' = i ∧ k' = k then v else f l' i' k'
def k_up1 {α : Type} (f : Nat → α) (l : Nat) (v : α) : Nat → α := fun l' => if l' = l then v else f l'
def k_uI (σ : k_S) (l i k : Nat) (v : Int32) : k_S := (k_up3 (k_I σ) l i k v, k_J σ, k_D σ, k_P σ, k_N σ, k_Z σ)
def k_uJ (σ : k_S) (l i k : Nat) (v : Int64) : k_S := (k_I σ, k_up3 (k_J σ) l i k v, k_D σ, k_P σ, k_N σ, k_Z σ)
def k_uD (σ : k_S) (l i k : Nat) (v : UInt64) : k_S := (k_I σ, k_J σ, k_up3 (k_D σ) l i k v, k_P σ, k_N σ, k_Z σ)
def k_uP (σ : k_S) (l i k : Nat) (v : Option Nat) : k_S := (k_I σ, k_J σ, k_D σ, k_up3 (k_P σ) l i k v, k_N σ, k_Z σ)
def k_uN (σ : k_S) (l : Nat) (v : Nat) : k_S := (k_I σ, k_J σ, k_D σ, k_P σ, k_up1 (k_N σ) l v, k_Z σ)
def k_uZ (σ : k_S) (l : Nat) (v : Nat) : k_S := (k_I σ, k_J σ, k_D σ, k_P σ, k_N σ, k_up1 (k_Z σ) l v)
/-- a thing more of label l, its places at their defaults -/
def k_new (σ : k_S) (l : Nat) : k_S :=
  (fun l' i' k' => if l' = l ∧ i' = k_N σ l then 0 else k_I σ l' i' k', fun l' i' k' => if l' = l ∧ i' = k_N σ l then 0 else k_J σ l' i' k', fun l' i' k' => if l' = l ∧ i' = k_N σ l then 0 else k_D σ l' i' k',
   fun l' i' k' => if l' = l ∧ i' = k_N σ l then none else k_P σ l' i' k', k_up1 (k_N σ) l (k_N σ l + 1), k_up1 (k_Z σ) l 0)
/-! labels: 0 the hall, 1 the model, 2 rules, 3 users, 4 bots, 5 reports, 6 sanctions, 7 entries, 8 standings, 9 a report's votes, 10 a standing's outcomes, 11 its turns, 12 .. 17 the lists of 2 .. 7, 18 the law's longs, 19 its doubles, 20 .. 40 the model's arrays in the order of its fields, 41 its votes, 42 their rows -/
def k_isL (l : Nat) : Bool := Nat.ble 12 l && Nat.ble l 17
/-- an object: number of its class in k_cl, of its fields; an array: number of its type in k_tys, its length -/
def k_sch (l : Nat) : (Nat × Nat) ⊕ (Nat × Nat) := match l with
  | 0 => .inl (8, 10)
  | 1 => .inl (9, 33)
  | 2 => .inl (4, 6)
  | 3 => .inl (7, 1)
  | 4 => .inl (1, 2)
  | 5 => .inl (3, 13)
  | 6 => .inl (5, 3)
  | 7 => .inl (2, 4)
  | 8 => .inl (6, 3)
  | 9 => .inr (0, 8)
  | 10 => .inr (1, 20)
  | 11 => .inr (0, 20)
  | 18 => .inr (3, 1)
  | 19 => .inr (4, 1)
  | 20 => .inr (0, 12)
  | 21 => .inr (0, 12)
  | 22 => .inr (0, 12)
  | 23 => .inr (0, 12)
  | 24 => .inr (0, 12)
  | 25 => .inr (0, 8)
  | 26 => .inr (0, 4)
  | 27 => .inr (0, 4)
  | 28 => .inr (2, 12)
  | 38 => .inr (1, 20)
  | 39 => .inr (1, 20)
  | 40 => .inr (1, 20)
  | 41 => .inr (6, 20)
  | 42 => .inr (0, 8)
  | _ => .inr (0, 20)
/-- the kind of a place: 0 an int of some width, 1 a long, 2 a double, L + 3 a reference to a thing of label L -/
def k_kd (l k : Nat) : Nat := match l with
  | 0 => [15, 16, 17, 18, 19, 20, 11, 11, 0, 0].getD k 0
  | 1 => [0, 23, 24, 25, 26, 27, 28, 29, 30, 31, 0, 0, 0, 0, 0, 32, 33, 34, 35, 36, 37, 38, 39, 40, 41, 42, 43, 44, 0, 0, 0, 0, 1].getD k 0
  | 5 => [0, 6, 6, 0, 0, 0, 12, 0, 7, 9, 0, 0, 0].getD k 0
  | 6 => [6, 0, 0].getD k 0
  | 7 => [8, 0, 0, 0].getD k 0
  | 8 => [13, 14, 0].getD k 0
  | 12 => 5
  | 13 => 6
  | 14 => 7
  | 15 => 8
  | 16 => 9
  | 17 => 10
  | 18 => 1
  | 19 => 2
  | 41 => 45
  | _ => 0
/-- the width of an int -/
def k_ty (l k : Nat) : FieldType := match l with
  | 2 => if k = 1 then .boolean else .int
  | 5 => if k = 7 ∨ k = 11 then .char else if k = 10 ∨ k = 12 then .boolean else .int
  | 7 => if k = 1 then .boolean else .int
  | 10 => .char
  | 28 => .boolean
  | 38 => .char
  | 39 => .char
  | 40 => .char
  | _ => .int
def k_fit (ty : FieldType) (x : Int32) : Prop := narrow ty (.int x) = .int x ∧ fits ty (.int x) = true
theorem k_fit_int (x : Int32) : k_fit .int x := ⟨rfl, rfl⟩
theorem k_fit_0 (ty : FieldType) (h : ty = .int ∨ ty = .char ∨ ty = .boolean) : k_fit ty 0 := by
  rcases h with rfl | rfl | rfl <;> exact ⟨by decide, by decide⟩
/-- the classes of the world's objects -/
abbrev k_cl : List vw_C := [(RJx4a65c, TJx4a65c, 3), (RX0, TX0, 2), (RX1, TX1, 4), (RX2, TX2, 13), (RX3, TX3, 6), (RX4, TX4, 3), (RX5, TX5, 3), (RX6, TX6, 1), (RX7, TX7, 10), (RX8, TX8, 33)]
abbrev k_tys (cA : Nat → ClassId) : List (ClassId × FieldType) := [(cA 0, .int), (cA 1, .char), (cA 2, .boolean), (cA 3, .long), (cA 4, .double), (cA 5, .object "java/lang/Object"), (cA 6, .array .int)]
/-- what is fixed for a run: classes and slots, array classes, the first cell that is ours, the empty array of lists, the texts -/
abbrev k_G : Type := va_G × (Nat → ClassId) × Nat × Nat × (Nat → Nat)
/-- an address for each thing -/
abbrev k_A : Type := Nat → Nat → Nat
def k_c (A : k_A) (v : k_AV) : Value := match v with
  | .inl v => v
  | .inr q => .ref (A q.1 q.2)
/-- what a place holds, for the machine -/
def k_fv (A : k_A) (σ : k_S) (l i k : Nat) : Value := match k_kd l k with
  | 0 => .int (k_I σ l i k)
  | 1 => .long (k_J σ l i k)
  | 2 => .double (k_D σ l i k)
  | L + 3 => va_rf ((k_P σ l i k).map (A L))
/-- the cell of a thing -/
def k_at (G : k_G) (A : k_A) (σ : k_S) (l i : Nat) (H : Heap) : Prop := match k_sch l with
  | .inl q => t_OB (A l i) (G.1.1 q.1) q.2 (G.1.2 q.1) H (k_fv A σ l i)
  | .inr q => H[A l i]? = some (arrV (G.2.1 q.1) q.2 (k_fv A σ l i))
/-- a list: its object, its array -/
def k_Li (G : k_G) (A : k_A) (E : Nat → Nat) (σ : k_S) (l : Nat) (H : Heap) : Prop :=
  ∃ (mc : Int32) (cap : Nat), t_OB (A l 0) (G.1.1 0) 3 (G.1.2 0) H (vp_V [.int mc, .ref (E l), .int (nI (k_Z σ l))]) ∧
    H[E l]? = some (arrV (G.2.1 5) cap (fun j => va_rf (if j < k_Z σ l then (k_P σ l 0 j).map (A (l - 10)) else none))) ∧ k_Z σ l ≤ cap ∧ cap ≤ 2 * k_Z σ l + 10 ∧
    ((cap = 0 ∧ E l = G.2.2.2.1) ∨ (0 < cap ∧ G.2.2.1 ≤ E l ∧ (∀ l' i', i' < k_N σ l' → A l' i' ≠ E l) ∧ ∀ l', k_isL l' = true → 0 < k_N σ l' → l' ≠ l → E l' ≠ E l))
/-- the heap holds the world -/
def k_HR (G : k_G) (A : k_A) (E : Nat → Nat) (σ : k_S) (H : Heap) : Prop :=
  (∀ l i, k_isL l = false → i < k_N σ l → k_at G A σ l i H) ∧
  (∀ l i l' i', i < k_N σ l → i' < k_N σ l' → A l i = A l' i' → l = l' ∧ i = i') ∧
  (∀ l i, i < k_N σ l → G.2.2.1 ≤ A l i ∧ A l i < H.size) ∧
  (∀ l i k j, i < k_N σ l → 3 ≤ k_kd l k → k_P σ l i k = some j → j < k_N σ (k_kd l k - 3)) ∧
  (∀ l i k, i < k_N σ l → k_fit (k_ty l k) (k_I σ l i k)) ∧
  (∀ l, k_isL l = true → 0 < k_N σ l → k_N σ l = 1 ∧ k_Li G A E σ l H)
/-- the addresses of the things that are there stay -/
def k_Ext (A A' : k_A) (σ σ' : k_S) : Prop := ∀ l i, i < k_N σ l → i < k_N σ' l ∧ A' l i = A l i
theorem k_Ext.refl (A : k_A) (σ : k_S) : k_Ext A A σ σ := fun _ _ h => ⟨h, rfl⟩
theorem k_Ext.trans {A A1 A2 : k_A} {σ σ1 σ2 : k_S} (h1 : k_Ext A A1 σ σ1) (h2 : k_Ext A1 A2 σ1 σ2) : k_Ext A A2 σ σ2 := fun l i h => by
  obtain ⟨a, b⟩ := h1 l i h
  obtain ⟨c, d⟩ := h2 l i a
  exact ⟨c, d.trans b⟩
def k_ok (σ : k_S) (v : k_AV) : Prop := match v with
  | .inl _ => True
  | .inr q => q.2 < k_N σ q.1
def k_oks (σ : k_S) (vs : List k_AV) : Prop := ∀ v ∈ vs, k_ok σ v
def k_okL (σ : k_S) (L : List (Option k_AV)) : Prop := ∀ v : k_AV, some v ∈ L → k_ok σ v
theorem k_ok.ext {A A' : k_A} {σ σ' : k_S} (h : k_Ext A A' σ σ') {v : k_AV} (hv : k_ok σ v) : k_ok σ' v ∧ k_c A' v = k_c A v := by
  obtain v | ⟨l, i⟩ := v
  · exact ⟨trivial, rfl⟩
  · obtain ⟨a, b⟩ := h l i hv
    exact ⟨a, by show Value.ref _ = Value.ref _; rw [b]⟩
theorem k_oks.ext {A A' : k_A} {σ σ' : k_S} (h : k_Ext A A' σ σ') {vs : List k_AV} (hv : k_oks σ vs) : k_oks σ' vs ∧ vs.map (k_c A') = vs.map (k_c A) :=
  ⟨fun v q => (k_ok.ext h (hv v q)).1, List.map_congr_left fun v q => (k_ok.ext h (hv v q)).2⟩
theorem k_okL.ext {A A' : k_A} {σ σ' : k_S} (h : k_Ext A A' σ σ') {L : List (Option k_AV)} (hv : k_okL σ L) : k_okL σ' L := fun v q => (k_ok.ext h (hv v q)).1
theorem k_oks.cons {σ : k_S} {v : k_AV} {vs : List k_AV} (h : k_ok σ v) (h2 : k_oks σ vs) : k_oks σ (v :: vs) := fun w hw => (List.mem_cons.mp hw).elim (fun e => by rw [e]; exact h) (h2 w)
theorem k_oks.tail {σ : k_S} {v : k_AV} {vs : List k_AV} (h : k_oks σ (v :: vs)) : k_oks σ vs := fun w hw => h w (List.mem_cons_of_mem _ hw)
theorem k_oks.head {σ : k_S} {v : k_AV} {vs : List k_AV} (h : k_oks σ (v :: vs)) : k_ok σ v := h v List.mem_cons_self
theorem k_oks.app {σ : k_S} {vs ws : List k_AV} (h : k_oks σ vs) (h2 : k_oks σ ws) : k_oks σ (vs ++ ws) := fun w hw => (List.mem_append.mp hw).elim (h w) (h2 w)
theorem k_ok.val (σ : k_S) (v : Value) : k_ok σ (.inl v) := trivial
/-- the locals that are known -/
def k_has (A : k_A) (L : List (Option k_AV)) (ls : Array Slot) (nL : Nat) : Prop := ls.size = nL ∧ lv_wf ls ∧ ∀ (i : Nat) (v : k_AV), L[i]? = some (some v) → ls[i]? = some (.val (k_c A v))
def k_lv (A : k_A) (L : List (Option k_AV)) : List (Nat × Value) := (List.range L.length).filterMap fun i => ((L[i]?).join).map fun v => (i, k_c A v)
theorem k_lv_mem {A : k_A} {L : List (Option k_AV)} {q : Nat × Value} : q ∈ k_lv A L ↔ ∃ v : k_AV, L[q.1]? = some (some v) ∧ q.2 = k_c A v := by
  unfold k_lv
  rw [List.mem_filterMap]
  constructor
  · rintro ⟨i, hi, h⟩
    cases h2 : (L[i]?).join with
    | none => rw [h2] at h; cases h
    | some v =>
      rw [h2] at h
      cases h
      exact ⟨v, Option.join_eq_some_iff.mp h2, rfl⟩
  · rintro ⟨v, h1, h2⟩
    refine ⟨q.1, List.mem_range.mpr (List.getElem?_eq_some_iff.mp h1).1, ?_⟩
    rw [h1]
    show some (q.1, k_c A v) = some q
    rw [← h2]
theorem k_has.lv {A : k_A} {L : List (Option k_AV)} {ls : Array Slot} {nL : Nat} (h : k_has A L ls nL) : lv_has ls nL (k_lv A L) := ⟨h.1, h.2.1, fun q hq => by
  obtain ⟨v, h1, h2⟩ := k_lv_mem.mp hq
  rw [h2]
  exact h.2.2 q.1 v h1⟩
theorem k_has.ext {A A' : k_A} {σ σ' : k_S} (h : k_Ext A A' σ σ') {L : List (Option k_AV)} {ls : Array Slot} {nL : Nat} (hv : k_okL σ L) (hl : k_has A L ls nL) : k_has A' L ls nL := ⟨hl.1, hl.2.1, fun i v q => by
  rw [(k_ok.ext h (hv v (List.mem_of_getElem? q))).2]
  exact hl.2.2 i v q⟩
/-- a value of two slots -/
def k_w (o : Option k_AV) : Bool := match o with
  | some (.inl (.long _)) => true
  | some (.inl (.double _)) => true
  | _ => false
theorem k_w_cat {A : k_A} {v : k_AV} (h : k_w (some v) = false) : (k_c A v).category ≠ 2 := by
  obtain v | ⟨l, i⟩ := v
  · cases v <;> first | (cases h; done) | (show ¬ (1 : Nat) = 2; decide)
  · show ¬ (1 : Nat) = 2
    decide
/-- a store of a value of one slot: a wide value ahead of it goes -/
def k_st (L : List (Option k_AV)) (i : Nat) (v : k_AV) : List (Option k_AV) := (match i with
  | 0 => L
  | j + 1 => if k_w ((L[j]?).join) = true then L.set j none else L).set i (some v)
def k_st2 (L : List (Option k_AV)) (i : Nat) (v : k_AV) : List (Option k_AV) := ((match i with
  | 0 => L
  | j + 1 => if k_w ((L[j]?).join) = true then L.set j none else L).set (i + 1) none).set i (some v)
end
section
/-! ===== THE JUDGEMENT over the world, and a row an instruction (written by wip/whole/gen_rows.py) ===== -/
theorem k_ss {α : Type} {l : List α} {i : Nat} {a b : α} (h : (l.set i a)[i]? = some b) : a = b := by
  by_cases hi : i < l.length
  · rw [List.getElem?_set_self hi] at h
    exact Option.some.inj h
  · rw [List.getElem?_eq_none (by rw [List.length_set]; omega)] at h
    cases h
theorem k_has.st {A : k_A} {L : List (Option k_AV)} {ls' : Array Slot} {nL i : Nat} {v : k_AV} (h : lv_has ls' nL ((i, k_c A v) :: (k_lv A L).filter (fun q => !(q.1 == i) && !(q.1 + 1 == i && q.2.category == 2)))) : k_has A (k_st L i v) ls' nL := by
  refine ⟨h.1, h.2.1, fun j w hj => ?_⟩
  refine h.2.2 (j, k_c A w) ?_
  by_cases hji : j = i
  · subst hji
    unfold k_st at hj
    cases k_ss hj
    exact List.mem_cons_self
  · refine List.mem_cons_of_mem _ (List.mem_filter.mpr ?_)
    unfold k_st at hj
    rw [List.getElem?_set_ne (Ne.symm hji)] at hj
    have hL : L[j]? = some (some w) ∧ (j + 1 = i → k_w (some w) = false) := by
      cases i with
      | zero => exact ⟨hj, fun e => by omega⟩
      | succ i =>
        dsimp only at hj
        by_cases hw : k_w ((L[i]?).join) = true
        · rw [if_pos hw] at hj
          by_cases hij : i = j
          · subst hij
            cases k_ss hj
          · rw [List.getElem?_set_ne hij] at hj
            exact ⟨hj, fun e => absurd (by omega) hij⟩
        · rw [if_neg hw] at hj
          refine ⟨hj, fun e => ?_⟩
          have e2 : j = i := by omega
          subst e2
          rw [hj] at hw
          exact Bool.eq_false_iff.mpr hw
    refine ⟨k_lv_mem.mpr ⟨w, hL.1, rfl⟩, ?_⟩
    simp only [Bool.and_eq_true, Bool.not_eq_true', beq_eq_false_iff_ne, ne_eq, Bool.and_eq_false_iff]
    refine ⟨hji, ?_⟩
    by_cases e : j + 1 = i
    · exact Or.inr (fun q => k_w_cat (A := A) (hL.2 e) q)
    · exact Or.inl e
theorem k_has.st2 {A : k_A} {L : List (Option k_AV)} {ls' : Array Slot} {nL i : Nat} {v : k_AV} (h : lv_has ls' nL ((i, k_c A v) :: (k_lv A L).filter (fun q => !(q.1 == i) && (!(q.1 == i + 1) && !(q.1 + 1 == i && q.2.category == 2))))) : k_has A (k_st2 L i v) ls' nL := by
  refine ⟨h.1, h.2.1, fun j w hj => ?_⟩
  refine h.2.2 (j, k_c A w) ?_
  by_cases hji : j = i
  · subst hji
    unfold k_st2 at hj
    cases k_ss hj
    exact List.mem_cons_self
  · refine List.mem_cons_of_mem _ (List.mem_filter.mpr ?_)
    unfold k_st2 at hj
    rw [List.getElem?_set_ne (Ne.symm hji)] at hj
    by_cases hj1 : i + 1 = j
    · subst hj1
      cases k_ss hj
    rw [List.getElem?_set_ne hj1] at hj
    have hL : L[j]? = some (some w) ∧ (j + 1 = i → k_w (some w) = false) := by
      cases i with
      | zero => exact ⟨hj, fun e => by omega⟩
      | succ i =>
        dsimp only at hj
        by_cases hw : k_w ((L[i]?).join) = true
        · rw [if_pos hw] at hj
          by_cases hij : i = j
          · subst hij
            cases k_ss hj
          · rw [List.getElem?_set_ne hij] at hj
            exact ⟨hj, fun e => absurd (by omega) hij⟩
        · rw [if_neg hw] at hj
          refine ⟨hj, fun e => ?_⟩
          have e2 : j = i := by omega
          subst e2
          rw [hj] at hw
          exact Bool.eq_false_iff.mpr hw
    refine ⟨k_lv_mem.mpr ⟨w, hL.1, rfl⟩, ?_⟩
    simp only [Bool.and_eq_true, Bool.not_eq_true', beq_eq_false_iff_ne, ne_eq, Bool.and_eq_false_iff]
    refine ⟨hji, fun q => hj1 q.symm, ?_⟩
    by_cases e : j + 1 = i
    · exact Or.inr (fun q => k_w_cat (A := A) (hL.2 e) q)
    · exact Or.inl e
theorem k_okL.set {σ : k_S} {L : List (Option k_AV)} {i : Nat} {v : Option k_AV} (h : k_okL σ L) (hv : ∀ w, v = some w → k_ok σ w) : k_okL σ (L.set i v) := fun w hw => by
  rcases List.mem_or_eq_of_mem_set hw with h1 | h1
  · exact h w h1
  · exact hv w h1.symm
theorem k_okL.st {σ : k_S} {L : List (Option k_AV)} {i : Nat} {v : k_AV} (h : k_okL σ L) (hv : k_ok σ v) : k_okL σ (k_st L i v) := by
  unfold k_st
  refine k_okL.set ?_ (fun w e => by cases e; exact hv)
  split
  · exact h
  · split
    · exact h.set (fun w e => nomatch e)
    · exact h
theorem k_okL.st2 {σ : k_S} {L : List (Option k_AV)} {i : Nat} {v : k_AV} (h : k_okL σ L) (hv : k_ok σ v) : k_okL σ (k_st2 L i v) := by
  unfold k_st2
  refine k_okL.set (k_okL.set ?_ (fun w e => nomatch e)) (fun w e => by cases e; exact hv)
  split
  · exact h
  · split
    · exact h.set (fun w e => nomatch e)
    · exact h
/-- a method's run: the program, the launch, .., what is owed at its end, what is fixed, the addresses and the state at its start -/
abbrev k_X : Type := Program × Launch × Env × Room × State × MethodId × Array Value × List Frame × Method × Code × (State → Prop) × k_G × k_A × k_S
/-- 'from here, with this state, so many cells and slots made, at pc, with these locals and this stack, the end is reached' -/
def k_W : k_X → k_S → Nat → Nat → Nat → List (Option k_AV) → List k_AV → Prop
  | (p, l, e, R, s, m, args, below, meth, c, Q, G, A0, σ0), σ, k, n, pc, L, st =>
    ∀ (A : k_A) (E : Nat → Nat) (H : Heap) (locs : List Loc) (ls : Array Slot), k_HR G A E σ H → k_Ext A0 A σ0 σ → k_okL σ L → k_oks σ st → va_S (fun q => G.2.2.1 ≤ q) s.heap H locs → k_has A L ls c.maxLocals →
      W p l e R s m args below meth c H locs k n Q (F0 m pc ls (st.map (k_c A)))
/-- .. with an exception of class E thrown at pc -/
def k_T : k_X → k_S → Nat → Nat → Nat → List (Option k_AV) → String → Prop
  | (p, l, e, R, s, m, args, below, meth, c, Q, G, A0, σ0), σ, k, n, pc, L, X =>
    ∀ (A : k_A) (E : Nat → Nat) (H : Heap) (locs : List Loc) (ls : Array Slot) (rest : List Value) (q : Addr) (ce : Cell), k_HR G A E σ H → k_Ext A0 A σ0 σ → k_okL σ L → va_S (fun q => G.2.2.1 ≤ q) s.heap H locs → k_has A L ls c.maxLocals →
      H[q]? = some ce → ce.vm = .none → s.vm.findClass X = some ce.cls → vx_W p l e R s m args below meth c H locs k n Q (F0 m pc ls rest) q

theorem k_cat1 {A : k_A} {v : k_AV} (h : k_w (some v) = false) : (k_c A v).category = 1 := by
  have := k_w_cat (A := A) h
  rcases lv_cat (k_c A v) with q | q
  · exact q
  · exact absurd q this
/-- the tables' words that a call may carry on -/
def k_Tb : List Cond := lw_tbl.filter goodWord
theorem k_mem (i : Nat) {w : Cond} (h : lw_tbl[i]? = some w) (hg : goodWord w = true) : w ∈ k_Tb := List.mem_filter.mpr ⟨List.mem_of_getElem? h, hg⟩
/-- the texts of exceptions, each by its class and entry -/
abbrev k_txt : List (String × Nat × String) := [("PrecedentHall", 309, "a number is out of range"), ("PrecedentHall", 311, "there are as many as there can be"), ("PrecedentHall", 315, "there is none with this number"), ("PrecedentHall", 88, "the day of the repeal was told before"), ("PrecedentHall", 114, "no rule applies"), ("PrecedentHall", 141, "the user is not sanctioned"), ("PrecedentHall", 165, "reporter and accused are the same"), ("PrecedentHall", 318, "the report is decided"), ("PrecedentHall", 201, "the user is a party"), ("PrecedentHall", 204, "the user is sanctioned"), ("PrecedentHall", 219, "there is no precedent"), ("PrecedentHall", 221, "the votes are less than the quorum"), ("PrecedentHall", 320, "no decision stands"), ("PrecedentHall", 240, "the report is not decided"), ("PrecedentHall", 246, "the report was under appeal before"), ("PrecedentHall", 273, "the days end before"), ("PrecedentHall", 291, "no such kind of reports"), ("PrecedentHall", 295, "no report stands as guilty"), ("PrecedentHall", 304, "no new decision on appeal")]
/-- the exceptions' classes: no two of them are castable -/
abbrev k_exs : List String := ["java/lang/IllegalArgumentException", "java/lang/IllegalStateException", "java/lang/IndexOutOfBoundsException", "java/util/NoSuchElementException", "java/lang/UnsupportedOperationException", "java/lang/ArithmeticException"]
/-- what is fixed, at a state -/
def k_KS (G : k_G) (s : State) : Prop :=
  va_K G.1 k_cl (k_tys G.2.1) s ∧ G.2.2.1 ≤ s.heap.size ∧
  vx_Zq Bundle.tN "UNASSIGNED_STACK" Bundle.steD (fun q => G.2.2.1 ≤ q) s s.heap ∧ vx_Zq Bundle.tN "SUPPRESSED_SENTINEL" Bundle.listD (fun q => G.2.2.1 ≤ q) s s.heap ∧
  (∀ j q, k_txt[j]? = some q → vk_R q.1 q.2.1 q.2.2 (G.2.2.2.2 j) s) ∧ (∀ a ∈ k_exs, ∀ b ∈ k_exs, a ≠ b → va_Nc a b s) ∧
  va_Z "java/util/ArrayList" "DEFAULTCAPACITY_EMPTY_ELEMENTDATA" "[Ljava/lang/Object;" (.ref G.2.2.2.1) (fun q => G.2.2.1 ≤ q) s s.heap ∧ s.heap[G.2.2.2.1]? = some (arrV (G.2.1 5) 0 (fun _ => .null)) ∧ G.2.2.2.1 < G.2.2.1 ∧ ∃ mi : Nat, va_Mi "[Ljava/lang/Object;" mi s
theorem k_KS.call {G : k_G} {s U : State} {H : Heap} {locs : List Loc} (h : k_KS G s) (hW : s.WarmedH U.vm) (hU : U.heap = H) (hS : va_S (fun q => G.2.2.1 ≤ q) s.heap H locs) : k_KS G U := by
  obtain ⟨h1, h2, h3, h4, h5, h6, h7, h8, h9, mi, h10⟩ := h
  have hk : ∀ a : Nat, a < s.heap.size → ¬ G.2.2.1 ≤ a → U.heap[a]? = s.heap[a]? := fun a ha hn => by rw [hU]; exact hS.2.1 a ha hn
  refine ⟨va_K.moved hW.alike h1, by rw [hU]; exact Nat.le_trans h2 hS.1, vx_Zq.moved hW.alike (h3.kept hk), vx_Zq.moved hW.alike (h4.kept hk), fun j q hq => vk_R.warm hW (h5 j q hq), fun a ha b hb hab => va_Nc.moved hW.alike (h6 a ha b hb hab), va_Z.moved hW.alike (h7.kept hk), ?_, h9, mi, va_Mi.moved hW.alike h10⟩
  rw [hk _ (Nat.lt_of_lt_of_le h9 h2) (Nat.not_le.mpr h9)]
  exact h8
theorem k_KS.blind {G : k_G} {U : State} {g : JFrame} {mk : MethodId} {a : Array Value} (h : k_KS G U) : k_KS G (U.calling g mk a) :=
  k_KS.call (H := U.heap) (locs := []) h (State.WarmedH.refl U) rfl va_S.rf
/-- what holds of a method's run from its start: the machine, the code, who owns it, the tables' words, the fixed things -/
def k_Ok : k_X → String → ByteArray → Nat → Prop
  | (p, l, e, R, s, m, args, below, meth, c, Q, G, A0, σ0), own, cc, nL =>
    p.tables.exec = Jvm.exec ∧ c.code = cc ∧ c.maxLocals = nL ∧ s.vm.findClass own = some m.cls ∧ (∀ w ∈ k_Tb, w.before args s = true) ∧ k_KS G s ∧ meth.locks = false ∧ l.flags = flags0
theorem r_iconst {X : k_X} {own : String} {cc : ByteArray} {nL : Nat} (h : k_Ok X own cc nL) {σ : k_S} {k n pc : Nat} {L : List (Option k_AV)} {st : List k_AV} {z : Int} {v : Int32} (d : decode cc pc = .ok (.iconst z, 1)) (hv : Int32.ofInt z = v) (kk : k_W X σ k n (pc + 1) L (k_i v :: st)) : k_W X σ k n pc L (st) := by
  obtain ⟨p, l, e, R, s, m, args, below, meth, c, Q, G, A0, σ0⟩ := X
  intro A E H locs ls hR hE hok hos hS hl
  exact lv_iconst h.1 h.2.1 d hv (kk A E H locs ls hR hE hok (hos.cons trivial) hS hl)
theorem r_bipush {X : k_X} {own : String} {cc : ByteArray} {nL : Nat} (h : k_Ok X own cc nL) {σ : k_S} {k n pc : Nat} {L : List (Option k_AV)} {st : List k_AV} {z : Int} {v : Int32} (d : decode cc pc = .ok (.bipush z, 2)) (hv : (Int8.ofInt z).toInt32 = v) (kk : k_W X σ k n (pc + 2) L (k_i v :: st)) : k_W X σ k n pc L (st) := by
  obtain ⟨p, l, e, R, s, m, args, below, meth, c, Q, G, A0, σ0⟩ := X
  intro A E H locs ls hR hE hok hos hS hl
  exact lv_bipush h.1 h.2.1 d hv (kk A E H locs ls hR hE hok (hos.cons trivial) hS hl)
theorem r_sipush {X : k_X} {own : String} {cc : ByteArray} {nL : Nat} (h : k_Ok X own cc nL) {σ : k_S} {k n pc : Nat} {L : List (Option k_AV)} {st : List k_AV} {z : Int} {v : Int32} (d : decode cc pc = .ok (.sipush z, 3)) (hv : (Int16.ofInt z).toInt32 = v) (kk : k_W X σ k n (pc + 3) L (k_i v :: st)) : k_W X σ k n pc L (st) := by
  obtain ⟨p, l, e, R, s, m, args, below, meth, c, Q, G, A0, σ0⟩ := X
  intro A E H locs ls hR hE hok hos hS hl
  exact lv_sipush h.1 h.2.1 d hv (kk A E H locs ls hR hE hok (hos.cons trivial) hS hl)
theorem r_lconst {X : k_X} {own : String} {cc : ByteArray} {nL : Nat} (h : k_Ok X own cc nL) {σ : k_S} {k n pc : Nat} {L : List (Option k_AV)} {st : List k_AV} {z : Fin 2} {v : Int64} (d : decode cc pc = .ok (.lconst z, 1)) (hv : Int64.ofNat (z : Nat) = v) (kk : k_W X σ k n (pc + 1) L (k_l v :: st)) : k_W X σ k n pc L (st) := by
  obtain ⟨p, l, e, R, s, m, args, below, meth, c, Q, G, A0, σ0⟩ := X
  intro A E H locs ls hR hE hok hos hS hl
  exact lv_lconst h.1 h.2.1 d hv (kk A E H locs ls hR hE hok (hos.cons trivial) hS hl)
theorem r_null {X : k_X} {own : String} {cc : ByteArray} {nL : Nat} (h : k_Ok X own cc nL) {σ : k_S} {k n pc : Nat} {L : List (Option k_AV)} {st : List k_AV}  (d : decode cc pc = .ok (.aconst_null, 1))  (kk : k_W X σ k n (pc + 1) L (k_n :: st)) : k_W X σ k n pc L (st) := by
  obtain ⟨p, l, e, R, s, m, args, below, meth, c, Q, G, A0, σ0⟩ := X
  intro A E H locs ls hR hE hok hos hS hl
  exact lv_null h.1 h.2.1 d (kk A E H locs ls hR hE hok (hos.cons trivial) hS hl)
theorem r_iload_n {X : k_X} {own : String} {cc : ByteArray} {nL : Nat} (h : k_Ok X own cc nL) {σ : k_S} {k n pc : Nat} {L : List (Option k_AV)} {st : List k_AV} {z : Fin 4} {x : Int32} (d : decode cc pc = .ok (.iload_n z, 1)) (hL : L[(z : Nat)]? = some (some (k_i x))) (kk : k_W X σ k n (pc + 1) L (k_i x :: st)) : k_W X σ k n pc L (st) := by
  obtain ⟨p, l, e, R, s, m, args, below, meth, c, Q, G, A0, σ0⟩ := X
  intro A E H locs ls hR hE hok hos hS hl
  exact lv_iload_n h.1 h.2.1 d rfl (hl.2.2 _ _ hL) (kk A E H locs ls hR hE hok (hos.cons trivial) hS hl)
theorem r_lload_n {X : k_X} {own : String} {cc : ByteArray} {nL : Nat} (h : k_Ok X own cc nL) {σ : k_S} {k n pc : Nat} {L : List (Option k_AV)} {st : List k_AV} {z : Fin 4} {x : Int64} (d : decode cc pc = .ok (.lload_n z, 1)) (hL : L[(z : Nat)]? = some (some (k_l x))) (kk : k_W X σ k n (pc + 1) L (k_l x :: st)) : k_W X σ k n pc L (st) := by
  obtain ⟨p, l, e, R, s, m, args, below, meth, c, Q, G, A0, σ0⟩ := X
  intro A E H locs ls hR hE hok hos hS hl
  exact lv_lload_n h.1 h.2.1 d rfl (hl.2.2 _ _ hL) (kk A E H locs ls hR hE hok (hos.cons trivial) hS hl)
theorem r_fload_n {X : k_X} {own : String} {cc : ByteArray} {nL : Nat} (h : k_Ok X own cc nL) {σ : k_S} {k n pc : Nat} {L : List (Option k_AV)} {st : List k_AV} {z : Fin 4} {x : UInt32} (d : decode cc pc = .ok (.fload_n z, 1)) (hL : L[(z : Nat)]? = some (some (k_f x))) (kk : k_W X σ k n (pc + 1) L (k_f x :: st)) : k_W X σ k n pc L (st) := by
  obtain ⟨p, l, e, R, s, m, args, below, meth, c, Q, G, A0, σ0⟩ := X
  intro A E H locs ls hR hE hok hos hS hl
  exact lv_fload_n h.1 h.2.1 d rfl (hl.2.2 _ _ hL) (kk A E H locs ls hR hE hok (hos.cons trivial) hS hl)
theorem r_dload_n {X : k_X} {own : String} {cc : ByteArray} {nL : Nat} (h : k_Ok X own cc nL) {σ : k_S} {k n pc : Nat} {L : List (Option k_AV)} {st : List k_AV} {z : Fin 4} {x : UInt64} (d : decode cc pc = .ok (.dload_n z, 1)) (hL : L[(z : Nat)]? = some (some (k_d x))) (kk : k_W X σ k n (pc + 1) L (k_d x :: st)) : k_W X σ k n pc L (st) := by
  obtain ⟨p, l, e, R, s, m, args, below, meth, c, Q, G, A0, σ0⟩ := X
  intro A E H locs ls hR hE hok hos hS hl
  exact lv_dload_n h.1 h.2.1 d rfl (hl.2.2 _ _ hL) (kk A E H locs ls hR hE hok (hos.cons trivial) hS hl)
theorem r_aload_n {X : k_X} {own : String} {cc : ByteArray} {nL : Nat} (h : k_Ok X own cc nL) {σ : k_S} {k n pc : Nat} {L : List (Option k_AV)} {st : List k_AV} {z : Fin 4} {q : Nat × Nat} (d : decode cc pc = .ok (.aload_n z, 1)) (hL : L[(z : Nat)]? = some (some (.inr q))) (kk : k_W X σ k n (pc + 1) L (.inr q :: st)) : k_W X σ k n pc L (st) := by
  obtain ⟨p, l, e, R, s, m, args, below, meth, c, Q, G, A0, σ0⟩ := X
  intro A E H locs ls hR hE hok hos hS hl
  exact lv_aload_n h.1 h.2.1 d rfl (hl.2.2 _ _ hL) (kk A E H locs ls hR hE hok (hos.cons (hok _ (List.mem_of_getElem? hL))) hS hl)
theorem r_aload_nR {X : k_X} {own : String} {cc : ByteArray} {nL : Nat} (h : k_Ok X own cc nL) {σ : k_S} {k n pc : Nat} {L : List (Option k_AV)} {st : List k_AV} {z : Fin 4} {x : Nat} (d : decode cc pc = .ok (.aload_n z, 1)) (hL : L[(z : Nat)]? = some (some (k_r x))) (kk : k_W X σ k n (pc + 1) L (k_r x :: st)) : k_W X σ k n pc L (st) := by
  obtain ⟨p, l, e, R, s, m, args, below, meth, c, Q, G, A0, σ0⟩ := X
  intro A E H locs ls hR hE hok hos hS hl
  exact lv_aload_n h.1 h.2.1 d rfl (hl.2.2 _ _ hL) (kk A E H locs ls hR hE hok (hos.cons trivial) hS hl)
theorem r_aload_nN {X : k_X} {own : String} {cc : ByteArray} {nL : Nat} (h : k_Ok X own cc nL) {σ : k_S} {k n pc : Nat} {L : List (Option k_AV)} {st : List k_AV} {z : Fin 4} (d : decode cc pc = .ok (.aload_n z, 1)) (hL : L[(z : Nat)]? = some (some k_n)) (kk : k_W X σ k n (pc + 1) L (k_n :: st)) : k_W X σ k n pc L (st) := by
  obtain ⟨p, l, e, R, s, m, args, below, meth, c, Q, G, A0, σ0⟩ := X
  intro A E H locs ls hR hE hok hos hS hl
  exact lv_aload_nN h.1 h.2.1 d rfl (hl.2.2 _ _ hL) (kk A E H locs ls hR hE hok (hos.cons trivial) hS hl)
theorem r_iload {X : k_X} {own : String} {cc : ByteArray} {nL : Nat} (h : k_Ok X own cc nL) {σ : k_S} {k n pc : Nat} {L : List (Option k_AV)} {st : List k_AV} {z : Nat} {x : Int32} (d : decode cc pc = .ok (.iload z, 2)) (hL : L[z]? = some (some (k_i x))) (kk : k_W X σ k n (pc + 2) L (k_i x :: st)) : k_W X σ k n pc L (st) := by
  obtain ⟨p, l, e, R, s, m, args, below, meth, c, Q, G, A0, σ0⟩ := X
  intro A E H locs ls hR hE hok hos hS hl
  exact lv_iload h.1 h.2.1 d (hl.2.2 _ _ hL) (kk A E H locs ls hR hE hok (hos.cons trivial) hS hl)
theorem r_lload {X : k_X} {own : String} {cc : ByteArray} {nL : Nat} (h : k_Ok X own cc nL) {σ : k_S} {k n pc : Nat} {L : List (Option k_AV)} {st : List k_AV} {z : Nat} {x : Int64} (d : decode cc pc = .ok (.lload z, 2)) (hL : L[z]? = some (some (k_l x))) (kk : k_W X σ k n (pc + 2) L (k_l x :: st)) : k_W X σ k n pc L (st) := by
  obtain ⟨p, l, e, R, s, m, args, below, meth, c, Q, G, A0, σ0⟩ := X
  intro A E H locs ls hR hE hok hos hS hl
  exact lv_lload h.1 h.2.1 d (hl.2.2 _ _ hL) (kk A E H locs ls hR hE hok (hos.cons trivial) hS hl)
theorem r_fload {X : k_X} {own : String} {cc : ByteArray} {nL : Nat} (h : k_Ok X own cc nL) {σ : k_S} {k n pc : Nat} {L : List (Option k_AV)} {st : List k_AV} {z : Nat} {x : UInt32} (d : decode cc pc = .ok (.fload z, 2)) (hL : L[z]? = some (some (k_f x))) (kk : k_W X σ k n (pc + 2) L (k_f x :: st)) : k_W X σ k n pc L (st) := by
  obtain ⟨p, l, e, R, s, m, args, below, meth, c, Q, G, A0, σ0⟩ := X
  intro A E H locs ls hR hE hok hos hS hl
  exact lv_fload h.1 h.2.1 d (hl.2.2 _ _ hL) (kk A E H locs ls hR hE hok (hos.cons trivial) hS hl)
theorem r_dload {X : k_X} {own : String} {cc : ByteArray} {nL : Nat} (h : k_Ok X own cc nL) {σ : k_S} {k n pc : Nat} {L : List (Option k_AV)} {st : List k_AV} {z : Nat} {x : UInt64} (d : decode cc pc = .ok (.dload z, 2)) (hL : L[z]? = some (some (k_d x))) (kk : k_W X σ k n (pc + 2) L (k_d x :: st)) : k_W X σ k n pc L (st) := by
  obtain ⟨p, l, e, R, s, m, args, below, meth, c, Q, G, A0, σ0⟩ := X
  intro A E H locs ls hR hE hok hos hS hl
  exact lv_dload h.1 h.2.1 d (hl.2.2 _ _ hL) (kk A E H locs ls hR hE hok (hos.cons trivial) hS hl)
theorem r_aload {X : k_X} {own : String} {cc : ByteArray} {nL : Nat} (h : k_Ok X own cc nL) {σ : k_S} {k n pc : Nat} {L : List (Option k_AV)} {st : List k_AV} {z : Nat} {q : Nat × Nat} (d : decode cc pc = .ok (.aload z, 2)) (hL : L[z]? = some (some (.inr q))) (kk : k_W X σ k n (pc + 2) L (.inr q :: st)) : k_W X σ k n pc L (st) := by
  obtain ⟨p, l, e, R, s, m, args, below, meth, c, Q, G, A0, σ0⟩ := X
  intro A E H locs ls hR hE hok hos hS hl
  exact lv_aload h.1 h.2.1 d (hl.2.2 _ _ hL) (kk A E H locs ls hR hE hok (hos.cons (hok _ (List.mem_of_getElem? hL))) hS hl)
theorem r_aloadR {X : k_X} {own : String} {cc : ByteArray} {nL : Nat} (h : k_Ok X own cc nL) {σ : k_S} {k n pc : Nat} {L : List (Option k_AV)} {st : List k_AV} {z : Nat} {x : Nat} (d : decode cc pc = .ok (.aload z, 2)) (hL : L[z]? = some (some (k_r x))) (kk : k_W X σ k n (pc + 2) L (k_r x :: st)) : k_W X σ k n pc L (st) := by
  obtain ⟨p, l, e, R, s, m, args, below, meth, c, Q, G, A0, σ0⟩ := X
  intro A E H locs ls hR hE hok hos hS hl
  exact lv_aload h.1 h.2.1 d (hl.2.2 _ _ hL) (kk A E H locs ls hR hE hok (hos.cons trivial) hS hl)
theorem r_aloadN {X : k_X} {own : String} {cc : ByteArray} {nL : Nat} (h : k_Ok X own cc nL) {σ : k_S} {k n pc : Nat} {L : List (Option k_AV)} {st : List k_AV} {z : Nat} (d : decode cc pc = .ok (.aload z, 2)) (hL : L[z]? = some (some k_n)) (kk : k_W X σ k n (pc + 2) L (k_n :: st)) : k_W X σ k n pc L (st) := by
  obtain ⟨p, l, e, R, s, m, args, below, meth, c, Q, G, A0, σ0⟩ := X
  intro A E H locs ls hR hE hok hos hS hl
  exact lv_aloadN h.1 h.2.1 d (hl.2.2 _ _ hL) (kk A E H locs ls hR hE hok (hos.cons trivial) hS hl)
theorem r_istore_n {X : k_X} {own : String} {cc : ByteArray} {nL : Nat} (h : k_Ok X own cc nL) {σ : k_S} {k n pc : Nat} {L : List (Option k_AV)} {st : List k_AV} {z : Fin 4} {x : Int32} {L' : List (Option k_AV)} (d : decode cc pc = .ok (.istore_n z, 1)) (hn : (z : Nat) < nL) (hL : k_st L (z : Nat) (k_i x) = L') (kk : k_W X σ k n (pc + 1) L' st) : k_W X σ k n pc L (k_i x :: st) := by
  subst hL
  obtain ⟨p, l, e, R, s, m, args, below, meth, c, Q, G, A0, σ0⟩ := X
  intro A E H locs ls hR hE hok hos hS hl
  refine lv_istore_n h.1 h.2.1 d rfl hl.lv (by rw [h.2.2.1]; exact hn) rfl (fun ls' h9 => kk A E H locs ls' hR hE (hok.st trivial) hos.tail hS (k_has.st (v := k_i x) h9))
theorem r_lstore_n {X : k_X} {own : String} {cc : ByteArray} {nL : Nat} (h : k_Ok X own cc nL) {σ : k_S} {k n pc : Nat} {L : List (Option k_AV)} {st : List k_AV} {z : Fin 4} {x : Int64} {L' : List (Option k_AV)} (d : decode cc pc = .ok (.lstore_n z, 1)) (hn : (z : Nat) + 1 < nL) (hL : k_st2 L (z : Nat) (k_l x) = L') (kk : k_W X σ k n (pc + 1) L' st) : k_W X σ k n pc L (k_l x :: st) := by
  subst hL
  obtain ⟨p, l, e, R, s, m, args, below, meth, c, Q, G, A0, σ0⟩ := X
  intro A E H locs ls hR hE hok hos hS hl
  refine lv_lstore_n h.1 h.2.1 d rfl hl.lv (by rw [h.2.2.1]; exact hn) rfl (fun ls' h9 => kk A E H locs ls' hR hE (hok.st2 trivial) hos.tail hS (k_has.st2 (v := k_l x) h9))
theorem r_fstore_n {X : k_X} {own : String} {cc : ByteArray} {nL : Nat} (h : k_Ok X own cc nL) {σ : k_S} {k n pc : Nat} {L : List (Option k_AV)} {st : List k_AV} {z : Fin 4} {x : UInt32} {L' : List (Option k_AV)} (d : decode cc pc = .ok (.fstore_n z, 1)) (hn : (z : Nat) < nL) (hL : k_st L (z : Nat) (k_f x) = L') (kk : k_W X σ k n (pc + 1) L' st) : k_W X σ k n pc L (k_f x :: st) := by
  subst hL
  obtain ⟨p, l, e, R, s, m, args, below, meth, c, Q, G, A0, σ0⟩ := X
  intro A E H locs ls hR hE hok hos hS hl
  refine lv_fstore_n h.1 h.2.1 d rfl hl.lv (by rw [h.2.2.1]; exact hn) rfl (fun ls' h9 => kk A E H locs ls' hR hE (hok.st trivial) hos.tail hS (k_has.st (v := k_f x) h9))
theorem r_dstore_n {X : k_X} {own : String} {cc : ByteArray} {nL : Nat} (h : k_Ok X own cc nL) {σ : k_S} {k n pc : Nat} {L : List (Option k_AV)} {st : List k_AV} {z : Fin 4} {x : UInt64} {L' : List (Option k_AV)} (d : decode cc pc = .ok (.dstore_n z, 1)) (hn : (z : Nat) + 1 < nL) (hL : k_st2 L (z : Nat) (k_d x) = L') (kk : k_W X σ k n (pc + 1) L' st) : k_W X σ k n pc L (k_d x :: st) := by
  subst hL
  obtain ⟨p, l, e, R, s, m, args, below, meth, c, Q, G, A0, σ0⟩ := X
  intro A E H locs ls hR hE hok hos hS hl
  refine lv_dstore_n h.1 h.2.1 d rfl hl.lv (by rw [h.2.2.1]; exact hn) rfl (fun ls' h9 => kk A E H locs ls' hR hE (hok.st2 trivial) hos.tail hS (k_has.st2 (v := k_d x) h9))
theorem r_astore_n {X : k_X} {own : String} {cc : ByteArray} {nL : Nat} (h : k_Ok X own cc nL) {σ : k_S} {k n pc : Nat} {L : List (Option k_AV)} {st : List k_AV} {z : Fin 4} {q : Nat × Nat} {L' : List (Option k_AV)} (d : decode cc pc = .ok (.astore_n z, 1)) (hn : (z : Nat) < nL) (hL : k_st L (z : Nat) (.inr q) = L') (kk : k_W X σ k n (pc + 1) L' st) : k_W X σ k n pc L (.inr q :: st) := by
  subst hL
  obtain ⟨p, l, e, R, s, m, args, below, meth, c, Q, G, A0, σ0⟩ := X
  intro A E H locs ls hR hE hok hos hS hl
  refine lv_astore_n h.1 h.2.1 d rfl hl.lv (by rw [h.2.2.1]; exact hn) rfl (fun ls' h9 => kk A E H locs ls' hR hE (hok.st hos.head) hos.tail hS (k_has.st (v := .inr q) h9))
theorem r_astore_nR {X : k_X} {own : String} {cc : ByteArray} {nL : Nat} (h : k_Ok X own cc nL) {σ : k_S} {k n pc : Nat} {L : List (Option k_AV)} {st : List k_AV} {z : Fin 4} {x : Nat} {L' : List (Option k_AV)} (d : decode cc pc = .ok (.astore_n z, 1)) (hn : (z : Nat) < nL) (hL : k_st L (z : Nat) (k_r x) = L') (kk : k_W X σ k n (pc + 1) L' st) : k_W X σ k n pc L (k_r x :: st) := by
  subst hL
  obtain ⟨p, l, e, R, s, m, args, below, meth, c, Q, G, A0, σ0⟩ := X
  intro A E H locs ls hR hE hok hos hS hl
  refine lv_astore_n h.1 h.2.1 d rfl hl.lv (by rw [h.2.2.1]; exact hn) rfl (fun ls' h9 => kk A E H locs ls' hR hE (hok.st trivial) hos.tail hS (k_has.st (v := k_r x) h9))
theorem r_istore {X : k_X} {own : String} {cc : ByteArray} {nL : Nat} (h : k_Ok X own cc nL) {σ : k_S} {k n pc : Nat} {L : List (Option k_AV)} {st : List k_AV} {z : Nat} {x : Int32} {L' : List (Option k_AV)} (d : decode cc pc = .ok (.istore z, 2)) (hn : z < nL) (hL : k_st L z (k_i x) = L') (kk : k_W X σ k n (pc + 2) L' st) : k_W X σ k n pc L (k_i x :: st) := by
  subst hL
  obtain ⟨p, l, e, R, s, m, args, below, meth, c, Q, G, A0, σ0⟩ := X
  intro A E H locs ls hR hE hok hos hS hl
  refine lv_istore h.1 h.2.1 d hl.lv (by rw [h.2.2.1]; exact hn) rfl (fun ls' h9 => kk A E H locs ls' hR hE (hok.st trivial) hos.tail hS (k_has.st (v := k_i x) h9))
theorem r_lstore {X : k_X} {own : String} {cc : ByteArray} {nL : Nat} (h : k_Ok X own cc nL) {σ : k_S} {k n pc : Nat} {L : List (Option k_AV)} {st : List k_AV} {z : Nat} {x : Int64} {L' : List (Option k_AV)} (d : decode cc pc = .ok (.lstore z, 2)) (hn : z + 1 < nL) (hL : k_st2 L z (k_l x) = L') (kk : k_W X σ k n (pc + 2) L' st) : k_W X σ k n pc L (k_l x :: st) := by
  subst hL
  obtain ⟨p, l, e, R, s, m, args, below, meth, c, Q, G, A0, σ0⟩ := X
  intro A E H locs ls hR hE hok hos hS hl
  refine lv_lstore h.1 h.2.1 d hl.lv (by rw [h.2.2.1]; exact hn) rfl (fun ls' h9 => kk A E H locs ls' hR hE (hok.st2 trivial) hos.tail hS (k_has.st2 (v := k_l x) h9))
theorem r_fstore {X : k_X} {own : String} {cc : ByteArray} {nL : Nat} (h : k_Ok X own cc nL) {σ : k_S} {k n pc : Nat} {L : List (Option k_AV)} {st : List k_AV} {z : Nat} {x : UInt32} {L' : List (Option k_AV)} (d : decode cc pc = .ok (.fstore z, 2)) (hn : z < nL) (hL : k_st L z (k_f x) = L') (kk : k_W X σ k n (pc + 2) L' st) : k_W X σ k n pc L (k_f x :: st) := by
  subst hL
  obtain ⟨p, l, e, R, s, m, args, below, meth, c, Q, G, A0, σ0⟩ := X
  intro A E H locs ls hR hE hok hos hS hl
  refine lv_fstore h.1 h.2.1 d hl.lv (by rw [h.2.2.1]; exact hn) rfl (fun ls' h9 => kk A E H locs ls' hR hE (hok.st trivial) hos.tail hS (k_has.st (v := k_f x) h9))
theorem r_dstore {X : k_X} {own : String} {cc : ByteArray} {nL : Nat} (h : k_Ok X own cc nL) {σ : k_S} {k n pc : Nat} {L : List (Option k_AV)} {st : List k_AV} {z : Nat} {x : UInt64} {L' : List (Option k_AV)} (d : decode cc pc = .ok (.dstore z, 2)) (hn : z + 1 < nL) (hL : k_st2 L z (k_d x) = L') (kk : k_W X σ k n (pc + 2) L' st) : k_W X σ k n pc L (k_d x :: st) := by
  subst hL
  obtain ⟨p, l, e, R, s, m, args, below, meth, c, Q, G, A0, σ0⟩ := X
  intro A E H locs ls hR hE hok hos hS hl
  refine lv_dstore h.1 h.2.1 d hl.lv (by rw [h.2.2.1]; exact hn) rfl (fun ls' h9 => kk A E H locs ls' hR hE (hok.st2 trivial) hos.tail hS (k_has.st2 (v := k_d x) h9))
theorem r_astore {X : k_X} {own : String} {cc : ByteArray} {nL : Nat} (h : k_Ok X own cc nL) {σ : k_S} {k n pc : Nat} {L : List (Option k_AV)} {st : List k_AV} {z : Nat} {q : Nat × Nat} {L' : List (Option k_AV)} (d : decode cc pc = .ok (.astore z, 2)) (hn : z < nL) (hL : k_st L z (.inr q) = L') (kk : k_W X σ k n (pc + 2) L' st) : k_W X σ k n pc L (.inr q :: st) := by
  subst hL
  obtain ⟨p, l, e, R, s, m, args, below, meth, c, Q, G, A0, σ0⟩ := X
  intro A E H locs ls hR hE hok hos hS hl
  refine lv_astore h.1 h.2.1 d hl.lv (by rw [h.2.2.1]; exact hn) rfl (fun ls' h9 => kk A E H locs ls' hR hE (hok.st hos.head) hos.tail hS (k_has.st (v := .inr q) h9))
theorem r_astoreR {X : k_X} {own : String} {cc : ByteArray} {nL : Nat} (h : k_Ok X own cc nL) {σ : k_S} {k n pc : Nat} {L : List (Option k_AV)} {st : List k_AV} {z : Nat} {x : Nat} {L' : List (Option k_AV)} (d : decode cc pc = .ok (.astore z, 2)) (hn : z < nL) (hL : k_st L z (k_r x) = L') (kk : k_W X σ k n (pc + 2) L' st) : k_W X σ k n pc L (k_r x :: st) := by
  subst hL
  obtain ⟨p, l, e, R, s, m, args, below, meth, c, Q, G, A0, σ0⟩ := X
  intro A E H locs ls hR hE hok hos hS hl
  refine lv_astore h.1 h.2.1 d hl.lv (by rw [h.2.2.1]; exact hn) rfl (fun ls' h9 => kk A E H locs ls' hR hE (hok.st trivial) hos.tail hS (k_has.st (v := k_r x) h9))
theorem r_iinc {X : k_X} {own : String} {cc : ByteArray} {nL : Nat} (h : k_Ok X own cc nL) {σ : k_S} {k n pc : Nat} {L : List (Option k_AV)} {st : List k_AV} {z : Nat} {w : Int} {x v : Int32} {L' : List (Option k_AV)} (d : decode cc pc = .ok (.iinc z w, 3)) (hx : L[z]? = some (some (k_i x))) (hv : x + Int32.ofInt w = v) (hn : z < nL) (hL : k_st L z (k_i v) = L') (kk : k_W X σ k n (pc + 3) L' st) : k_W X σ k n pc L st := by
  subst hL
  obtain ⟨p, l, e, R, s, m, args, below, meth, c, Q, G, A0, σ0⟩ := X
  intro A E H locs ls hR hE hok hos hS hl
  obtain ⟨j, hj⟩ := List.getElem?_of_mem (k_lv_mem (A := A) (q := (z, .int x)) |>.mpr ⟨k_i x, hx, rfl⟩)
  exact lv_iinc h.1 h.2.1 d hl.lv (k := j) hj hv (by rw [h.2.2.1]; exact hn) rfl (fun ls' h9 => kk A E H locs ls' hR hE (hok.st trivial) hos hS (k_has.st (v := k_i v) h9))
theorem r_iadd {X : k_X} {own : String} {cc : ByteArray} {nL : Nat} (h : k_Ok X own cc nL) {σ : k_S} {k n pc : Nat} {L : List (Option k_AV)} {st : List k_AV} {x y : Int32} (d : decode cc pc = .ok (.iadd, 1))  (kk : k_W X σ k n (pc + 1) L (k_i (x + y) :: st)) : k_W X σ k n pc L (k_i y :: k_i x :: st) := by
  obtain ⟨p, l, e, R, s, m, args, below, meth, c, Q, G, A0, σ0⟩ := X
  intro A E H locs ls hR hE hok hos hS hl
  exact lv_iadd h.1 h.2.1 d (kk A E H locs ls hR hE hok (hos.tail.tail.cons trivial) hS hl)
theorem r_isub {X : k_X} {own : String} {cc : ByteArray} {nL : Nat} (h : k_Ok X own cc nL) {σ : k_S} {k n pc : Nat} {L : List (Option k_AV)} {st : List k_AV} {x y : Int32} (d : decode cc pc = .ok (.isub, 1))  (kk : k_W X σ k n (pc + 1) L (k_i (x - y) :: st)) : k_W X σ k n pc L (k_i y :: k_i x :: st) := by
  obtain ⟨p, l, e, R, s, m, args, below, meth, c, Q, G, A0, σ0⟩ := X
  intro A E H locs ls hR hE hok hos hS hl
  exact lv_isub h.1 h.2.1 d (kk A E H locs ls hR hE hok (hos.tail.tail.cons trivial) hS hl)
theorem r_imul {X : k_X} {own : String} {cc : ByteArray} {nL : Nat} (h : k_Ok X own cc nL) {σ : k_S} {k n pc : Nat} {L : List (Option k_AV)} {st : List k_AV} {x y : Int32} (d : decode cc pc = .ok (.imul, 1))  (kk : k_W X σ k n (pc + 1) L (k_i (x * y) :: st)) : k_W X σ k n pc L (k_i y :: k_i x :: st) := by
  obtain ⟨p, l, e, R, s, m, args, below, meth, c, Q, G, A0, σ0⟩ := X
  intro A E H locs ls hR hE hok hos hS hl
  exact lv_imul h.1 h.2.1 d (kk A E H locs ls hR hE hok (hos.tail.tail.cons trivial) hS hl)
theorem r_iand {X : k_X} {own : String} {cc : ByteArray} {nL : Nat} (h : k_Ok X own cc nL) {σ : k_S} {k n pc : Nat} {L : List (Option k_AV)} {st : List k_AV} {x y : Int32} (d : decode cc pc = .ok (.iand, 1))  (kk : k_W X σ k n (pc + 1) L (k_i (x &&& y) :: st)) : k_W X σ k n pc L (k_i y :: k_i x :: st) := by
  obtain ⟨p, l, e, R, s, m, args, below, meth, c, Q, G, A0, σ0⟩ := X
  intro A E H locs ls hR hE hok hos hS hl
  exact lv_iand h.1 h.2.1 d (kk A E H locs ls hR hE hok (hos.tail.tail.cons trivial) hS hl)
theorem r_idiv {X : k_X} {own : String} {cc : ByteArray} {nL : Nat} (h : k_Ok X own cc nL) {σ : k_S} {k n pc : Nat} {L : List (Option k_AV)} {st : List k_AV} {x y : Int32} (d : decode cc pc = .ok (.idiv, 1)) (hy : ¬ y = 0) (kk : k_W X σ k n (pc + 1) L (k_i (x / y) :: st)) : k_W X σ k n pc L (k_i y :: k_i x :: st) := by
  obtain ⟨p, l, e, R, s, m, args, below, meth, c, Q, G, A0, σ0⟩ := X
  intro A E H locs ls hR hE hok hos hS hl
  exact lv_idiv h.1 h.2.1 d hy (kk A E H locs ls hR hE hok (hos.tail.tail.cons trivial) hS hl)
theorem r_ineg {X : k_X} {own : String} {cc : ByteArray} {nL : Nat} (h : k_Ok X own cc nL) {σ : k_S} {k n pc : Nat} {L : List (Option k_AV)} {st : List k_AV} {x : Int32} (d : decode cc pc = .ok (.ineg, 1))  (kk : k_W X σ k n (pc + 1) L (k_i (-x) :: st)) : k_W X σ k n pc L (k_i x :: st) := by
  obtain ⟨p, l, e, R, s, m, args, below, meth, c, Q, G, A0, σ0⟩ := X
  intro A E H locs ls hR hE hok hos hS hl
  exact lv_ineg h.1 h.2.1 d (kk A E H locs ls hR hE hok (hos.tail.cons trivial) hS hl)
theorem r_ishr {X : k_X} {own : String} {cc : ByteArray} {nL : Nat} (h : k_Ok X own cc nL) {σ : k_S} {k n pc : Nat} {L : List (Option k_AV)} {st : List k_AV} {x y v : Int32} (d : decode cc pc = .ok (.ishr, 1)) (hv : x >>> (y &&& 31) = v) (kk : k_W X σ k n (pc + 1) L (k_i v :: st)) : k_W X σ k n pc L (k_i y :: k_i x :: st) := by
  obtain ⟨p, l, e, R, s, m, args, below, meth, c, Q, G, A0, σ0⟩ := X
  intro A E H locs ls hR hE hok hos hS hl
  exact lv_ishr h.1 h.2.1 d (hv ▸ (kk A E H locs ls hR hE hok (hos.tail.tail.cons trivial) hS hl))
theorem r_ladd {X : k_X} {own : String} {cc : ByteArray} {nL : Nat} (h : k_Ok X own cc nL) {σ : k_S} {k n pc : Nat} {L : List (Option k_AV)} {st : List k_AV} {x y : Int64} (d : decode cc pc = .ok (.ladd, 1))  (kk : k_W X σ k n (pc + 1) L (k_l (x + y) :: st)) : k_W X σ k n pc L (k_l y :: k_l x :: st) := by
  obtain ⟨p, l, e, R, s, m, args, below, meth, c, Q, G, A0, σ0⟩ := X
  intro A E H locs ls hR hE hok hos hS hl
  exact lv_ladd h.1 h.2.1 d (kk A E H locs ls hR hE hok (hos.tail.tail.cons trivial) hS hl)
theorem r_i2l {X : k_X} {own : String} {cc : ByteArray} {nL : Nat} (h : k_Ok X own cc nL) {σ : k_S} {k n pc : Nat} {L : List (Option k_AV)} {st : List k_AV} {x : Int32} (d : decode cc pc = .ok (.i2l, 1))  (kk : k_W X σ k n (pc + 1) L (k_l x.toInt64 :: st)) : k_W X σ k n pc L (k_i x :: st) := by
  obtain ⟨p, l, e, R, s, m, args, below, meth, c, Q, G, A0, σ0⟩ := X
  intro A E H locs ls hR hE hok hos hS hl
  exact lv_i2l h.1 h.2.1 d rfl (kk A E H locs ls hR hE hok (hos.tail.cons trivial) hS hl)
theorem r_i2c {X : k_X} {own : String} {cc : ByteArray} {nL : Nat} (h : k_Ok X own cc nL) {σ : k_S} {k n pc : Nat} {L : List (Option k_AV)} {st : List k_AV} {x : Int32} (d : decode cc pc = .ok (.i2c, 1))  (kk : k_W X σ k n (pc + 1) L (k_i (x.toUInt32 % 65536).toInt32 :: st)) : k_W X σ k n pc L (k_i x :: st) := by
  obtain ⟨p, l, e, R, s, m, args, below, meth, c, Q, G, A0, σ0⟩ := X
  intro A E H locs ls hR hE hok hos hS hl
  exact lv_i2c h.1 h.2.1 d rfl (kk A E H locs ls hR hE hok (hos.tail.cons trivial) hS hl)
theorem r_i2d {X : k_X} {own : String} {cc : ByteArray} {nL : Nat} (h : k_Ok X own cc nL) {σ : k_S} {k n pc : Nat} {L : List (Option k_AV)} {st : List k_AV} {x : Int32} (d : decode cc pc = .ok (.i2d, 1))  (kk : k_W X σ k n (pc + 1) L (k_d (FP.i2d x) :: st)) : k_W X σ k n pc L (k_i x :: st) := by
  obtain ⟨p, l, e, R, s, m, args, below, meth, c, Q, G, A0, σ0⟩ := X
  intro A E H locs ls hR hE hok hos hS hl
  exact lv_i2d h.1 h.2.1 d (kk A E H locs ls hR hE hok (hos.tail.cons trivial) hS hl)
theorem r_i2f {X : k_X} {own : String} {cc : ByteArray} {nL : Nat} (h : k_Ok X own cc nL) {σ : k_S} {k n pc : Nat} {L : List (Option k_AV)} {st : List k_AV} {x : Int32} (d : decode cc pc = .ok (.i2f, 1))  (kk : k_W X σ k n (pc + 1) L (k_f (FP.i2f x) :: st)) : k_W X σ k n pc L (k_i x :: st) := by
  obtain ⟨p, l, e, R, s, m, args, below, meth, c, Q, G, A0, σ0⟩ := X
  intro A E H locs ls hR hE hok hos hS hl
  exact lv_i2f h.1 h.2.1 d (kk A E H locs ls hR hE hok (hos.tail.cons trivial) hS hl)
theorem r_ddiv {X : k_X} {own : String} {cc : ByteArray} {nL : Nat} (h : k_Ok X own cc nL) {σ : k_S} {k n pc : Nat} {L : List (Option k_AV)} {st : List k_AV} {x y : UInt64} (d : decode cc pc = .ok (.ddiv, 1)) (hne : vf_n64 (FP.ddiv x y)) (kk : k_W X σ k n (pc + 1) L (k_d (FP.ddiv x y) :: st)) : k_W X σ k n pc L (k_d y :: k_d x :: st) := by
  obtain ⟨p, l, e, R, s, m, args, below, meth, c, Q, G, A0, σ0⟩ := X
  intro A E H locs ls hR hE hok hos hS hl
  exact lv_ddiv h.1 h.2.1 d hne (kk A E H locs ls hR hE hok (hos.tail.tail.cons trivial) hS hl)
theorem r_fdiv {X : k_X} {own : String} {cc : ByteArray} {nL : Nat} (h : k_Ok X own cc nL) {σ : k_S} {k n pc : Nat} {L : List (Option k_AV)} {st : List k_AV} {x y : UInt32} (d : decode cc pc = .ok (.fdiv, 1)) (hne : vf_n32 (FP.fdiv x y)) (kk : k_W X σ k n (pc + 1) L (k_f (FP.fdiv x y) :: st)) : k_W X σ k n pc L (k_f y :: k_f x :: st) := by
  obtain ⟨p, l, e, R, s, m, args, below, meth, c, Q, G, A0, σ0⟩ := X
  intro A E H locs ls hR hE hok hos hS hl
  exact lv_fdiv h.1 h.2.1 d hne (kk A E H locs ls hR hE hok (hos.tail.tail.cons trivial) hS hl)
theorem r_f2d {X : k_X} {own : String} {cc : ByteArray} {nL : Nat} (h : k_Ok X own cc nL) {σ : k_S} {k n pc : Nat} {L : List (Option k_AV)} {st : List k_AV} {x : UInt32} (d : decode cc pc = .ok (.f2d, 1)) (hne : vf_n64 (FP.f2d x)) (kk : k_W X σ k n (pc + 1) L (k_d (FP.f2d x) :: st)) : k_W X σ k n pc L (k_f x :: st) := by
  obtain ⟨p, l, e, R, s, m, args, below, meth, c, Q, G, A0, σ0⟩ := X
  intro A E H locs ls hR hE hok hos hS hl
  exact lv_f2d h.1 h.2.1 d hne (kk A E H locs ls hR hE hok (hos.tail.cons trivial) hS hl)
theorem r_dup {X : k_X} {own : String} {cc : ByteArray} {nL : Nat} (h : k_Ok X own cc nL) {σ : k_S} {k n pc : Nat} {L : List (Option k_AV)} {st : List k_AV} {v : k_AV} (d : decode cc pc = .ok (.dup, 1)) (hv : k_w (some v) = false) (kk : k_W X σ k n (pc + 1) L (v :: v :: st)) : k_W X σ k n pc L (v :: st) := by
  obtain ⟨p, l, e, R, s, m, args, below, meth, c, Q, G, A0, σ0⟩ := X
  intro A E H locs ls hR hE hok hos hS hl
  exact lv_dup h.1 h.2.1 d (k_cat1 hv) (kk A E H locs ls hR hE hok (hos.cons hos.head) hS hl)
theorem r_pop {X : k_X} {own : String} {cc : ByteArray} {nL : Nat} (h : k_Ok X own cc nL) {σ : k_S} {k n pc : Nat} {L : List (Option k_AV)} {st : List k_AV} {v : k_AV} (d : decode cc pc = .ok (.pop, 1)) (hv : k_w (some v) = false) (kk : k_W X σ k n (pc + 1) L (st)) : k_W X σ k n pc L (v :: st) := by
  obtain ⟨p, l, e, R, s, m, args, below, meth, c, Q, G, A0, σ0⟩ := X
  intro A E H locs ls hR hE hok hos hS hl
  exact lv_pop h.1 h.2.1 d (k_cat1 hv) (kk A E H locs ls hR hE hok hos.tail hS hl)
theorem r_if_eq {X : k_X} {own : String} {cc : ByteArray} {nL : Nat} (h : k_Ok X own cc nL) {σ : k_S} {k n pc : Nat} {L : List (Option k_AV)} {st : List k_AV} {x : Int32} {off : Int} {tgt : Nat} (d : decode cc pc = .ok (.ifCond .eq off, 3)) (ht : (pc : Int) + off = (tgt : Int)) (kt : x = 0 → k_W X σ k n tgt L st) (kf : ¬ x = 0 → k_W X σ k n (pc + 3) L st) : k_W X σ k n pc L (k_i x :: st) := by
  obtain ⟨p, l, e, R, s, m, args, below, meth, c, Q, G, A0, σ0⟩ := X
  intro A E H locs ls hR hE hok hos hS hl
  exact lv_if_eq h.1 h.2.1 d ht (fun q => kt q A E H locs ls hR hE hok hos.tail hS hl) (fun q => kf q A E H locs ls hR hE hok hos.tail hS hl)
theorem r_if_ne {X : k_X} {own : String} {cc : ByteArray} {nL : Nat} (h : k_Ok X own cc nL) {σ : k_S} {k n pc : Nat} {L : List (Option k_AV)} {st : List k_AV} {x : Int32} {off : Int} {tgt : Nat} (d : decode cc pc = .ok (.ifCond .ne off, 3)) (ht : (pc : Int) + off = (tgt : Int)) (kt : ¬ x = 0 → k_W X σ k n tgt L st) (kf : x = 0 → k_W X σ k n (pc + 3) L st) : k_W X σ k n pc L (k_i x :: st) := by
  obtain ⟨p, l, e, R, s, m, args, below, meth, c, Q, G, A0, σ0⟩ := X
  intro A E H locs ls hR hE hok hos hS hl
  exact lv_if_ne h.1 h.2.1 d ht (fun q => kt q A E H locs ls hR hE hok hos.tail hS hl) (fun q => kf q A E H locs ls hR hE hok hos.tail hS hl)
theorem r_if_lt {X : k_X} {own : String} {cc : ByteArray} {nL : Nat} (h : k_Ok X own cc nL) {σ : k_S} {k n pc : Nat} {L : List (Option k_AV)} {st : List k_AV} {x : Int32} {off : Int} {tgt : Nat} (d : decode cc pc = .ok (.ifCond .lt off, 3)) (ht : (pc : Int) + off = (tgt : Int)) (kt : x < 0 → k_W X σ k n tgt L st) (kf : ¬ x < 0 → k_W X σ k n (pc + 3) L st) : k_W X σ k n pc L (k_i x :: st) := by
  obtain ⟨p, l, e, R, s, m, args, below, meth, c, Q, G, A0, σ0⟩ := X
  intro A E H locs ls hR hE hok hos hS hl
  exact lv_if_lt h.1 h.2.1 d ht (fun q => kt q A E H locs ls hR hE hok hos.tail hS hl) (fun q => kf q A E H locs ls hR hE hok hos.tail hS hl)
theorem r_if_ge {X : k_X} {own : String} {cc : ByteArray} {nL : Nat} (h : k_Ok X own cc nL) {σ : k_S} {k n pc : Nat} {L : List (Option k_AV)} {st : List k_AV} {x : Int32} {off : Int} {tgt : Nat} (d : decode cc pc = .ok (.ifCond .ge off, 3)) (ht : (pc : Int) + off = (tgt : Int)) (kt : 0 ≤ x → k_W X σ k n tgt L st) (kf : ¬ 0 ≤ x → k_W X σ k n (pc + 3) L st) : k_W X σ k n pc L (k_i x :: st) := by
  obtain ⟨p, l, e, R, s, m, args, below, meth, c, Q, G, A0, σ0⟩ := X
  intro A E H locs ls hR hE hok hos hS hl
  exact lv_if_ge h.1 h.2.1 d ht (fun q => kt q A E H locs ls hR hE hok hos.tail hS hl) (fun q => kf q A E H locs ls hR hE hok hos.tail hS hl)
theorem r_if_gt {X : k_X} {own : String} {cc : ByteArray} {nL : Nat} (h : k_Ok X own cc nL) {σ : k_S} {k n pc : Nat} {L : List (Option k_AV)} {st : List k_AV} {x : Int32} {off : Int} {tgt : Nat} (d : decode cc pc = .ok (.ifCond .gt off, 3)) (ht : (pc : Int) + off = (tgt : Int)) (kt : 0 < x → k_W X σ k n tgt L st) (kf : ¬ 0 < x → k_W X σ k n (pc + 3) L st) : k_W X σ k n pc L (k_i x :: st) := by
  obtain ⟨p, l, e, R, s, m, args, below, meth, c, Q, G, A0, σ0⟩ := X
  intro A E H locs ls hR hE hok hos hS hl
  exact lv_if_gt h.1 h.2.1 d ht (fun q => kt q A E H locs ls hR hE hok hos.tail hS hl) (fun q => kf q A E H locs ls hR hE hok hos.tail hS hl)
theorem r_if_le {X : k_X} {own : String} {cc : ByteArray} {nL : Nat} (h : k_Ok X own cc nL) {σ : k_S} {k n pc : Nat} {L : List (Option k_AV)} {st : List k_AV} {x : Int32} {off : Int} {tgt : Nat} (d : decode cc pc = .ok (.ifCond .le off, 3)) (ht : (pc : Int) + off = (tgt : Int)) (kt : x ≤ 0 → k_W X σ k n tgt L st) (kf : ¬ x ≤ 0 → k_W X σ k n (pc + 3) L st) : k_W X σ k n pc L (k_i x :: st) := by
  obtain ⟨p, l, e, R, s, m, args, below, meth, c, Q, G, A0, σ0⟩ := X
  intro A E H locs ls hR hE hok hos hS hl
  exact lv_if_le h.1 h.2.1 d ht (fun q => kt q A E H locs ls hR hE hok hos.tail hS hl) (fun q => kf q A E H locs ls hR hE hok hos.tail hS hl)
theorem r_icmp_eq {X : k_X} {own : String} {cc : ByteArray} {nL : Nat} (h : k_Ok X own cc nL) {σ : k_S} {k n pc : Nat} {L : List (Option k_AV)} {st : List k_AV} {x y : Int32} {off : Int} {tgt : Nat} (d : decode cc pc = .ok (.if_icmp .eq off, 3)) (ht : (pc : Int) + off = (tgt : Int)) (kt : x = y → k_W X σ k n tgt L st) (kf : ¬ x = y → k_W X σ k n (pc + 3) L st) : k_W X σ k n pc L (k_i y :: k_i x :: st) := by
  obtain ⟨p, l, e, R, s, m, args, below, meth, c, Q, G, A0, σ0⟩ := X
  intro A E H locs ls hR hE hok hos hS hl
  exact lv_icmp_eq h.1 h.2.1 d ht (fun q => kt q A E H locs ls hR hE hok hos.tail.tail hS hl) (fun q => kf q A E H locs ls hR hE hok hos.tail.tail hS hl)
theorem r_icmp_ne {X : k_X} {own : String} {cc : ByteArray} {nL : Nat} (h : k_Ok X own cc nL) {σ : k_S} {k n pc : Nat} {L : List (Option k_AV)} {st : List k_AV} {x y : Int32} {off : Int} {tgt : Nat} (d : decode cc pc = .ok (.if_icmp .ne off, 3)) (ht : (pc : Int) + off = (tgt : Int)) (kt : ¬ x = y → k_W X σ k n tgt L st) (kf : x = y → k_W X σ k n (pc + 3) L st) : k_W X σ k n pc L (k_i y :: k_i x :: st) := by
  obtain ⟨p, l, e, R, s, m, args, below, meth, c, Q, G, A0, σ0⟩ := X
  intro A E H locs ls hR hE hok hos hS hl
  exact lv_icmp_ne h.1 h.2.1 d ht (fun q => kt q A E H locs ls hR hE hok hos.tail.tail hS hl) (fun q => kf q A E H locs ls hR hE hok hos.tail.tail hS hl)
theorem r_icmp_lt {X : k_X} {own : String} {cc : ByteArray} {nL : Nat} (h : k_Ok X own cc nL) {σ : k_S} {k n pc : Nat} {L : List (Option k_AV)} {st : List k_AV} {x y : Int32} {off : Int} {tgt : Nat} (d : decode cc pc = .ok (.if_icmp .lt off, 3)) (ht : (pc : Int) + off = (tgt : Int)) (kt : x < y → k_W X σ k n tgt L st) (kf : ¬ x < y → k_W X σ k n (pc + 3) L st) : k_W X σ k n pc L (k_i y :: k_i x :: st) := by
  obtain ⟨p, l, e, R, s, m, args, below, meth, c, Q, G, A0, σ0⟩ := X
  intro A E H locs ls hR hE hok hos hS hl
  exact lv_icmp_lt h.1 h.2.1 d ht (fun q => kt q A E H locs ls hR hE hok hos.tail.tail hS hl) (fun q => kf q A E H locs ls hR hE hok hos.tail.tail hS hl)
theorem r_icmp_ge {X : k_X} {own : String} {cc : ByteArray} {nL : Nat} (h : k_Ok X own cc nL) {σ : k_S} {k n pc : Nat} {L : List (Option k_AV)} {st : List k_AV} {x y : Int32} {off : Int} {tgt : Nat} (d : decode cc pc = .ok (.if_icmp .ge off, 3)) (ht : (pc : Int) + off = (tgt : Int)) (kt : y ≤ x → k_W X σ k n tgt L st) (kf : ¬ y ≤ x → k_W X σ k n (pc + 3) L st) : k_W X σ k n pc L (k_i y :: k_i x :: st) := by
  obtain ⟨p, l, e, R, s, m, args, below, meth, c, Q, G, A0, σ0⟩ := X
  intro A E H locs ls hR hE hok hos hS hl
  exact lv_icmp_ge h.1 h.2.1 d ht (fun q => kt q A E H locs ls hR hE hok hos.tail.tail hS hl) (fun q => kf q A E H locs ls hR hE hok hos.tail.tail hS hl)
theorem r_icmp_gt {X : k_X} {own : String} {cc : ByteArray} {nL : Nat} (h : k_Ok X own cc nL) {σ : k_S} {k n pc : Nat} {L : List (Option k_AV)} {st : List k_AV} {x y : Int32} {off : Int} {tgt : Nat} (d : decode cc pc = .ok (.if_icmp .gt off, 3)) (ht : (pc : Int) + off = (tgt : Int)) (kt : y < x → k_W X σ k n tgt L st) (kf : ¬ y < x → k_W X σ k n (pc + 3) L st) : k_W X σ k n pc L (k_i y :: k_i x :: st) := by
  obtain ⟨p, l, e, R, s, m, args, below, meth, c, Q, G, A0, σ0⟩ := X
  intro A E H locs ls hR hE hok hos hS hl
  exact lv_icmp_gt h.1 h.2.1 d ht (fun q => kt q A E H locs ls hR hE hok hos.tail.tail hS hl) (fun q => kf q A E H locs ls hR hE hok hos.tail.tail hS hl)
theorem r_icmp_le {X : k_X} {own : String} {cc : ByteArray} {nL : Nat} (h : k_Ok X own cc nL) {σ : k_S} {k n pc : Nat} {L : List (Option k_AV)} {st : List k_AV} {x y : Int32} {off : Int} {tgt : Nat} (d : decode cc pc = .ok (.if_icmp .le off, 3)) (ht : (pc : Int) + off = (tgt : Int)) (kt : x ≤ y → k_W X σ k n tgt L st) (kf : ¬ x ≤ y → k_W X σ k n (pc + 3) L st) : k_W X σ k n pc L (k_i y :: k_i x :: st) := by
  obtain ⟨p, l, e, R, s, m, args, below, meth, c, Q, G, A0, σ0⟩ := X
  intro A E H locs ls hR hE hok hos hS hl
  exact lv_icmp_le h.1 h.2.1 d ht (fun q => kt q A E H locs ls hR hE hok hos.tail.tail hS hl) (fun q => kf q A E H locs ls hR hE hok hos.tail.tail hS hl)
theorem r_goto {X : k_X} {own : String} {cc : ByteArray} {nL : Nat} (h : k_Ok X own cc nL) {σ : k_S} {k n pc : Nat} {L : List (Option k_AV)} {st : List k_AV} {off : Int} {tgt : Nat} (d : decode cc pc = .ok (.goto off, 3)) (ht : (pc : Int) + off = (tgt : Int)) (kk : k_W X σ k n tgt L st) : k_W X σ k n pc L st := by
  obtain ⟨p, l, e, R, s, m, args, below, meth, c, Q, G, A0, σ0⟩ := X
  intro A E H locs ls hR hE hok hos hS hl
  exact lv_goto h.1 h.2.1 d ht (kk A E H locs ls hR hE hok hos hS hl)
theorem r_ifnull {X : k_X} {own : String} {cc : ByteArray} {nL : Nat} (h : k_Ok X own cc nL) {σ : k_S} {k n pc : Nat} {L : List (Option k_AV)} {st : List k_AV} {q : Nat × Nat} {off : Int} (d : decode cc pc = .ok (.ifnull off, 3)) (kk : k_W X σ k n (pc + 3) L st) : k_W X σ k n pc L (.inr q :: st) := by
  obtain ⟨p, l, e, R, s, m, args, below, meth, c, Q, G, A0, σ0⟩ := X
  intro A E H locs ls hR hE hok hos hS hl
  exact lv_ifnull h.1 h.2.1 d (kk A E H locs ls hR hE hok hos.tail hS hl)
theorem r_ifnullN {X : k_X} {own : String} {cc : ByteArray} {nL : Nat} (h : k_Ok X own cc nL) {σ : k_S} {k n pc : Nat} {L : List (Option k_AV)} {st : List k_AV} {off : Int} {tgt : Nat} (d : decode cc pc = .ok (.ifnull off, 3)) (ht : (pc : Int) + off = (tgt : Int)) (kk : k_W X σ k n tgt L st) : k_W X σ k n pc L (k_n :: st) := by
  obtain ⟨p, l, e, R, s, m, args, below, meth, c, Q, G, A0, σ0⟩ := X
  intro A E H locs ls hR hE hok hos hS hl
  exact lv_ifnullN h.1 h.2.1 d ht (kk A E H locs ls hR hE hok hos.tail hS hl)
theorem r_acmp_ne {X : k_X} {own : String} {cc : ByteArray} {nL : Nat} (h : k_Ok X own cc nL) {σ : k_S} {k n pc : Nat} {L : List (Option k_AV)} {st : List k_AV} {u i j : Nat} {off : Int} {tgt : Nat} (d : decode cc pc = .ok (.if_acmp .ne off, 3)) (ht : (pc : Int) + off = (tgt : Int)) (kt : ¬ i = j → k_W X σ k n tgt L st) (kf : i = j → k_W X σ k n (pc + 3) L st) : k_W X σ k n pc L (k_p u j :: k_p u i :: st) := by
  obtain ⟨p, l, e, R, s, m, args, below, meth, c, Q, G, A0, σ0⟩ := X
  intro A E H locs ls hR hE hok hos hS hl
  have h1 : j < k_N σ u := hos.head
  have h2 : i < k_N σ u := hos.tail.head
  refine lv_acmp_ne (rx := some (A u i)) (ry := some (A u j)) h.1 h.2.1 d ht (fun q => kt (fun z => q (by rw [z])) A E H locs ls hR hE hok hos.tail.tail hS hl) (fun q => kf ?_ A E H locs ls hR hE hok hos.tail.tail hS hl)
  exact (hR.2.1 u i u j h2 h1 (Option.some.inj q)).2
theorem r_acmp_eq {X : k_X} {own : String} {cc : ByteArray} {nL : Nat} (h : k_Ok X own cc nL) {σ : k_S} {k n pc : Nat} {L : List (Option k_AV)} {st : List k_AV} {u i j : Nat} {off : Int} {tgt : Nat} (d : decode cc pc = .ok (.if_acmp .eq off, 3)) (ht : (pc : Int) + off = (tgt : Int)) (kt : i = j → k_W X σ k n tgt L st) (kf : ¬ i = j → k_W X σ k n (pc + 3) L st) : k_W X σ k n pc L (k_p u j :: k_p u i :: st) := by
  obtain ⟨p, l, e, R, s, m, args, below, meth, c, Q, G, A0, σ0⟩ := X
  intro A E H locs ls hR hE hok hos hS hl
  have h1 : j < k_N σ u := hos.head
  have h2 : i < k_N σ u := hos.tail.head
  refine lv_acmp_eq (rx := some (A u i)) (ry := some (A u j)) h.1 h.2.1 d ht (fun q => kt ?_ A E H locs ls hR hE hok hos.tail.tail hS hl) (fun q => kf (fun z => q (by rw [z])) A E H locs ls hR hE hok hos.tail.tail hS hl)
  exact (hR.2.1 u i u j h2 h1 (Option.some.inj q)).2
theorem r_lookup {X : k_X} {own : String} {cc : ByteArray} {nL : Nat} (h : k_Ok X own cc nL) {σ : k_S} {k n pc : Nat} {L : List (Option k_AV)} {st : List k_AV} {dflt : Int} {ps : Array (Int × Int)} {len : Nat} {x : Int32} {off : Int} {tgt : Nat} (d : decode cc pc = .ok (.lookupswitch dflt ps, len)) (hp : (ps.toList.zip (ps.toList.drop 1)).all (fun (a, next) => a.1 < next.1) = true) (ho : Op.lookupswitch.offset ps.toList dflt x.toInt = off) (ht : (pc : Int) + off = (tgt : Int)) (kk : k_W X σ k n tgt L st) : k_W X σ k n pc L (k_i x :: st) := by
  obtain ⟨p, l, e, R, s, m, args, below, meth, c, Q, G, A0, σ0⟩ := X
  intro A E H locs ls hR hE hok hos hS hl
  exact lv_lookup h.1 h.2.1 d hp ho ht (kk A E H locs ls hR hE hok hos.tail hS hl)
theorem r_tableIn {X : k_X} {own : String} {cc : ByteArray} {nL : Nat} (h : k_Ok X own cc nL) {σ : k_S} {k n pc : Nat} {L : List (Option k_AV)} {st : List k_AV} {dflt lo hi : Int} {offs : Array Int} {len : Nat} {x : Int32} {off : Int} {tgt : Nat} (d : decode cc pc = .ok (.tableswitch dflt lo hi offs, len)) (h1 : ¬ x.toInt < lo) (h2 : ¬ hi < x.toInt) (ho : offs[(x.toInt - lo).toNat]? = some off) (ht : (pc : Int) + off = (tgt : Int)) (kk : k_W X σ k n tgt L st) : k_W X σ k n pc L (k_i x :: st) := by
  obtain ⟨p, l, e, R, s, m, args, below, meth, c, Q, G, A0, σ0⟩ := X
  intro A E H locs ls hR hE hok hos hS hl
  exact lv_tableIn h.1 h.2.1 d h1 h2 ho ht (kk A E H locs ls hR hE hok hos.tail hS hl)
theorem r_tableOut {X : k_X} {own : String} {cc : ByteArray} {nL : Nat} (h : k_Ok X own cc nL) {σ : k_S} {k n pc : Nat} {L : List (Option k_AV)} {st : List k_AV} {dflt lo hi : Int} {offs : Array Int} {len : Nat} {x : Int32} {tgt : Nat} (d : decode cc pc = .ok (.tableswitch dflt lo hi offs, len)) (h1 : x.toInt < lo ∨ hi < x.toInt) (ht : (pc : Int) + dflt = (tgt : Int)) (kk : k_W X σ k n tgt L st) : k_W X σ k n pc L (k_i x :: st) := by
  obtain ⟨p, l, e, R, s, m, args, below, meth, c, Q, G, A0, σ0⟩ := X
  intro A E H locs ls hR hE hok hos hS hl
  exact lv_tableOut h.1 h.2.1 d h1 ht (kk A E H locs ls hR hE hok hos.tail hS hl)
theorem r_widen {X : k_X} {σ : k_S} {k n k' n' pc : Nat} {L : List (Option k_AV)} {st : List k_AV} (h1 : k ≤ k') (h2 : n ≤ n') (kk : k_W X σ k' n' pc L st) : k_W X σ k n pc L st := by
  obtain ⟨p, l, e, R, s, m, args, below, meth, c, Q, G, A0, σ0⟩ := X
  intro A E H locs ls hR hE hok hos hS hl
  exact W.widen h1 h2 (kk A E H locs ls hR hE hok hos hS hl)
/-- the same locals, the same stack, written otherwise -/
theorem r_cast {X : k_X} {σ σ' : k_S} {k n pc pc' : Nat} {L L' : List (Option k_AV)} {st st' : List k_AV} (kk : k_W X σ' k n pc' L' st') (h0 : σ = σ') (hp : pc = pc') (h1 : L = L') (h2 : st = st') : k_W X σ k n pc L st := by
  subst h0; subst h1; subst h2; subst hp
  exact kk
/-- fewer locals are known -/
theorem r_forget {X : k_X} {σ : k_S} {k n pc : Nat} {L L' : List (Option k_AV)} {st : List k_AV} (hL : ∀ (i : Nat) (v : k_AV), L'[i]? = some (some v) → L[i]? = some (some v)) (kk : k_W X σ k n pc L' st) : k_W X σ k n pc L st := by
  obtain ⟨p, l, e, R, s, m, args, below, meth, c, Q, G, A0, σ0⟩ := X
  intro A E H locs ls hR hE hok hos hS hl
  exact kk A E H locs ls hR hE (fun v hv => by
    obtain ⟨i, hi⟩ := List.getElem?_of_mem hv
    exact hok v (List.mem_of_getElem? (hL i v hi))) hos hS ⟨hl.1, hl.2.1, fun i v hv => hl.2.2 i v (hL i v hv)⟩
/-- a reference of a place leads to a thing that is there; an int of a place has its width -/
theorem r_there {X : k_X} {σ : k_S} {k n pc : Nat} {L : List (Option k_AV)} {st : List k_AV} (kk : (∀ u i f j, i < k_N σ u → 3 ≤ k_kd u f → k_P σ u i f = some j → j < k_N σ (k_kd u f - 3)) → (∀ u i f, i < k_N σ u → k_fit (k_ty u f) (k_I σ u i f)) → (∀ u i, some (k_p u i) ∈ L ∨ k_p u i ∈ st → i < k_N σ u) → k_W X σ k n pc L st) : k_W X σ k n pc L st := by
  obtain ⟨p, l, e, R, s, m, args, below, meth, c, Q, G, A0, σ0⟩ := X
  intro A E H locs ls hR hE hok hos hS hl
  exact kk hR.2.2.2.1 hR.2.2.2.2.1 (fun u i q => q.elim (fun q => hok _ q) (fun q => hos _ q)) A E H locs ls hR hE hok hos hS hl
end
section
/-! ===== rows that read and write the world ===== -/
theorem k_fv_congr {A : k_A} {σ σ' : k_S} {l i k : Nat} (h : k_I σ' l i k = k_I σ l i k ∧ k_J σ' l i k = k_J σ l i k ∧ k_D σ' l i k = k_D σ l i k ∧ k_P σ' l i k = k_P σ l i k) : k_fv A σ' l i k = k_fv A σ l i k := by
  unfold k_fv
  rw [h.1, h.2.1, h.2.2.1, h.2.2.2]
theorem k_at.kept {G : k_G} {A A' : k_A} {σ σ' : k_S} {l i : Nat} {H H1 : Heap} (h : k_at G A σ l i H) (hA : A' l i = A l i) (hq : H1[A l i]? = H[A l i]?) (hv : ∀ k, k_fv A' σ' l i k = k_fv A σ l i k) : k_at G A' σ' l i H1 := by
  have e : k_fv A' σ' l i = k_fv A σ l i := funext hv
  unfold k_at at h ⊢
  cases hs : k_sch l with
  | inl q => rw [hs] at h; dsimp only at h ⊢; rw [e, hA]; exact h.kept hq
  | inr q => rw [hs] at h; dsimp only at h ⊢; rw [e, hA, hq]; exact h
theorem k_at.lt {G : k_G} {A : k_A} {σ : k_S} {l i : Nat} {H : Heap} (h : k_at G A σ l i H) : A l i < H.size := by
  unfold k_at at h
  cases hs : k_sch l with
  | inl q =>
    rw [hs] at h
    obtain ⟨cell, h2, -⟩ := h
    exact (Array.getElem?_eq_some_iff.mp h2).1
  | inr q => rw [hs] at h; exact (Array.getElem?_eq_some_iff.mp h).1
/-- the thing (l, i) is written -/
theorem k_HR.put {G : k_G} {A : k_A} {E : Nat → Nat} {σ σ' : k_S} {H H1 : Heap} {l i : Nat} (h : k_HR G A E σ H) (hB : G.2.2.2.1 < G.2.2.1) (hl : k_isL l = false) (hi : i < k_N σ l) (oq : ∀ q : Nat, q ≠ A l i → H1[q]? = H[q]?) (hz : H1.size = H.size) (hN : k_N σ' = k_N σ) (hZ : k_Z σ' = k_Z σ) (hc : k_at G A σ' l i H1)
    (hsame : ∀ l' i', ¬ (l' = l ∧ i' = i) → ∀ k, k_I σ' l' i' k = k_I σ l' i' k ∧ k_J σ' l' i' k = k_J σ l' i' k ∧ k_D σ' l' i' k = k_D σ l' i' k ∧ k_P σ' l' i' k = k_P σ l' i' k)
    (hp : ∀ k j, 3 ≤ k_kd l k → k_P σ' l i k = some j → j < k_N σ (k_kd l k - 3)) (hf : ∀ k, k_fit (k_ty l k) (k_I σ' l i k)) : k_HR G A E σ' H1 := by
  obtain ⟨c1, c2, c3, c4, c5, c6⟩ := h
  have hne : ∀ l' i', i' < k_N σ l' → ¬ (l' = l ∧ i' = i) → A l' i' ≠ A l i := fun l' i' h' n e => n (c2 l' i' l i h' hi e)
  refine ⟨fun l' i' hl' hi' => ?_, by rw [hN]; exact c2, fun l' i' hi' => ?_, fun l' i' k j hi' hk hP => ?_, fun l' i' k hi' => ?_, fun l' hl' hn => ?_⟩
  · rw [hN] at hi'
    by_cases e : l' = l ∧ i' = i
    · obtain ⟨rfl, rfl⟩ := e
      exact hc
    · exact (c1 l' i' hl' hi').kept rfl (oq _ (hne l' i' hi' e)) (fun k => k_fv_congr (hsame l' i' e k))
  · rw [hN] at hi'
    rw [hz]
    exact c3 l' i' hi'
  · rw [hN] at hi' ⊢
    by_cases e : l' = l ∧ i' = i
    · obtain ⟨rfl, rfl⟩ := e
      exact hp k j hk hP
    · rw [(hsame l' i' e k).2.2.2] at hP
      exact c4 l' i' k j hi' hk hP
  · rw [hN] at hi'
    by_cases e : l' = l ∧ i' = i
    · obtain ⟨rfl, rfl⟩ := e
      exact hf k
    · rw [(hsame l' i' e k).1]
      exact c5 l' i' k hi'
  · rw [hN] at hn ⊢
    obtain ⟨d1, mc, cap, d2, d3, d4, d5, d6⟩ := c6 l' hl' hn
    have e : ¬ (l' = l ∧ 0 = i) := fun q => by rw [q.1, hl] at hl'; cases hl'
    have hE : E l' ≠ A l i := by
      rcases d6 with ⟨-, q⟩ | ⟨-, -, q, -⟩
      · have := (c3 l i hi).1
        omega
      · exact fun z => q l i hi z.symm
    refine ⟨d1, mc, cap, ?_, ?_, by rw [hZ]; exact d4, by rw [hZ]; exact d5, ?_⟩
    · rw [hZ]
      exact d2.kept (oq _ (hne l' 0 hn e))
    · rw [oq _ hE, hZ, d3]
      congr 2
      funext j
      rw [(hsame l' 0 e j).2.2.2]
    · rw [hN]
      exact d6
theorem k_up3_s {α : Type} {f : Nat → Nat → Nat → α} {l i k : Nat} {v : α} : k_up3 f l i k v l i k = v := if_pos ⟨rfl, rfl, rfl⟩
theorem k_up3_n {α : Type} {f : Nat → Nat → Nat → α} {l i k l' i' k' : Nat} {v : α} (h : ¬ (l' = l ∧ i' = i ∧ k' = k)) : k_up3 f l i k v l' i' k' = f l' i' k' := if_neg h
theorem k_up3_o {α : Type} {f : Nat → Nat → Nat → α} {l i k l' i' k' : Nat} {v : α} (h : ¬ (l' = l ∧ i' = i)) : k_up3 f l i k v l' i' k' = f l' i' k' := if_neg (fun q => h ⟨q.1, q.2.1⟩)
/-- a field of an object, as the tables have it: class own reads it by entry idx; it is field f of class ci -/
def k_F (own : String) (idx ci N f : Nat) : Prop := ∃ (C : String) (T : u_T), k_cl[ci]? = some (C, T, N) ∧ f < N ∧ (∀ w ∈ u_ws C T N, w ∈ k_Tb) ∧ Cond.fieldLink own idx (T f).1 (T f).2.1 (T f).2.2.1 ∈ k_Tb
/-- .. and may write it there: its type, whether it is final -/
def k_FP (own : String) (idx ci N f : Nat) (ty : FieldType) (fin : Bool) : Prop := ∃ (C : String) (T : u_T) (ty0 : Nat → FieldType), k_cl[ci]? = some (C, T, N) ∧ f < N ∧ (∀ w ∈ u_ws C T N, w ∈ k_Tb) ∧ Cond.fieldLink own idx (T f).1 (T f).2.1 (T f).2.2.1 ∈ k_Tb ∧
  (∀ k, k < N → parseFieldDescriptor (T k).2.2.1 = some (ty0 k)) ∧ (∀ a, a < N → ∀ b, b < N → a ≠ b → (T a).2.1 ≠ (T b).2.1) ∧ ty0 f = ty ∧ (T f).2.2.2 = fin ∧ (T f).1 = own
theorem r_getf {X : k_X} {own : String} {cc : ByteArray} {nL : Nat} (h : k_Ok X own cc nL) {σ : k_S} {k n pc : Nat} {L : List (Option k_AV)} {st : List k_AV} {l i f ci N idx : Nat} (hF : k_F own idx ci N f) (hs : k_sch l = .inl (ci, N)) (hl : k_isL l = false) (hf : f < N) (d : decode cc pc = .ok (.getfield idx, 3)) (v : k_AV) (hv : ∀ A : k_A, k_fv A σ l i f = k_c A v) (hvo : (∀ j, 3 ≤ k_kd l f → k_P σ l i f = some j → j < k_N σ (k_kd l f - 3)) → k_ok σ v) (kk : k_W X σ k n (pc + 3) L (v :: st)) : k_W X σ k n pc L (k_p l i :: st) := by
  obtain ⟨p, la, e, R, s, m, args, below, meth, c, Q, G, A0, σ0⟩ := X
  intro A E H locs ls hR hE hok hos hS hlc
  obtain ⟨hx, hb, -, hown, hts, hKS, -, -⟩ := h
  obtain ⟨C, T, hc, hfN, hw, hlink⟩ := hF
  have hi : i < k_N σ l := hos.head
  have hat := hR.1 l i hl hi
  unfold k_at at hat
  rw [hs] at hat
  obtain ⟨cell, q1, q2, q3, q4⟩ := hat
  obtain ⟨hSl, hfc, kC, hkC, hkind⟩ := hKS.1.1 ci _ hc
  obtain ⟨cf, kf, fi, fd, hfi, hsl⟩ := hSl f hfN
  refine W.getf hx hb hown (hts _ hlink) hfi (u_facts hfc hkC (u_lays hts hw hfN) hfi).1 q1 (by rw [q3]; exact fun h => by cases h) (v := k_c A v) ?_ rfl rfl d (kk A E H locs ls hR hE hok (hos.tail.cons (hvo (fun j h1 h2 => hR.2.2.2.1 l i f j hi h1 h2))) hS hlc)
  rw [hsl, q4 f hf, hv]
theorem r_getI {X : k_X} {own : String} {cc : ByteArray} {nL : Nat} (h : k_Ok X own cc nL) {σ : k_S} {k n pc : Nat} {L : List (Option k_AV)} {st : List k_AV} {l i f ci N idx : Nat} (hF : k_F own idx ci N f) (d : decode cc pc = .ok (.getfield idx, 3)) (hs : k_sch l = .inl (ci, N)) (hl : k_isL l = false) (hf : f < N) (hk : k_kd l f = 0) (kk : k_W X σ k n (pc + 3) L (k_i (k_I σ l i f) :: st)) : k_W X σ k n pc L (k_p l i :: st) :=
  r_getf h hF hs hl hf d (k_i (k_I σ l i f)) (fun A => by unfold k_fv; rw [hk]; rfl) (fun _ => trivial) kk
theorem r_getJ {X : k_X} {own : String} {cc : ByteArray} {nL : Nat} (h : k_Ok X own cc nL) {σ : k_S} {k n pc : Nat} {L : List (Option k_AV)} {st : List k_AV} {l i f ci N idx : Nat} (hF : k_F own idx ci N f) (d : decode cc pc = .ok (.getfield idx, 3)) (hs : k_sch l = .inl (ci, N)) (hl : k_isL l = false) (hf : f < N) (hk : k_kd l f = 1) (kk : k_W X σ k n (pc + 3) L (k_l (k_J σ l i f) :: st)) : k_W X σ k n pc L (k_p l i :: st) :=
  r_getf h hF hs hl hf d (k_l (k_J σ l i f)) (fun A => by unfold k_fv; rw [hk]; rfl) (fun _ => trivial) kk
theorem r_getR {X : k_X} {own : String} {cc : ByteArray} {nL : Nat} (h : k_Ok X own cc nL) {σ : k_S} {k n pc : Nat} {L : List (Option k_AV)} {st : List k_AV} {l i f ci N idx u : Nat} (hF : k_F own idx ci N f) (d : decode cc pc = .ok (.getfield idx, 3)) (hs : k_sch l = .inl (ci, N)) (hl : k_isL l = false) (hf : f < N) (hk : k_kd l f = u + 3) {j : Nat} (hP : k_P σ l i f = some j) (kk : k_W X σ k n (pc + 3) L (k_p u j :: st)) : k_W X σ k n pc L (k_p l i :: st) :=
  r_getf h hF hs hl hf d (k_p u j) (fun A => by unfold k_fv; rw [hk, hP]; rfl) (fun q => by
    have := q j (by rw [hk]; omega) hP
    rw [hk] at this
    exact this) kk
theorem r_getN {X : k_X} {own : String} {cc : ByteArray} {nL : Nat} (h : k_Ok X own cc nL) {σ : k_S} {k n pc : Nat} {L : List (Option k_AV)} {st : List k_AV} {l i f ci N idx u : Nat} (hF : k_F own idx ci N f) (d : decode cc pc = .ok (.getfield idx, 3)) (hs : k_sch l = .inl (ci, N)) (hl : k_isL l = false) (hf : f < N) (hk : k_kd l f = u + 3) (hP : k_P σ l i f = none) (kk : k_W X σ k n (pc + 3) L (k_n :: st)) : k_W X σ k n pc L (k_p l i :: st) :=
  r_getf h hF hs hl hf d k_n (fun A => by unfold k_fv; rw [hk, hP]; rfl) (fun _ => trivial) kk
/-- a write of field f of (l, i): the state σ' has v there, and all else as it was -/
theorem r_putf {X : k_X} {own : String} {cc : ByteArray} {nL : Nat} (h : k_Ok X own cc nL) {σ σ' : k_S} {k n pc : Nat} {L : List (Option k_AV)} {st : List k_AV} {l i f ci N idx : Nat} {ty : FieldType} {fin : Bool} (hF : k_FP own idx ci N f ty fin) (hfin : fin = true → X.2.2.2.2.2.2.2.2.1.name = "<init>") (hs : k_sch l = .inl (ci, N)) (hl : k_isL l = false) (hf : f < N) (d : decode cc pc = .ok (.putfield idx, 3)) (v : k_AV)
    (hN : k_N σ' = k_N σ) (hZ : k_Z σ' = k_Z σ) (hv : ∀ A : k_A, k_fv A σ' l i f = k_c A v) (hvo : ∀ A : k_A, narrow ty (k_c A v) = k_c A v ∧ fits ty (k_c A v) = true)
    (hsame : ∀ l' i' k, ¬ (l' = l ∧ i' = i ∧ k = f) → k_I σ' l' i' k = k_I σ l' i' k ∧ k_J σ' l' i' k = k_J σ l' i' k ∧ k_D σ' l' i' k = k_D σ l' i' k ∧ k_P σ' l' i' k = k_P σ l' i' k)
    (hp : k_ok σ v → ∀ j, 3 ≤ k_kd l f → k_P σ' l i f = some j → j < k_N σ (k_kd l f - 3)) (hff : k_fit (k_ty l f) (k_I σ l i f) → k_fit (k_ty l f) (k_I σ' l i f))
    (kk : k_W X σ' k n (pc + 3) L st) : k_W X σ k n pc L (v :: k_p l i :: st) := by
  obtain ⟨p, la, e, R, s, m, args, below, meth, c, Q, G, A0, σ0⟩ := X
  intro A E H locs ls hR hE hok hos hS hlc
  obtain ⟨hx, hb, -, hown, hts, hKS, -, -⟩ := h
  obtain ⟨C, T, ty0, hc, hfN, hw, hlink, hty, hnm, hty0, hfi0, hdecl⟩ := hF
  have hi : i < k_N σ l := hos.tail.head
  have hat := hR.1 l i hl hi
  unfold k_at at hat
  rw [hs] at hat
  obtain ⟨cell, q1, q2, q3, q4⟩ := hat
  obtain ⟨hSl, hfc, kC, hkC, hkind⟩ := hKS.1.1 ci _ hc
  obtain ⟨cf, kf, fi, fd, hfi, hsl⟩ := hSl f hfN
  have hap := va_apart (own := own) hts hw ty0 hty hnm hKS.1 hc
  have hst := (u_facts hfc hkC (u_lays hts hw hfN) hfi).1
  have hd : parseFieldDescriptor (T f).2.2.1 = some ty := by rw [← hty0]; exact hty f hfN
  have hlt : fd.slot < cell.slots.size := by rw [hsl]; exact k2_hasslot (q4 f hf)
  have hvc := hvo A
  have fin2 : ∀ (H' : Heap), H'[A l i]? = some (cell.setSlot fd.slot (k_c A v)) → H'.size = H.size → (∀ q, q ≠ A l i → H'[q]? = H[q]?) → W p la e R s m args below meth c H' (locs ++ [⟨A l i, fd.slot⟩]) k n Q (F0 m (pc + 3) ls (st.map (k_c A))) := by
    intro H' e1 e2 e3
    have hE' : k_Ext A A σ σ' := fun l' i' h' => ⟨by rw [hN]; exact h', rfl⟩
    refine kk A E H' _ ls ?_ (hE.trans hE') (hok.ext hE') (hos.tail.tail.ext hE').1 (hS.put e2 e3 (hR.2.2.1 l i hi).1) hlc
    refine hR.put hKS.2.2.2.2.2.2.2.2.1 hl hi e3 e2 hN hZ ?_ (fun l' i' ne k' => hsame l' i' k' (fun q => ne ⟨q.1, q.2.1⟩)) (fun k' j hk' hP' => ?_) (fun k' => ?_)
    · unfold k_at
      rw [hs]
      refine ⟨_, e1, q2, q3, fun k' hk' => ?_⟩
      by_cases ek : k' = f
      · subst ek
        dsimp only
        rw [hv A]
        rw [← hsl]
        exact Cell.slots_setSlot_self _ hlt
      · rw [hsl, slot_ne _ _ (hap f k' hfN hk' (Ne.symm ek)), q4 k' hk', k_fv_congr (hsame l i k' (fun q => ek q.2.2))]
    · by_cases ek : k' = f
      · subst ek
        exact hp hos.head j hk' hP'
      · rw [(hsame l i k' (fun q => ek q.2.2)).2.2.2] at hP'
        exact hR.2.2.2.1 l i k' j hi hk' hP'
    · by_cases ek : k' = f
      · subst ek
        exact hff (hR.2.2.2.2.1 l i k' hi)
      · rw [(hsame l i k' (fun q => ek q.2.2)).1]
        exact hR.2.2.2.2.1 l i k' hi
  cases fin with
  | false =>
    have hlay := hts _ (hw _ (u_in_lay hfN))
    unfold u_lay at hlay
    rw [if_neg (by rw [hfi0]; decide)] at hlay
    have h6 := u_store hfc hkC hkind hlay hfi hd hvc.1 hvc.2
    exact W.putK hx hb (f := fd) ⟨hown, hts _ hlink, ⟨_, _, _, hfi⟩, hst⟩ (by rw [q2]; exact h6) q1 q3 hlt rfl rfl d fin2
  | true =>
    have hlay := hts _ (hw _ (u_in_lay hfN))
    unfold u_lay at hlay
    rw [if_pos hfi0] at hlay
    have hcf : m.cls = cf := by
      obtain ⟨_, _, c', _, _, _, -, -, hf', -, -, -, hown2, -⟩ := Cond.laysFinal_spec hlay
      have e1 : c' = cf := by have := hfi.symm.trans hf'; simp at this; exact this.1.symm
      rw [hdecl] at hown2
      rw [← e1]
      exact Option.some.inj (hown.symm.trans hown2)
    have h6 := u_fits hfc hkC hkind (Or.inr hlay) hfi hd hvc.1 hvc.2
    exact W.putFinK hx hb hown (hts _ hlink) hfi hst hcf (hfin rfl) (by rw [q2]; exact h6) q1 q3 hlt rfl rfl d fin2
theorem r_putI {X : k_X} {own : String} {cc : ByteArray} {nL : Nat} (h : k_Ok X own cc nL) {σ : k_S} {k n pc : Nat} {L : List (Option k_AV)} {st : List k_AV} {l i f ci N idx : Nat} {ty : FieldType} {x : Int32} (hF : k_FP own idx ci N f ty false) (d : decode cc pc = .ok (.putfield idx, 3)) (hs : k_sch l = .inl (ci, N)) (hl : k_isL l = false) (hf : f < N) (hk : k_kd l f = 0) (ht : k_ty l f = ty) (hx : k_fit ty x) (kk : k_W X (k_uI σ l i f x) k n (pc + 3) L st) : k_W X σ k n pc L (k_i x :: k_p l i :: st) :=
  r_putf (σ' := k_uI σ l i f x) h hF (fun q => by cases q) hs hl hf d (k_i x) rfl rfl (fun A => by unfold k_fv; rw [hk]; show Value.int (k_up3 (k_I σ) l i f x l i f) = _; rw [k_up3_s]; rfl) (fun _ => hx) (fun l' i' k' ne => ⟨k_up3_n ne, rfl, rfl, rfl⟩) (fun _ j h3 => by omega) (fun _ => by rw [ht]; show k_fit ty (k_up3 (k_I σ) l i f x l i f); rw [k_up3_s]; exact hx) kk
theorem r_putIF {X : k_X} {own : String} {cc : ByteArray} {nL : Nat} (h : k_Ok X own cc nL) {σ : k_S} {k n pc : Nat} {L : List (Option k_AV)} {st : List k_AV} {l i f ci N idx : Nat} {ty : FieldType} {x : Int32} (hF : k_FP own idx ci N f ty true) (hin : X.2.2.2.2.2.2.2.2.1.name = "<init>") (d : decode cc pc = .ok (.putfield idx, 3)) (hs : k_sch l = .inl (ci, N)) (hl : k_isL l = false) (hf : f < N) (hk : k_kd l f = 0) (ht : k_ty l f = ty) (hx : k_fit ty x) (kk : k_W X (k_uI σ l i f x) k n (pc + 3) L st) : k_W X σ k n pc L (k_i x :: k_p l i :: st) :=
  r_putf (σ' := k_uI σ l i f x) h hF (fun _ => hin) hs hl hf d (k_i x) rfl rfl (fun A => by unfold k_fv; rw [hk]; show Value.int (k_up3 (k_I σ) l i f x l i f) = _; rw [k_up3_s]; rfl) (fun _ => hx) (fun l' i' k' ne => ⟨k_up3_n ne, rfl, rfl, rfl⟩) (fun _ j h3 => by omega) (fun _ => by rw [ht]; show k_fit ty (k_up3 (k_I σ) l i f x l i f); rw [k_up3_s]; exact hx) kk
theorem r_putJ {X : k_X} {own : String} {cc : ByteArray} {nL : Nat} (h : k_Ok X own cc nL) {σ : k_S} {k n pc : Nat} {L : List (Option k_AV)} {st : List k_AV} {l i f ci N idx : Nat} {x : Int64} (hF : k_FP own idx ci N f .long false) (d : decode cc pc = .ok (.putfield idx, 3)) (hs : k_sch l = .inl (ci, N)) (hl : k_isL l = false) (hf : f < N) (hk : k_kd l f = 1) (kk : k_W X (k_uJ σ l i f x) k n (pc + 3) L st) : k_W X σ k n pc L (k_l x :: k_p l i :: st) :=
  r_putf (σ' := k_uJ σ l i f x) h hF (fun q => by cases q) hs hl hf d (k_l x) rfl rfl (fun A => by unfold k_fv; rw [hk]; show Value.long (k_up3 (k_J σ) l i f x l i f) = _; rw [k_up3_s]; rfl) (fun _ => ⟨rfl, rfl⟩) (fun l' i' k' ne => ⟨rfl, k_up3_n ne, rfl, rfl⟩) (fun _ j h3 => by omega) (fun q => q) kk
theorem r_putR {X : k_X} {own : String} {cc : ByteArray} {nL : Nat} (h : k_Ok X own cc nL) {σ : k_S} {k n pc : Nat} {L : List (Option k_AV)} {st : List k_AV} {l i f ci N idx u j : Nat} {ty : FieldType} {fin : Bool} (hF : k_FP own idx ci N f ty fin) (hin : fin = true → X.2.2.2.2.2.2.2.2.1.name = "<init>") (d : decode cc pc = .ok (.putfield idx, 3)) (hs : k_sch l = .inl (ci, N)) (hl : k_isL l = false) (hf : f < N) (hk : k_kd l f = u + 3) (ht : ty.isReference = true) (kk : k_W X (k_uP σ l i f (some j)) k n (pc + 3) L st) : k_W X σ k n pc L (k_p u j :: k_p l i :: st) :=
  r_putf (σ' := k_uP σ l i f (some j)) h hF hin hs hl hf d (k_p u j) rfl rfl (fun A => by unfold k_fv; rw [hk]; show va_rf ((k_up3 (k_P σ) l i f (some j) l i f).map (A u)) = _; rw [k_up3_s]; rfl) (fun _ => by cases ty <;> first | exact ⟨rfl, rfl⟩ | (cases ht; done)) (fun l' i' k' ne => ⟨rfl, rfl, rfl, k_up3_n ne⟩) (fun ho j' h3 hP => by
    rw [show k_P (k_uP σ l i f (some j)) l i f = some j from k_up3_s] at hP
    cases hP
    rw [hk]
    exact ho) (fun q => q) kk
theorem r_putRN {X : k_X} {own : String} {cc : ByteArray} {nL : Nat} (h : k_Ok X own cc nL) {σ : k_S} {k n pc : Nat} {L : List (Option k_AV)} {st : List k_AV} {l i f ci N idx u : Nat} {ty : FieldType} {fin : Bool} (hF : k_FP own idx ci N f ty fin) (hin : fin = true → X.2.2.2.2.2.2.2.2.1.name = "<init>") (d : decode cc pc = .ok (.putfield idx, 3)) (hs : k_sch l = .inl (ci, N)) (hl : k_isL l = false) (hf : f < N) (hk : k_kd l f = u + 3) (ht : ty.isReference = true) (kk : k_W X (k_uP σ l i f none) k n (pc + 3) L st) : k_W X σ k n pc L (k_n :: k_p l i :: st) :=
  r_putf (σ' := k_uP σ l i f none) h hF hin hs hl hf d k_n rfl rfl (fun A => by unfold k_fv; rw [hk]; show va_rf ((k_up3 (k_P σ) l i f none l i f).map (A u)) = _; rw [k_up3_s]; rfl) (fun _ => by cases ty <;> first | exact ⟨rfl, rfl⟩ | (cases ht; done)) (fun l' i' k' ne => ⟨rfl, rfl, rfl, k_up3_n ne⟩) (fun ho j' h3 hP => by
    rw [show k_P (k_uP σ l i f none) l i f = none from k_up3_s] at hP
    cases hP) (fun q => q) kk
/-- the array (l, i) as a cell -/
theorem k_HR.arr {G : k_G} {A : k_A} {E : Nat → Nat} {σ : k_S} {H : Heap} {l i t N : Nat} (h : k_HR G A E σ H) (hs : k_sch l = .inr (t, N)) (hl : k_isL l = false) (hi : i < k_N σ l) : H[A l i]? = some (arrV (G.2.1 t) N (k_fv A σ l i)) := by
  have hat := h.1 l i hl hi
  unfold k_at at hat
  rw [hs] at hat
  exact hat
theorem k_arrT {G : k_G} {s : State} (h : va_K G.1 k_cl (k_tys G.2.1) s) {t : Nat} {ty : FieldType} (ht : (k_tys G.2.1)[t]? = some (G.2.1 t, ty)) (n : Nat) (z : Nat → Value) : s.isArrayOf (arrV (G.2.1 t) n z) ty := (h.2 t _ ht).1 n z
theorem k_ix {j : Int32} {t N : Nat} (hj : j = nI t) (ht : t < N) (hN : N < 2 ^ 31) : vp_in j N ∧ j.toNatClampNeg = t := by
  subst hj
  exact ⟨vp_in_nI ht hN, nI_clamp (by omega)⟩
end
section
theorem r_iaload {X : k_X} {own : String} {cc : ByteArray} {nL : Nat} (h : k_Ok X own cc nL) {σ : k_S} {k n pc : Nat} {L : List (Option k_AV)} {st : List k_AV} {l i t N y : Nat} {j : Int32} (d : decode cc pc = .ok (.iaload, 1)) (hs : k_sch l = .inr (0, N)) (hl : k_isL l = false) (hk : k_kd l y = 0) (hj : j = nI y) (hy : y < N) (hN : N < 2 ^ 31) (kk : k_W X σ k n (pc + 1) L (k_i (k_I σ l i y) :: st)) : k_W X σ k n pc L (k_i j :: k_p l i :: st) := by
  obtain ⟨p, la, e, R, s, m, args, below, meth, c, Q, G, A0, σ0⟩ := X
  intro A E H locs ls hR hE hok hos hS hlc
  obtain ⟨hx, hb, -, hown, hts, hKS, -, -⟩ := h
  have hi : i < k_N σ l := hos.tail.head
  obtain ⟨h1, h2⟩ := k_ix hj hy hN
  refine W.iald (v := .int (k_I σ l i y)) hx hb (hR.arr hs hl hi) (k_arrT hKS.1 (t := 0) rfl _ _) (fun q => by cases q) (by show ¬ (j < 0 ∨ (arrV _ _ _).slots.size ≤ _); rw [arrV_size]; exact h1) (by show (arrV _ _ _).slots[_]? = _; rw [h2, arrV_read _ _ hy]; unfold k_fv; rw [hk]) rfl rfl d (kk A E H locs ls hR hE hok (hos.tail.tail.cons trivial) hS hlc)
theorem r_caload {X : k_X} {own : String} {cc : ByteArray} {nL : Nat} (h : k_Ok X own cc nL) {σ : k_S} {k n pc : Nat} {L : List (Option k_AV)} {st : List k_AV} {l i t N y : Nat} {j : Int32} (d : decode cc pc = .ok (.caload, 1)) (hs : k_sch l = .inr (1, N)) (hl : k_isL l = false) (hk : k_kd l y = 0) (hj : j = nI y) (hy : y < N) (hN : N < 2 ^ 31) (kk : k_W X σ k n (pc + 1) L (k_i (k_I σ l i y) :: st)) : k_W X σ k n pc L (k_i j :: k_p l i :: st) := by
  obtain ⟨p, la, e, R, s, m, args, below, meth, c, Q, G, A0, σ0⟩ := X
  intro A E H locs ls hR hE hok hos hS hlc
  obtain ⟨hx, hb, -, hown, hts, hKS, -, -⟩ := h
  have hi : i < k_N σ l := hos.tail.head
  obtain ⟨h1, h2⟩ := k_ix hj hy hN
  refine W.cald (v := .int (k_I σ l i y)) hx hb (hR.arr hs hl hi) (k_arrT hKS.1 (t := 1) rfl _ _) (fun q => by cases q) (by show ¬ (j < 0 ∨ (arrV _ _ _).slots.size ≤ _); rw [arrV_size]; exact h1) (by show (arrV _ _ _).slots[_]? = _; rw [h2, arrV_read _ _ hy]; unfold k_fv; rw [hk]) rfl rfl d (kk A E H locs ls hR hE hok (hos.tail.tail.cons trivial) hS hlc)
theorem r_baload {X : k_X} {own : String} {cc : ByteArray} {nL : Nat} (h : k_Ok X own cc nL) {σ : k_S} {k n pc : Nat} {L : List (Option k_AV)} {st : List k_AV} {l i t N y : Nat} {j : Int32} (d : decode cc pc = .ok (.baload, 1)) (hs : k_sch l = .inr (2, N)) (hl : k_isL l = false) (hk : k_kd l y = 0) (hj : j = nI y) (hy : y < N) (hN : N < 2 ^ 31) (kk : k_W X σ k n (pc + 1) L (k_i (k_I σ l i y) :: st)) : k_W X σ k n pc L (k_i j :: k_p l i :: st) := by
  obtain ⟨p, la, e, R, s, m, args, below, meth, c, Q, G, A0, σ0⟩ := X
  intro A E H locs ls hR hE hok hos hS hlc
  obtain ⟨hx, hb, -, hown, hts, hKS, -, -⟩ := h
  have hi : i < k_N σ l := hos.tail.head
  obtain ⟨h1, h2⟩ := k_ix hj hy hN
  refine W.zald (v := .int (k_I σ l i y)) hx hb (hR.arr hs hl hi) (k_arrT hKS.1 (t := 2) rfl _ _) (fun q => by cases q) (by show ¬ (j < 0 ∨ (arrV _ _ _).slots.size ≤ _); rw [arrV_size]; exact h1) (by show (arrV _ _ _).slots[_]? = _; rw [h2, arrV_read _ _ hy]; unfold k_fv; rw [hk]) rfl rfl d (kk A E H locs ls hR hE hok (hos.tail.tail.cons trivial) hS hlc)
theorem r_laload {X : k_X} {own : String} {cc : ByteArray} {nL : Nat} (h : k_Ok X own cc nL) {σ : k_S} {k n pc : Nat} {L : List (Option k_AV)} {st : List k_AV} {l i t N y : Nat} {j : Int32} (d : decode cc pc = .ok (.laload, 1)) (hs : k_sch l = .inr (3, N)) (hl : k_isL l = false) (hk : k_kd l y = 1) (hj : j = nI y) (hy : y < N) (hN : N < 2 ^ 31) (kk : k_W X σ k n (pc + 1) L (k_l (k_J σ l i y) :: st)) : k_W X σ k n pc L (k_i j :: k_p l i :: st) := by
  obtain ⟨p, la, e, R, s, m, args, below, meth, c, Q, G, A0, σ0⟩ := X
  intro A E H locs ls hR hE hok hos hS hlc
  obtain ⟨hx, hb, -, hown, hts, hKS, -, -⟩ := h
  have hi : i < k_N σ l := hos.tail.head
  obtain ⟨h1, h2⟩ := k_ix hj hy hN
  refine W.lald (v := .long (k_J σ l i y)) hx hb (hR.arr hs hl hi) (k_arrT hKS.1 (t := 3) rfl _ _) (fun q => by cases q) (by show ¬ (j < 0 ∨ (arrV _ _ _).slots.size ≤ _); rw [arrV_size]; exact h1) (by show (arrV _ _ _).slots[_]? = _; rw [h2, arrV_read _ _ hy]; unfold k_fv; rw [hk]) rfl rfl d (kk A E H locs ls hR hE hok (hos.tail.tail.cons trivial) hS hlc)
theorem r_daload {X : k_X} {own : String} {cc : ByteArray} {nL : Nat} (h : k_Ok X own cc nL) {σ : k_S} {k n pc : Nat} {L : List (Option k_AV)} {st : List k_AV} {l i t N y : Nat} {j : Int32} (d : decode cc pc = .ok (.daload, 1)) (hs : k_sch l = .inr (4, N)) (hl : k_isL l = false) (hk : k_kd l y = 2) (hj : j = nI y) (hy : y < N) (hN : N < 2 ^ 31) (kk : k_W X σ k n (pc + 1) L (k_d (k_D σ l i y) :: st)) : k_W X σ k n pc L (k_i j :: k_p l i :: st) := by
  obtain ⟨p, la, e, R, s, m, args, below, meth, c, Q, G, A0, σ0⟩ := X
  intro A E H locs ls hR hE hok hos hS hlc
  obtain ⟨hx, hb, -, hown, hts, hKS, -, -⟩ := h
  have hi : i < k_N σ l := hos.tail.head
  obtain ⟨h1, h2⟩ := k_ix hj hy hN
  refine W.dald (v := .double (k_D σ l i y)) hx hb (hR.arr hs hl hi) (k_arrT hKS.1 (t := 4) rfl _ _) (fun q => by cases q) (by show ¬ (j < 0 ∨ (arrV _ _ _).slots.size ≤ _); rw [arrV_size]; exact h1) (by show (arrV _ _ _).slots[_]? = _; rw [h2, arrV_read _ _ hy]; unfold k_fv; rw [hk]) rfl rfl d (kk A E H locs ls hR hE hok (hos.tail.tail.cons trivial) hS hlc)
theorem r_aaload {X : k_X} {own : String} {cc : ByteArray} {nL : Nat} (h : k_Ok X own cc nL) {σ : k_S} {k n pc : Nat} {L : List (Option k_AV)} {st : List k_AV} {l i t N y : Nat} {j : Int32} {u z : Nat} (d : decode cc pc = .ok (.aaload, 1)) (hs : k_sch l = .inr (6, N)) (hl : k_isL l = false) (hk : k_kd l y = u + 3) (hP : k_P σ l i y = some z) (hj : j = nI y) (hy : y < N) (hN : N < 2 ^ 31) (kk : k_W X σ k n (pc + 1) L (k_p u z :: st)) : k_W X σ k n pc L (k_i j :: k_p l i :: st) := by
  obtain ⟨p, la, e, R, s, m, args, below, meth, c, Q, G, A0, σ0⟩ := X
  intro A E H locs ls hR hE hok hos hS hlc
  obtain ⟨hx, hb, -, hown, hts, hKS, -, -⟩ := h
  have hi : i < k_N σ l := hos.tail.head
  obtain ⟨h1, h2⟩ := k_ix hj hy hN
  refine W.aald (v := .ref (A u z)) (ty := .array .int) hx hb (hR.arr hs hl hi) (k_arrT hKS.1 (t := 6) rfl _ _) rfl (fun q => by cases q) (by show ¬ (j < 0 ∨ (arrV _ _ _).slots.size ≤ _); rw [arrV_size]; exact h1) (by show (arrV _ _ _).slots[_]? = _; rw [h2, arrV_read _ _ hy]; unfold k_fv; rw [hk, hP]; rfl) rfl rfl d (kk A E H locs ls hR hE hok (hos.tail.tail.cons ?_) hS hlc)
  have := hR.2.2.2.1 l i y z hi (by rw [hk]; omega) hP
  rw [hk] at this
  exact this
theorem r_iastore {X : k_X} {own : String} {cc : ByteArray} {nL : Nat} (h : k_Ok X own cc nL) {σ : k_S} {k n pc : Nat} {L : List (Option k_AV)} {st : List k_AV} {l i t N y : Nat} {j : Int32} {x : Int32} (d : decode cc pc = .ok (.iastore, 1)) (hs : k_sch l = .inr (0, N)) (hl : k_isL l = false) (hk : k_kd l y = 0) (hty : k_ty l y = .int) (hx9 : k_fit .int x) (hj : j = nI y) (hy : y < N) (hN : N < 2 ^ 31) (kk : k_W X (k_uI σ l i y x) k n (pc + 1) L st) : k_W X σ k n pc L (k_i x :: k_i j :: k_p l i :: st) := by
  obtain ⟨p, la, e, R, s, m, args, below, meth, c, Q, G, A0, σ0⟩ := X
  intro A E H locs ls hR hE hok hos hS hlc
  obtain ⟨hx, hb, -, hown, hts, hKS, -, -⟩ := h
  have hi : i < k_N σ l := hos.tail.tail.head
  obtain ⟨h1, h2⟩ := k_ix hj hy hN
  refine W.iast hx hb (hR.arr hs hl hi) (k_arrT hKS.1 (t := 0) rfl _ _) (fun q => by cases q) (by show ¬ (j < 0 ∨ (arrV _ _ _).slots.size ≤ _); rw [arrV_size]; exact h1) rfl rfl d fun H' e1 e2 e3 => ?_
  skip
  rw [h2, arrV_store] at e1
  have hE' : k_Ext A A σ (k_uI σ l i y x) := fun l' i' h' => ⟨h', rfl⟩
  refine kk A E H' _ ls ?_ (hE.trans hE') (hok.ext hE') (hos.tail.tail.tail.ext hE').1 (hS.put e2 e3 (hR.2.2.1 l i hi).1) hlc
  refine hR.put hKS.2.2.2.2.2.2.2.2.1 hl hi e3 e2 rfl rfl ?_ (fun l' i' ne z => ⟨k_up3_n (fun q => ne ⟨q.1, q.2.1⟩), rfl, rfl, rfl⟩) (fun z j' hz hP => hR.2.2.2.1 l i z j' hi hz hP) (fun z => by
    by_cases ez : z = y
    · subst ez
      rw [hty]
      show k_fit .int (k_up3 (k_I σ) l i z x l i z)
      rw [k_up3_s]
      exact hx9
    · show k_fit _ (k_up3 (k_I σ) l i y x l i z)
      rw [k_up3_n (fun q => ez q.2.2)]
      exact hR.2.2.2.2.1 l i z hi)
  unfold k_at
  rw [hs]
  show _ = some _
  rw [e1]
  congr 2
  funext z
  by_cases ez : z = y
  · subst ez
    unfold k_fv updV
    rw [if_pos rfl, hk]
    show Value.int x = Value.int (k_up3 (k_I σ) l i z x l i z)
    rw [k_up3_s]
  · unfold updV
    rw [if_neg ez]
    exact (k_fv_congr (σ := σ) (σ' := k_uI σ l i y x) ⟨k_up3_n (fun q => ez q.2.2), rfl, rfl, rfl⟩).symm
theorem r_castore {X : k_X} {own : String} {cc : ByteArray} {nL : Nat} (h : k_Ok X own cc nL) {σ : k_S} {k n pc : Nat} {L : List (Option k_AV)} {st : List k_AV} {l i t N y : Nat} {j : Int32} {x : Int32} (d : decode cc pc = .ok (.castore, 1)) (hs : k_sch l = .inr (1, N)) (hl : k_isL l = false) (hk : k_kd l y = 0) (hty : k_ty l y = .char) (hx9 : k_fit .char x) (hj : j = nI y) (hy : y < N) (hN : N < 2 ^ 31) (kk : k_W X (k_uI σ l i y x) k n (pc + 1) L st) : k_W X σ k n pc L (k_i x :: k_i j :: k_p l i :: st) := by
  obtain ⟨p, la, e, R, s, m, args, below, meth, c, Q, G, A0, σ0⟩ := X
  intro A E H locs ls hR hE hok hos hS hlc
  obtain ⟨hx, hb, -, hown, hts, hKS, -, -⟩ := h
  have hi : i < k_N σ l := hos.tail.tail.head
  obtain ⟨h1, h2⟩ := k_ix hj hy hN
  refine W.cast hx hb (hR.arr hs hl hi) (k_arrT hKS.1 (t := 1) rfl _ _) (fun q => by cases q) (by show ¬ (j < 0 ∨ (arrV _ _ _).slots.size ≤ _); rw [arrV_size]; exact h1) rfl rfl d fun H' e1 e2 e3 => ?_
  rw [hx9.1] at e1
  rw [h2, arrV_store] at e1
  have hE' : k_Ext A A σ (k_uI σ l i y x) := fun l' i' h' => ⟨h', rfl⟩
  refine kk A E H' _ ls ?_ (hE.trans hE') (hok.ext hE') (hos.tail.tail.tail.ext hE').1 (hS.put e2 e3 (hR.2.2.1 l i hi).1) hlc
  refine hR.put hKS.2.2.2.2.2.2.2.2.1 hl hi e3 e2 rfl rfl ?_ (fun l' i' ne z => ⟨k_up3_n (fun q => ne ⟨q.1, q.2.1⟩), rfl, rfl, rfl⟩) (fun z j' hz hP => hR.2.2.2.1 l i z j' hi hz hP) (fun z => by
    by_cases ez : z = y
    · subst ez
      rw [hty]
      show k_fit .char (k_up3 (k_I σ) l i z x l i z)
      rw [k_up3_s]
      exact hx9
    · show k_fit _ (k_up3 (k_I σ) l i y x l i z)
      rw [k_up3_n (fun q => ez q.2.2)]
      exact hR.2.2.2.2.1 l i z hi)
  unfold k_at
  rw [hs]
  show _ = some _
  rw [e1]
  congr 2
  funext z
  by_cases ez : z = y
  · subst ez
    unfold k_fv updV
    rw [if_pos rfl, hk]
    show Value.int x = Value.int (k_up3 (k_I σ) l i z x l i z)
    rw [k_up3_s]
  · unfold updV
    rw [if_neg ez]
    exact (k_fv_congr (σ := σ) (σ' := k_uI σ l i y x) ⟨k_up3_n (fun q => ez q.2.2), rfl, rfl, rfl⟩).symm
theorem r_bastore {X : k_X} {own : String} {cc : ByteArray} {nL : Nat} (h : k_Ok X own cc nL) {σ : k_S} {k n pc : Nat} {L : List (Option k_AV)} {st : List k_AV} {l i t N y : Nat} {j : Int32} {x : Int32} (d : decode cc pc = .ok (.bastore, 1)) (hs : k_sch l = .inr (2, N)) (hl : k_isL l = false) (hk : k_kd l y = 0) (hty : k_ty l y = .boolean) (hx9 : k_fit .boolean x) (hj : j = nI y) (hy : y < N) (hN : N < 2 ^ 31) (kk : k_W X (k_uI σ l i y x) k n (pc + 1) L st) : k_W X σ k n pc L (k_i x :: k_i j :: k_p l i :: st) := by
  obtain ⟨p, la, e, R, s, m, args, below, meth, c, Q, G, A0, σ0⟩ := X
  intro A E H locs ls hR hE hok hos hS hlc
  obtain ⟨hx, hb, -, hown, hts, hKS, -, -⟩ := h
  have hi : i < k_N σ l := hos.tail.tail.head
  obtain ⟨h1, h2⟩ := k_ix hj hy hN
  refine W.zast hx hb (hR.arr hs hl hi) (k_arrT hKS.1 (t := 2) rfl _ _) (fun q => by cases q) (by show ¬ (j < 0 ∨ (arrV _ _ _).slots.size ≤ _); rw [arrV_size]; exact h1) rfl rfl d fun H' e1 e2 e3 => ?_
  rw [hx9.1] at e1
  rw [h2, arrV_store] at e1
  have hE' : k_Ext A A σ (k_uI σ l i y x) := fun l' i' h' => ⟨h', rfl⟩
  refine kk A E H' _ ls ?_ (hE.trans hE') (hok.ext hE') (hos.tail.tail.tail.ext hE').1 (hS.put e2 e3 (hR.2.2.1 l i hi).1) hlc
  refine hR.put hKS.2.2.2.2.2.2.2.2.1 hl hi e3 e2 rfl rfl ?_ (fun l' i' ne z => ⟨k_up3_n (fun q => ne ⟨q.1, q.2.1⟩), rfl, rfl, rfl⟩) (fun z j' hz hP => hR.2.2.2.1 l i z j' hi hz hP) (fun z => by
    by_cases ez : z = y
    · subst ez
      rw [hty]
      show k_fit .boolean (k_up3 (k_I σ) l i z x l i z)
      rw [k_up3_s]
      exact hx9
    · show k_fit _ (k_up3 (k_I σ) l i y x l i z)
      rw [k_up3_n (fun q => ez q.2.2)]
      exact hR.2.2.2.2.1 l i z hi)
  unfold k_at
  rw [hs]
  show _ = some _
  rw [e1]
  congr 2
  funext z
  by_cases ez : z = y
  · subst ez
    unfold k_fv updV
    rw [if_pos rfl, hk]
    show Value.int x = Value.int (k_up3 (k_I σ) l i z x l i z)
    rw [k_up3_s]
  · unfold updV
    rw [if_neg ez]
    exact (k_fv_congr (σ := σ) (σ' := k_uI σ l i y x) ⟨k_up3_n (fun q => ez q.2.2), rfl, rfl, rfl⟩).symm
theorem r_lastore {X : k_X} {own : String} {cc : ByteArray} {nL : Nat} (h : k_Ok X own cc nL) {σ : k_S} {k n pc : Nat} {L : List (Option k_AV)} {st : List k_AV} {l i t N y : Nat} {j : Int32} {x : Int64} (d : decode cc pc = .ok (.lastore, 1)) (hs : k_sch l = .inr (3, N)) (hl : k_isL l = false) (hk : k_kd l y = 1)   (hj : j = nI y) (hy : y < N) (hN : N < 2 ^ 31) (kk : k_W X (k_uJ σ l i y x) k n (pc + 1) L st) : k_W X σ k n pc L (k_l x :: k_i j :: k_p l i :: st) := by
  obtain ⟨p, la, e, R, s, m, args, below, meth, c, Q, G, A0, σ0⟩ := X
  intro A E H locs ls hR hE hok hos hS hlc
  obtain ⟨hx, hb, -, hown, hts, hKS, -, -⟩ := h
  have hi : i < k_N σ l := hos.tail.tail.head
  obtain ⟨h1, h2⟩ := k_ix hj hy hN
  refine W.last hx hb (hR.arr hs hl hi) (k_arrT hKS.1 (t := 3) rfl _ _) (fun q => by cases q) (by show ¬ (j < 0 ∨ (arrV _ _ _).slots.size ≤ _); rw [arrV_size]; exact h1) rfl rfl d fun H' e1 e2 e3 => ?_
  skip
  rw [h2, arrV_store] at e1
  have hE' : k_Ext A A σ (k_uJ σ l i y x) := fun l' i' h' => ⟨h', rfl⟩
  refine kk A E H' _ ls ?_ (hE.trans hE') (hok.ext hE') (hos.tail.tail.tail.ext hE').1 (hS.put e2 e3 (hR.2.2.1 l i hi).1) hlc
  refine hR.put hKS.2.2.2.2.2.2.2.2.1 hl hi e3 e2 rfl rfl ?_ (fun l' i' ne z => ⟨rfl, k_up3_n (fun q => ne ⟨q.1, q.2.1⟩), rfl, rfl⟩) (fun z j' hz hP => hR.2.2.2.1 l i z j' hi hz hP) (fun z => hR.2.2.2.2.1 l i z hi)
  unfold k_at
  rw [hs]
  show _ = some _
  rw [e1]
  congr 2
  funext z
  by_cases ez : z = y
  · subst ez
    unfold k_fv updV
    rw [if_pos rfl, hk]
    show Value.long x = Value.long (k_up3 (k_J σ) l i z x l i z)
    rw [k_up3_s]
  · unfold updV
    rw [if_neg ez]
    exact (k_fv_congr (σ := σ) (σ' := k_uJ σ l i y x) ⟨rfl, k_up3_n (fun q => ez q.2.2), rfl, rfl⟩).symm
theorem r_dastore {X : k_X} {own : String} {cc : ByteArray} {nL : Nat} (h : k_Ok X own cc nL) {σ : k_S} {k n pc : Nat} {L : List (Option k_AV)} {st : List k_AV} {l i t N y : Nat} {j : Int32} {x : UInt64} (d : decode cc pc = .ok (.dastore, 1)) (hs : k_sch l = .inr (4, N)) (hl : k_isL l = false) (hk : k_kd l y = 2)   (hj : j = nI y) (hy : y < N) (hN : N < 2 ^ 31) (kk : k_W X (k_uD σ l i y x) k n (pc + 1) L st) : k_W X σ k n pc L (k_d x :: k_i j :: k_p l i :: st) := by
  obtain ⟨p, la, e, R, s, m, args, below, meth, c, Q, G, A0, σ0⟩ := X
  intro A E H locs ls hR hE hok hos hS hlc
  obtain ⟨hx, hb, -, hown, hts, hKS, -, -⟩ := h
  have hi : i < k_N σ l := hos.tail.tail.head
  obtain ⟨h1, h2⟩ := k_ix hj hy hN
  refine W.dast hx hb (hR.arr hs hl hi) (k_arrT hKS.1 (t := 4) rfl _ _) (fun q => by cases q) (by show ¬ (j < 0 ∨ (arrV _ _ _).slots.size ≤ _); rw [arrV_size]; exact h1) rfl rfl d fun H' e1 e2 e3 => ?_
  skip
  rw [h2, arrV_store] at e1
  have hE' : k_Ext A A σ (k_uD σ l i y x) := fun l' i' h' => ⟨h', rfl⟩
  refine kk A E H' _ ls ?_ (hE.trans hE') (hok.ext hE') (hos.tail.tail.tail.ext hE').1 (hS.put e2 e3 (hR.2.2.1 l i hi).1) hlc
  refine hR.put hKS.2.2.2.2.2.2.2.2.1 hl hi e3 e2 rfl rfl ?_ (fun l' i' ne z => ⟨rfl, rfl, k_up3_n (fun q => ne ⟨q.1, q.2.1⟩), rfl⟩) (fun z j' hz hP => hR.2.2.2.1 l i z j' hi hz hP) (fun z => hR.2.2.2.2.1 l i z hi)
  unfold k_at
  rw [hs]
  show _ = some _
  rw [e1]
  congr 2
  funext z
  by_cases ez : z = y
  · subst ez
    unfold k_fv updV
    rw [if_pos rfl, hk]
    show Value.double x = Value.double (k_up3 (k_D σ) l i z x l i z)
    rw [k_up3_s]
  · unfold updV
    rw [if_neg ez]
    exact (k_fv_congr (σ := σ) (σ' := k_uD σ l i y x) ⟨rfl, rfl, k_up3_n (fun q => ez q.2.2), rfl⟩).symm
theorem r_alen {X : k_X} {own : String} {cc : ByteArray} {nL : Nat} (h : k_Ok X own cc nL) {σ : k_S} {k n pc : Nat} {L : List (Option k_AV)} {st : List k_AV} {l i t N : Nat} {ty : FieldType} (d : decode cc pc = .ok (.arraylength, 1)) (hs : k_sch l = .inr (t, N)) (hl : k_isL l = false) (ht : ∀ G : k_G, (k_tys G.2.1)[t]? = some (G.2.1 t, ty)) (kk : k_W X σ k n (pc + 1) L (k_i (nI N) :: st)) : k_W X σ k n pc L (k_p l i :: st) := by
  obtain ⟨p, la, e, R, s, m, args, below, meth, c, Q, G, A0, σ0⟩ := X
  intro A E H locs ls hR hE hok hos hS hlc
  obtain ⟨hx, hb, -, hown, hts, hKS, -, -⟩ := h
  have hi : i < k_N σ l := hos.head
  exact W.alen (n := nI N) hx hb (hR.arr hs hl hi) (k_arrT hKS.1 (t := t) (ht G) _ _) (by rw [arrV_size] <;> rfl) rfl rfl d (kk A E H locs ls hR hE hok (hos.tail.cons trivial) hS hlc)
end
section
/-! ===== contracts, their bodies, their ends, calls ===== -/
/-- what a method comes to: an answer and a state, or an exception's class (and the state as it was) -/
abbrev k_Oc : Type := (Option k_AV × k_S) ⊕ String
def k_Pc (G : k_G) (A : k_A) (E : Nat → Nat) (σ : k_S) (as : List k_AV) : Array Value → State → Prop := fun v U => v = (as.map (k_c A)).toArray ∧ k_KS G U ∧ k_HR G A E σ U.heap ∧ k_oks σ as
def k_Qc (G : k_G) (A : k_A) (σ : k_S) (oc : k_Oc) : Array Value → State → Outcome → State → Prop := fun _ st o t =>
  ∃ (r : Option k_AV) (σ' : k_S) (A' : k_A) (E' : Nat → Nat), oc = .inl (r, σ') ∧ o = .returned (r.map (k_c A')) ∧ k_Ext A A' σ σ' ∧ k_HR G A' E' σ' t.heap ∧ (∀ v, r = some v → k_ok σ' v) ∧ va_F (fun q => G.2.2.1 ≤ q) st t
def k_XC (G : k_G) (A : k_A) (σ : k_S) (oc : k_Oc) : String → State → State → Prop := fun X st t =>
  oc = .inr X ∧ (∃ (A' : k_A) (E' : Nat → Nat), k_Ext A A' σ σ ∧ k_HR G A' E' σ t.heap) ∧ va_F (fun q => G.2.2.1 ≤ q) st t
/-- METHOD y, called with as in the state σ, comes to oc -/
def k_Ct (la : Launch) (G : k_G) (y : MethodName) (ws : List Cond) (rm : Room) (as : List k_AV) (σ : k_S) (oc : k_Oc) (mc ms : Nat) : Prop :=
  ∀ (A : k_A) (E : Nat → Nat), vx_Met la y ws rm (k_Pc G A E σ as) (k_Qc G A σ oc) (k_XC G A σ oc) mc ms (fun q => G.2.2.1 ≤ q)
abbrev k_ws (y : MethodName) (cc : ByteArray) (maxL : Nat) (ret : Option FieldType) : List Cond := Cond.code y cc maxL ret :: k_Tb
/-- what a body owes at its end -/
def k_En : k_X → Option FieldType → k_Oc → Nat → Nat → List (Nat × Nat × Nat × Nat) → Prop
  | (p, l, e, R, s, m, args, below, meth, c, Q, G, A0, σ0), ret, oc, mc, ms, hh =>
    Q = vx_MQ below (k_Qc G A0 σ0 oc) (k_XC G A0 σ0 oc) args s mc ms (fun q => G.2.2.1 ≤ q) ∧ meth.sig.returnType = ret ∧ c.exceptionTable.toList = tableOf hh
/-- a method's facts beside k_Ok: its room, its name, its launch, what is fixed, the state at its start -/
def k_Me : k_X → Launch → k_G → k_S → Room → String → Prop
  | (p, l, e, R, s, m, args, below, meth, c, Q, G, A0, σ0), la, G', σ', rm, nm => l = la ∧ G = G' ∧ σ0 = σ' ∧ R = rm ∧ meth.name = nm
def k_args (as : List k_AV) (maxL : Nat) : List (Option k_AV) := as.map some ++ List.replicate (maxL - as.length) none
theorem k_lvargs {A : k_A} : ∀ (as : List k_AV) (i : Nat), (∀ v ∈ as, k_w (some v) = false) → ∀ (j : Nat) (v : k_AV), as[j]? = some v → (i + j, k_c A v) ∈ lv_args i (as.map (k_c A))
  | [], _, _, _, _, hj => by cases hj
  | a :: as, i, h, j, v, hj => by
    have h1 : ¬ (k_c A a).category = 2 := k_w_cat (h a List.mem_cons_self)
    show _ ∈ (i, k_c A a) :: lv_args (if (k_c A a).category = 2 then i + 2 else i + 1) (as.map (k_c A))
    rw [if_neg h1]
    cases j with
    | zero => cases hj; exact List.mem_cons_self
    | succ j =>
      refine List.mem_cons_of_mem _ ?_
      have := k_lvargs (A := A) as (i + 1) (fun v hv => h v (List.mem_cons_of_mem _ hv)) j v hj
      rw [show i + (j + 1) = i + 1 + j by omega]
      exact this
theorem k_lgsl {A : k_A} : ∀ (as : List k_AV), (∀ v ∈ as, k_w (some v) = false) → (lg_sl (as.map (k_c A))).length = as.length
  | [], _ => rfl
  | a :: as, h => by
    have h1 : ¬ (k_c A a).category = 2 := k_w_cat (h a List.mem_cons_self)
    have := k_lgsl (A := A) as (fun v hv => h v (List.mem_cons_of_mem _ hv))
    unfold lg_sl at this ⊢
    rw [List.map_cons, List.flatMap_cons, if_neg h1, List.length_append, this]
    simp
    omega
theorem k_okL.args {σ : k_S} {as : List k_AV} {maxL : Nat} (h : k_oks σ as) : k_okL σ (k_args as maxL) := fun v hv => by
  rcases List.mem_append.mp hv with h1 | h1
  · obtain ⟨w, h2, h3⟩ := List.mem_map.mp h1
    cases h3
    exact h v h2
  · have := (List.mem_replicate.mp h1).2
    cases this
theorem k_entry {A : k_A} {as : List k_AV} {maxL : Nat} {m : MethodId} (hw : ∀ v ∈ as, k_w (some v) = false) (hn : as.length ≤ maxL) : ∃ ls : Array Slot, entryFrame m (as.map (k_c A)).toArray maxL = F0 m 0 ls [] ∧ k_has A (k_args as maxL) ls maxL := by
  refine ⟨_, lg_entry_eq m _ maxL, ?_⟩
  have h := lv_entry (as.map (k_c A)) (n := maxL) (by rw [k_lgsl as hw]; exact hn)
  refine ⟨h.1, h.2.1, fun i v hv => ?_⟩
  have h2 : as[i]? = some v := by
    unfold k_args at hv
    by_cases hi : i < (as.map some).length
    · rw [List.getElem?_append_left hi, List.getElem?_map] at hv
      cases h3 : as[i]? with
      | none => rw [h3] at hv; cases hv
      | some z => rw [h3] at hv; cases hv; rfl
    · rw [List.getElem?_append_right (by omega), List.getElem?_replicate] at hv
      split at hv <;> cases hv
  have h3 := k_lvargs (A := A) as 0 hw i v h2
  rw [Nat.zero_add] at h3
  exact h.2.2 _ h3
theorem k_Pc.blind {G : k_G} {A : k_A} {E : Nat → Nat} {σ : k_S} {as : List k_AV} : FrameBlind (k_Pc G A E σ as) := fun _ _ _ _ h => ⟨h.1, h.2.1.blind, h.2.2.1, h.2.2.2⟩
/-- a body that keeps no table -/
theorem k_body {la : Launch} (hla : la.flags = flags0) {G : k_G} {y : MethodName} {cc : ByteArray} {maxL : Nat} {ret : Option FieldType} {rm : Room} {as : List k_AV} {σ : k_S} {oc : k_Oc} {mc ms : Nat} (hy : plainName y.cls = true) (hw : ∀ v ∈ as, k_w (some v) = false) (hn : as.length ≤ maxL)
    (body : ∀ X : k_X, k_Ok X y.cls cc maxL → k_En X ret oc mc ms [] → k_Me X la G σ rm y.name → k_W X σ 0 0 0 (k_args as maxL) []) : k_Ct la G y (k_ws y cc maxL ret) rm as σ oc mc ms := by
  intro A E
  refine vx_ofW (cc := cc) (maxL := maxL) (ret := ret) hy rfl ?_
  intro p e s m args below meth c s₁ B hml ht hP
  obtain ⟨rfl, hKS, hR, has⟩ := hP
  have hts := atoms_spec (ws := k_ws y cc maxL ret) B.pre
  obtain ⟨ls, e1, e2⟩ := k_entry (A := A) (m := m) hw hn
  rw [e1]
  have key := body (p, la, e, rm, s, m, (as.map (k_c A)).toArray, below, meth, c, vx_MQ below (k_Qc G A σ oc) (k_XC G A σ oc) (as.map (k_c A)).toArray s mc ms (fun q => G.2.2.1 ≤ q), G, A, σ)
    ⟨B.exec, B.bytes, hml, findClass_of_methodNamed B.named, fun w h => hts w (List.mem_cons_of_mem _ h), hKS, B.notSynchronized, hla⟩
    ⟨rfl, B.returns, by
      show _ = tableOf []
      cases h : c.exceptionTable.toList with
      | nil => rfl
      | cons x xs => exact (ht x (by rw [h]; exact List.mem_cons_self)).elim⟩
    ⟨rfl, rfl, rfl, rfl, (name_of_methodNamed B.named B.method).1⟩
  exact key A E s.heap [] ls hR (k_Ext.refl A σ) (k_okL.args has) (fun v hv => nomatch hv) va_S.rf (by rw [hml]; exact e2)
/-- .. that has a table -/
theorem k_bodyH {la : Launch} (hla : la.flags = flags0) {G : k_G} {y : MethodName} {cc : ByteArray} {maxL : Nat} {ret : Option FieldType} {hh : List (Nat × Nat × Nat × Nat)} {rm : Room} {as : List k_AV} {σ : k_S} {oc : k_Oc} {mc ms : Nat} (hy : plainName y.cls = true) (hw : ∀ v ∈ as, k_w (some v) = false) (hn : as.length ≤ maxL)
    (body : ∀ X : k_X, k_Ok X y.cls cc maxL → k_En X ret oc mc ms hh → k_Me X la G σ rm y.name → k_W X σ 0 0 0 (k_args as maxL) []) : k_Ct la G y (Cond.codeWith y cc maxL ret hh :: k_Tb) rm as σ oc mc ms := by
  intro A E
  refine vx_ofWH (cc := cc) (maxL := maxL) (ret := ret) hy rfl ?_
  intro p e s m args below meth c s₁ B hml hP
  obtain ⟨rfl, hKS, hR, has⟩ := hP
  have hts := atoms_spec (ws := Cond.codeWith y cc maxL ret hh :: k_Tb) B.pre
  obtain ⟨ls, e1, e2⟩ := k_entry (A := A) (m := m) hw hn
  rw [e1]
  have key := body (p, la, e, rm, s, m, (as.map (k_c A)).toArray, below, meth, c, vx_MQ below (k_Qc G A σ oc) (k_XC G A σ oc) (as.map (k_c A)).toArray s mc ms (fun q => G.2.2.1 ≤ q), G, A, σ)
    ⟨B.exec, B.bytes, hml, findClass_of_methodNamed B.named, fun w h => hts w (List.mem_cons_of_mem _ h), hKS, B.notSynchronized, hla⟩
    ⟨rfl, B.returns, vx_table (x := y) B (hts _ List.mem_cons_self)⟩
    ⟨rfl, rfl, rfl, rfl, (name_of_methodNamed B.named B.method).1⟩
  exact key A E s.heap [] ls hR (k_Ext.refl A σ) (k_okL.args has) (fun v hv => nomatch hv) va_S.rf (by rw [hml]; exact e2)
/-- the heap has grown -/
theorem k_HR.grow {G : k_G} {A : k_A} {E : Nat → Nat} {σ : k_S} {H H1 : Heap} (h : k_HR G A E σ H) (hz : H.size ≤ H1.size) (hq : ∀ q : Nat, q < H.size → H1[q]? = H[q]?) : k_HR G A E σ H1 := by
  obtain ⟨c1, c2, c3, c4, c5, c6⟩ := h
  refine ⟨fun l i hl hi => (c1 l i hl hi).kept rfl (hq _ (c1 l i hl hi).lt) (fun _ => rfl), c2, fun l i hi => ⟨(c3 l i hi).1, Nat.lt_of_lt_of_le (c3 l i hi).2 hz⟩, c4, c5, fun l hl hn => ?_⟩
  obtain ⟨d1, mc, cap, d2, d3, d4, d5, d6⟩ := c6 l hl hn
  refine ⟨d1, mc, cap, d2.kept (hq _ ?_), ?_, d4, d5, d6⟩
  · obtain ⟨cell, q1, -⟩ := d2
    exact (Array.getElem?_eq_some_iff.mp q1).1
  · rw [hq _ (Array.getElem?_eq_some_iff.mp d3).1]
    exact d3
theorem r_ireturn {X : k_X} {own : String} {cc : ByteArray} {nL : Nat} (h : k_Ok X own cc nL) {ret : Option FieldType} {oc : k_Oc} {mc ms : Nat} {hh : List (Nat × Nat × Nat × Nat)} (hEn : k_En X ret oc mc ms hh) {σ : k_S} {k n pc : Nat} {L : List (Option k_AV)} {x : Int32} {ty : FieldType} (d : decode cc pc = .ok (.ireturn, 1)) (hrt : ret = some ty) (hnar : narrow ty (.int x) = .int x) (ho : oc = .inl (some (k_i x), σ)) (hk : k ≤ mc) (hn : n ≤ ms) : k_W X σ k n pc L [k_i x] := by
  obtain ⟨p, la, e, R, s, m, args, below, meth, c, Q, G, A0, σ0⟩ := X
  obtain ⟨rfl, hret, -⟩ := hEn
  intro A E H locs ls hR hE hok hos hS hlc
  obtain ⟨hx, hb, -, hown, hts, hKS, hlocks, -⟩ := h
  refine W.widen hk hn (vx_ret ?_)
  exact W.zret hx hb (hret.trans hrt) hnar (fun t ht hW => ⟨some (k_i x), σ, A, E, ho, rfl, hE, by rw [ht]; exact hR, (fun v q => by cases q; trivial), hS.F ht⟩) hS.2.2 d hlocks
theorem r_return {X : k_X} {own : String} {cc : ByteArray} {nL : Nat} (h : k_Ok X own cc nL) {ret : Option FieldType} {oc : k_Oc} {mc ms : Nat} {hh : List (Nat × Nat × Nat × Nat)} (hEn : k_En X ret oc mc ms hh) {σ : k_S} {k n pc : Nat} {L : List (Option k_AV)}  (d : decode cc pc = .ok (.return_, 1)) (hrt : ret = none) (ho : oc = .inl (none, σ)) (hk : k ≤ mc) (hn : n ≤ ms) : k_W X σ k n pc L [] := by
  obtain ⟨p, la, e, R, s, m, args, below, meth, c, Q, G, A0, σ0⟩ := X
  obtain ⟨rfl, hret, -⟩ := hEn
  intro A E H locs ls hR hE hok hos hS hlc
  obtain ⟨hx, hb, -, hown, hts, hKS, hlocks, -⟩ := h
  refine W.widen hk hn (vx_ret ?_)
  exact W.vret hx hb (hret.trans hrt) (fun t ht hW => ⟨none, σ, A, E, ho, rfl, hE, by rw [ht]; exact hR, (fun v q => nomatch q), hS.F ht⟩) hS.2.2 d hlocks
theorem r_lreturn {X : k_X} {own : String} {cc : ByteArray} {nL : Nat} (h : k_Ok X own cc nL) {ret : Option FieldType} {oc : k_Oc} {mc ms : Nat} {hh : List (Nat × Nat × Nat × Nat)} (hEn : k_En X ret oc mc ms hh) {σ : k_S} {k n pc : Nat} {L : List (Option k_AV)} {x : Int64} (d : decode cc pc = .ok (.lreturn, 1)) (hrt : ret = some .long) (ho : oc = .inl (some (k_l x), σ)) (hk : k ≤ mc) (hn : n ≤ ms) : k_W X σ k n pc L [k_l x] := by
  obtain ⟨p, la, e, R, s, m, args, below, meth, c, Q, G, A0, σ0⟩ := X
  obtain ⟨rfl, hret, -⟩ := hEn
  intro A E H locs ls hR hE hok hos hS hlc
  obtain ⟨hx, hb, -, hown, hts, hKS, hlocks, -⟩ := h
  refine W.widen hk hn (vx_ret ?_)
  exact W.lret hx hb (hret.trans hrt) (fun t ht hW => ⟨some (k_l x), σ, A, E, ho, rfl, hE, by rw [ht]; exact hR, (fun v q => by cases q; trivial), hS.F ht⟩) hS.2.2 d hlocks
theorem r_dreturn {X : k_X} {own : String} {cc : ByteArray} {nL : Nat} (h : k_Ok X own cc nL) {ret : Option FieldType} {oc : k_Oc} {mc ms : Nat} {hh : List (Nat × Nat × Nat × Nat)} (hEn : k_En X ret oc mc ms hh) {σ : k_S} {k n pc : Nat} {L : List (Option k_AV)} {x : UInt64} (d : decode cc pc = .ok (.dreturn, 1)) (hrt : ret = some .double) (ho : oc = .inl (some (k_d x), σ)) (hk : k ≤ mc) (hn : n ≤ ms) : k_W X σ k n pc L [k_d x] := by
  obtain ⟨p, la, e, R, s, m, args, below, meth, c, Q, G, A0, σ0⟩ := X
  obtain ⟨rfl, hret, -⟩ := hEn
  intro A E H locs ls hR hE hok hos hS hlc
  obtain ⟨hx, hb, -, hown, hts, hKS, hlocks, -⟩ := h
  refine W.widen hk hn (vx_ret ?_)
  exact W.dret hx hb (hret.trans hrt) (fun t ht hW => ⟨some (k_d x), σ, A, E, ho, rfl, hE, by rw [ht]; exact hR, (fun v q => by cases q; trivial), hS.F ht⟩) hS.2.2 d hlocks
theorem r_freturn {X : k_X} {own : String} {cc : ByteArray} {nL : Nat} (h : k_Ok X own cc nL) {ret : Option FieldType} {oc : k_Oc} {mc ms : Nat} {hh : List (Nat × Nat × Nat × Nat)} (hEn : k_En X ret oc mc ms hh) {σ : k_S} {k n pc : Nat} {L : List (Option k_AV)} {x : UInt32} (d : decode cc pc = .ok (.freturn, 1)) (hrt : ret = some .float) (ho : oc = .inl (some (k_f x), σ)) (hk : k ≤ mc) (hn : n ≤ ms) : k_W X σ k n pc L [k_f x] := by
  obtain ⟨p, la, e, R, s, m, args, below, meth, c, Q, G, A0, σ0⟩ := X
  obtain ⟨rfl, hret, -⟩ := hEn
  intro A E H locs ls hR hE hok hos hS hlc
  obtain ⟨hx, hb, -, hown, hts, hKS, hlocks, -⟩ := h
  refine W.widen hk hn (vx_ret ?_)
  exact W.fret hx hb (hret.trans hrt) (fun t ht hW => ⟨some (k_f x), σ, A, E, ho, rfl, hE, by rw [ht]; exact hR, (fun v q => by cases q; trivial), hS.F ht⟩) hS.2.2 d hlocks
theorem r_areturn {X : k_X} {own : String} {cc : ByteArray} {nL : Nat} (h : k_Ok X own cc nL) {ret : Option FieldType} {oc : k_Oc} {mc ms : Nat} {hh : List (Nat × Nat × Nat × Nat)} (hEn : k_En X ret oc mc ms hh) {σ : k_S} {k n pc : Nat} {L : List (Option k_AV)} {q : Nat × Nat} {C : String} (d : decode cc pc = .ok (.areturn, 1)) (hrt : ret = some (.object C)) (ho : oc = .inl (some (.inr q), σ)) (hk : k ≤ mc) (hn : n ≤ ms) : k_W X σ k n pc L [.inr q] := by
  obtain ⟨p, la, e, R, s, m, args, below, meth, c, Q, G, A0, σ0⟩ := X
  obtain ⟨rfl, hret, -⟩ := hEn
  intro A E H locs ls hR hE hok hos hS hlc
  obtain ⟨hx, hb, -, hown, hts, hKS, hlocks, -⟩ := h
  refine W.widen hk hn (vx_ret ?_)
  exact W.aret (v := .ref (A q.1 q.2)) hx hb (hret.trans hrt) (Or.inl ⟨_, rfl⟩) (Or.inr ⟨_, rfl⟩) (fun t ht hW => ⟨some (.inr q), σ, A, E, ho, rfl, hE, by rw [ht]; exact hR, (fun v z => by cases z; exact hos.head), hS.F ht⟩) hS.2.2 d hlocks
theorem r_areturnN {X : k_X} {own : String} {cc : ByteArray} {nL : Nat} (h : k_Ok X own cc nL) {ret : Option FieldType} {oc : k_Oc} {mc ms : Nat} {hh : List (Nat × Nat × Nat × Nat)} (hEn : k_En X ret oc mc ms hh) {σ : k_S} {k n pc : Nat} {L : List (Option k_AV)} {C : String} (d : decode cc pc = .ok (.areturn, 1)) (hrt : ret = some (.object C)) (ho : oc = .inl (some k_n, σ)) (hk : k ≤ mc) (hn : n ≤ ms) : k_W X σ k n pc L [k_n] := by
  obtain ⟨p, la, e, R, s, m, args, below, meth, c, Q, G, A0, σ0⟩ := X
  obtain ⟨rfl, hret, -⟩ := hEn
  intro A E H locs ls hR hE hok hos hS hlc
  obtain ⟨hx, hb, -, hown, hts, hKS, hlocks, -⟩ := h
  refine W.widen hk hn (vx_ret ?_)
  exact W.aret (v := .null) hx hb (hret.trans hrt) (Or.inl ⟨_, rfl⟩) (Or.inl rfl) (fun t ht hW => ⟨some k_n, σ, A, E, ho, rfl, hE, by rw [ht]; exact hR, (fun v z => by cases z; trivial), hS.F ht⟩) hS.2.2 d hlocks
/-- an exception goes on to the caller: no row of the table takes it -/
theorem k_T.out {X : k_X} {own : String} {cc : ByteArray} {nL : Nat} (h : k_Ok X own cc nL) {ret : Option FieldType} {oc : k_Oc} {mc ms : Nat} (hEn : k_En X ret oc mc ms []) {la : Launch} {G : k_G} {σ0 : k_S} {rm : Room} {nm : String} (hMe : k_Me X la G σ0 rm nm) {k n pc : Nat} {L : List (Option k_AV)} {E : String} (ho : oc = .inr E) (hk : k ≤ mc) (hn : n ≤ ms) : k_T X σ0 k n pc L E := by
  obtain ⟨p, la', e, R, s, m, args, below, meth, c, Q, G', A0, σ0'⟩ := X
  obtain ⟨rfl, hret, htab⟩ := hEn
  obtain ⟨rfl, rfl, rfl, rfl, -⟩ := hMe
  intro A E' H locs ls rest q ce hR hE hok hS hlc hce hcv hcl
  obtain ⟨hx, hb, -, hown, hts, hKS, hlocks, -⟩ := h
  refine vx_out (fun x hx => by rw [htab] at hx; cases hx) hlocks hce hcv hcl (fun t ht hal => ⟨ho, ⟨A, E', hE, by rw [ht]; exact hR⟩, hS.F ht⟩) hS.2.2 hk hn
/-- what 'throw new E("..")' needs of the tables -/
def k_Th (own : String) (ik is ic : Nat) (cls text : String) (j : Nat) : Prop :=
  Bundle.fit cls = true ∧ Cond.classLink own ik cls ∈ k_Tb ∧ Cond.initialized cls ∈ k_Tb ∧ k_txt[j]? = some (own, is, text) ∧ ∀ w ∈ vx_atS own ic cls ["java/lang/RuntimeException", "java/lang/Exception"], w ∈ k_Tb
theorem k_good {w : Cond} (h : w ∈ k_Tb) : vx_ot w = true := by
  unfold vx_ot
  rw [(List.mem_filter.mp h).2, Bool.or_true]
theorem r_throw {X : k_X} {own : String} {cc : ByteArray} {nL : Nat} (h : k_Ok X own cc nL) {ret : Option FieldType} {oc : k_Oc} {mc ms : Nat} (hEn : k_En X ret oc mc ms []) {la : Launch} {G : k_G} {σ0 : k_S} {rm : Room} {nm : String} (hMe : k_Me X la G σ0 rm nm) {k n pc : Nat} {L : List (Option k_AV)} {ik is ic j : Nat} {cls text : String} (hT : k_Th own ik is ic cls text j)
    (d0 : decode cc pc = .ok (.new ik, 3)) (d3 : decode cc (pc + 3) = .ok (.dup, 1)) (d4 : decode cc (pc + 4) = .ok (.ldc is, 2)) (d6 : decode cc (pc + 6) = .ok (.invokespecial ic, 3)) (d9 : decode cc (pc + 9) = .ok (.athrow, 1))
    (ho : oc = .inr cls) (hr : 6 ≤ rm.frames ∧ 82 ≤ rm.locals ∧ k + 1 ≤ rm.cells ∧ n + 6 ≤ rm.slots) (hk : k + 1 ≤ mc) (hn : n + 6 ≤ ms) : k_W X σ0 k n pc L [] := by
  obtain ⟨p, la', e, R, s, m, args, below, meth, c, Q, G', A0, σ0'⟩ := X
  obtain ⟨rfl, hret, htab⟩ := hEn
  obtain ⟨rfl, rfl, rfl, rfl, -⟩ := hMe
  intro A E H locs ls hR hE hok hos hS hlc
  obtain ⟨hx, hb, hml, hown, hts, hKS, hlocks, hfl⟩ := h
  obtain ⟨t1, t2, t3, t4, t5⟩ := hT
  obtain ⟨hKK, hBs, hU, hN, hstr, -, -, -, -, -⟩ := hKS
  refine vx_throwS (names := ["java/lang/RuntimeException", "java/lang/Exception"]) hx hb (by unfold Launch.stackTraces; rw [hfl]; decide +kernel) hown t1 (by decide +kernel) (hts _ t2) (hts _ t3) (hstr j _ t4) (fun w hw => hts w (t5 w hw)) (fun w hw => k_good (by
    rcases List.mem_cons.mp hw with rfl | hw
    · exact t2
    · rcases List.mem_cons.mp hw with rfl | hw
      · exact t3
      · exact t5 w hw)) hU hN hS hlc.1 d0 d3 d4 d6 d9 (fun x hx => by rw [htab] at hx; cases hx) (by show 2 + 3 < _; omega) (by show 0 + (13 * (2 + 1) + 43) ≤ _; omega) hr.2.2.1 hr.2.2.2 hlocks
    (fun t hal hz hq => ⟨ho, ⟨A, E, hE, hR.grow hz hq⟩, Nat.le_trans hS.1 hz, fun q h1 h2 => by rw [hq q (Nat.lt_of_lt_of_le h1 hS.1)]; exact hS.2.1 q h1 h2⟩) hS.2.2 hk hn
end
section
/-! ===== calls ===== -/
def k_len (st : List k_AV) : Nat := st.length
theorem k_sum {A : k_A} : ∀ st : List k_AV, ((st.map (k_c A)).map fun v => v.category).sum ≤ 2 * st.length
  | [] => Nat.le_refl _
  | v :: st => by
    have h := k_sum (A := A) st
    have h2 : (k_c A v).category ≤ 2 := by rcases lv_cat (k_c A v) with q | q <;> omega
    simp only [List.map_cons, List.sum_cons, List.length_cons]
    omega
/-- what a call needs of the tables: entry idx of class own is y, of class y.cls, with this code, n parameters -/
def k_Cl (own : String) (idx : Nat) (y : MethodName) (cc : ByteArray) (maxL : Nat) (ret : Option FieldType) (n : Nat) : Prop :=
  Cond.methodLink own idx y ∈ k_Tb ∧ Cond.initialized y.cls ∈ k_Tb ∧ Cond.code y cc maxL ret ∈ k_Tb ∧ (y.cls ≠ "java/lang/invoke/MethodHandle" ∧ y.cls ≠ "java/lang/invoke/VarHandle") ∧ (parseMethodDescriptor y.desc).map (fun d => d.parameters.length) = some n
def k_ClV (own : String) (idx : Nat) (y : MethodName) (cc : ByteArray) (maxL : Nat) (ret : Option FieldType) (n : Nat) : Prop :=
  k_Cl own idx y cc maxL ret n ∧ Cond.instanceMethod y ∈ k_Tb ∧ Cond.selects y.cls y y ∈ k_Tb
def k_ClS (own : String) (idx : Nat) (y : MethodName) (cc : ByteArray) (maxL : Nat) (ret : Option FieldType) (n : Nat) : Prop :=
  k_Cl own idx y cc maxL ret n ∧ Cond.static y ∈ k_Tb
def k_ClI (own : String) (idx : Nat) (y : MethodName) (cc : ByteArray) (maxL : Nat) (n : Nat) : Prop :=
  k_Cl own idx y cc maxL none n ∧ y.name = "<init>" ∧ Cond.instanceMethod y ∈ k_Tb
theorem k_pay {args : Array Value} {s : State} {y : MethodName} {cc : ByteArray} {maxL : Nat} {ret : Option FieldType} (hts : ∀ w ∈ k_Tb, w.before args s = true) (hc : Cond.code y cc maxL ret ∈ k_Tb) : ∀ w ∈ k_ws y cc maxL ret, ∀ (a' : Array Value) (U : State), s.WarmedH U.vm → w.before a' U = true := by
  intro w hw a' U hW
  have hm : w ∈ k_Tb := by
    rcases List.mem_cons.mp hw with rfl | h
    · exact hc
    · exact h
  exact word_at hW (good_of_word (List.mem_filter.mp hm).2) (hts w hm)
theorem k_callB {args : Array Value} {s : State} {own : String} {idx : Nat} {y : MethodName} {cc : ByteArray} {maxL : Nat} {ret : Option FieldType} {n : Nat} {R rm : Room} {mc ms : Nat} (hts : ∀ w ∈ k_Tb, w.before args s = true) (h : k_Cl own idx y cc maxL ret n) (h1 : rm.cells = mc) (h2 : rm.slots = ms) (h3 : rm.frames + 1 ≤ R.frames) (h4 : 8 + (maxL + 11) + rm.locals ≤ R.locals) :
    CallB R s args own idx y cc maxL ret (k_ws y cc maxL ret) rm mc ms n := by
  obtain ⟨a1, a2, a3, a4, a5⟩ := h
  exact ⟨h1, h2, h3, h4, k_pay hts a3, List.mem_cons_self, hts _ a3, hts _ a2, a4, fun sig hs => by rw [hs] at a5; exact (Option.some.inj a5).symm, hts _ a1⟩
/-- what goes on behind a call, from what the callee comes to -/
theorem k_after {p : Program} {la : Launch} {e : Env} {R : Room} {s : State} {m : MethodId} {args : Array Value} {below : List Frame} {meth : Method} {c : Code} {Q : State → Prop} {G : k_G} {A0 : k_A} {σ0 σ : k_S} {A : k_A} {E : Nat → Nat} {H : Heap} {locs : List Loc} {ls : Array Slot} {k n pc mc ms : Nat} {L : List (Option k_AV)} {rest : List k_AV} {st0 : List Value} {oc : k_Oc} {a : Array Value}
    (hR : k_HR G A E σ H) (hE : k_Ext A0 A σ0 σ) (hok : k_okL σ L) (hos : k_oks σ rest) (hS : va_S (fun q => G.2.2.1 ≤ q) s.heap H locs) (hlc : k_has A L ls c.maxLocals)
    (hr : vx_Run p la e R s m args below meth c H locs k n mc ms (F0 m pc ls st0) (rest.map (k_c A)) (k_Qc G A σ oc a) (k_XC G A σ oc) (fun q => G.2.2.1 ≤ q))
    (kx : ∀ X : String, oc = .inr X → k_T (p, la, e, R, s, m, args, below, meth, c, Q, G, A0, σ0) σ (k + mc) (n + ms) pc L X)
    (kk : ∀ (r : Option k_AV) (σ' : k_S), oc = .inl (r, σ') → k_W (p, la, e, R, s, m, args, below, meth, c, Q, G, A0, σ0) σ' (k + mc) (n + ms) (pc + 3) L (r.toList ++ rest)) : W p la e R s m args below meth c H locs k n Q (F0 m pc ls st0) := by
  intro T hT X
  have keep : ∀ (st₀ t T' : State) (Lc : List Loc), st₀.heap = H → T'.heap = t.heap → (∀ q ∈ Lc, G.2.2.1 ≤ q.base) → va_F (fun q => G.2.2.1 ≤ q) st₀ t → va_S (fun q => G.2.2.1 ≤ q) s.heap T'.heap (locs ++ Lc) := fun st₀ t T' Lc h0 e1 hL hF =>
    (vx_keep (A1 := fun q => G.2.2.1 ≤ q) (A0 := fun q => G.2.2.1 ≤ q) (free := fun q => G.2.2.1 ≤ q) h0 e1 hS (fun _ _ h => h) (fun _ h => h) hL hF).2.2
  rcases hr T hT X with ⟨v, st₀, t, T', Lc, h0, X', hL, e1, e2, ⟨r, σ', A', E', ho, hv, hx', hR', hro, hF⟩, st⟩ | ⟨q, st₀, t, T', Lc, Ex, ce, h0, X', hL, e1, e2, ⟨ho, ⟨A', E', hx', hR'⟩, hF⟩, hce, hcv, hcl, st⟩
  · cases hv
    have h9 := kk r σ' ho A' E' T'.heap (locs ++ Lc) ls (by rw [e1]; exact hR') (hE.trans hx') (hok.ext hx') (by
      refine k_oks.app (fun w hw => ?_) (hos.ext hx').1
      cases r with
      | none => cases hw
      | some z => rw [List.mem_singleton.mp hw]; exact hro z rfl) (keep st₀ t T' Lc h0 e1 hL hF) (hlc.ext hx' hok) T' rfl X'
    obtain ⟨t2, a1, b1⟩ := h9
    refine ⟨t2, st t2 ?_, b1⟩
    rw [List.map_append, (hos.ext hx').2] at a1
    have hr9 : (r.toList).map (k_c A') = (r.map (k_c A')).toList := by cases r <;> rfl
    rw [hr9] at a1
    exact a1
  · obtain ⟨t2, a1, b1⟩ := kx Ex ho A' E' T'.heap (locs ++ Lc) ls (rest.map (k_c A)) q ce (by rw [e1]; exact hR') (hE.trans hx') (hok.ext hx') (keep st₀ t T' Lc h0 e1 hL hF) (hlc.ext hx' hok) (by rw [e1]; exact hce) hcv hcl T' rfl X'
    exact ⟨t2, st.trans a1, b1⟩
theorem k_split {A : k_A} {st as rest : List k_AV} {recv : k_AV} (h : st = as.reverse ++ recv :: rest) : st.map (k_c A) = (as.map (k_c A)).reverse ++ k_c A recv :: rest.map (k_c A) := by
  subst h
  simp [List.map_append, List.map_reverse]
theorem r_callV {X : k_X} {own : String} {cc : ByteArray} {nL : Nat} (h : k_Ok X own cc nL) {la : Launch} {G : k_G} {σ0 : k_S} {rm0 : Room} {nm : String} (hMe : k_Me X la G σ0 rm0 nm) {σ : k_S} {k n pc : Nat} {L : List (Option k_AV)} {idx np maxL mc ms l i ci N : Nat} {y : MethodName} {cy : ByteArray} {ret : Option FieldType} {rm : Room} {oc : k_Oc} {rest as st : List k_AV}
    (hC : k_Ct la G y (k_ws y cy maxL ret) rm (k_p l i :: as) σ oc mc ms) (hw : k_ClV own idx y cy maxL ret np) (d : decode cc pc = .ok (.invokevirtual idx, 3)) (hst : st = as.reverse ++ k_p l i :: rest) (hn : as.length = np) (hs : k_sch l = .inl (ci, N)) (hl : k_isL l = false) (hcl : (k_cl[ci]?).map (fun q => q.1) = some y.cls)
    (hr : rm.cells = mc ∧ rm.slots = ms ∧ rm.frames + 1 ≤ rm0.frames ∧ 8 + (maxL + 11) + rm.locals ≤ rm0.locals ∧ k + mc ≤ rm0.cells ∧ n + ms ≤ rm0.slots ∧ rest.length ≤ 4)
    (kx : ∀ E : String, oc = .inr E → k_T X σ (k + mc) (n + ms) pc L E) (kk : ∀ (r : Option k_AV) (σ' : k_S), oc = .inl (r, σ') → k_W X σ' (k + mc) (n + ms) (pc + 3) L (r.toList ++ rest)) : k_W X σ k n pc L st := by
  obtain ⟨p, la', e, R, s, m, args, below, meth, c, Q, G', A0, σ0'⟩ := X
  obtain ⟨rfl, rfl, rfl, rfl, -⟩ := hMe
  intro A E H locs ls hR hE hok hos hS hlc
  obtain ⟨hx, hb, hml, hown, hts, hKS, hlocks, hfl⟩ := h
  obtain ⟨r1, r2, r3, r4, r5, r6, r7⟩ := hr
  have hos2 : k_oks σ (as.reverse ++ k_p l i :: rest) := hst ▸ hos
  have hosa : k_oks σ (k_p l i :: as) := k_oks.cons (hos2 _ (by simp)) (fun v hv => hos2 v (by simp [hv]))
  have hosr : k_oks σ rest := fun v hv => hos2 v (by simp [hv])
  have hi : i < k_N σ l := hosa.head
  have hat := hR.1 l i hl hi
  unfold k_at at hat
  rw [hs] at hat
  obtain ⟨cell, q1, q2, q3, q4⟩ := hat
  cases hcc : k_cl[ci]? with
  | none => rw [hcc] at hcl; cases hcl
  | some r =>
    rw [hcc] at hcl
    have hcl2 : r.1 = y.cls := Option.some.inj hcl
    refine k_after hR hE hok hosr hS hlc (vx_runV (As := as.map (k_c A)) (rest := rest.map (k_c A)) (b := A l i) (g := F0 m pc ls (st.map (k_c A))) (C := y.cls) (nL := nL) ⟨hx, hb, hml, hown, hts⟩ (hC A E) ⟨k_callB hts hw.1 r1 r2 r3 r4, hts _ hw.2.1, hts _ hw.2.2⟩
      ⟨k_Pc.blind, ⟨cell, q1, by rw [q3]; rfl, by rw [q2, ← hcl2]; exact (hKS.1.1 ci r hcc).2.1⟩, fun U hU hW => ⟨rfl, hKS.call hW hU hS, by rw [hU]; exact hR, hosa⟩⟩
      rfl (by rw [List.length_map]; exact hn) (by rw [← hml]; exact hlc.1) (k_split hst) (lv_room (Nat.le_trans (k_sum rest) (by omega))) d ⟨r5, r6⟩) kx kk
theorem r_callS {X : k_X} {own : String} {cc : ByteArray} {nL : Nat} (h : k_Ok X own cc nL) {la : Launch} {G : k_G} {σ0 : k_S} {rm0 : Room} {nm : String} (hMe : k_Me X la G σ0 rm0 nm) {σ : k_S} {k n pc : Nat} {L : List (Option k_AV)} {idx np maxL mc ms : Nat} {y : MethodName} {cy : ByteArray} {ret : Option FieldType} {rm : Room} {oc : k_Oc} {rest as st : List k_AV}
    (hC : k_Ct la G y (k_ws y cy maxL ret) rm as σ oc mc ms) (hw : k_ClS own idx y cy maxL ret np) (d : decode cc pc = .ok (.invokestatic idx, 3)) (hst : st = as.reverse ++ rest) (hn : as.length = np)
    (hr : rm.cells = mc ∧ rm.slots = ms ∧ rm.frames + 1 ≤ rm0.frames ∧ 8 + (maxL + 11) + rm.locals ≤ rm0.locals ∧ k + mc ≤ rm0.cells ∧ n + ms ≤ rm0.slots ∧ rest.length ≤ 4)
    (kx : ∀ E : String, oc = .inr E → k_T X σ (k + mc) (n + ms) pc L E) (kk : ∀ (r : Option k_AV) (σ' : k_S), oc = .inl (r, σ') → k_W X σ' (k + mc) (n + ms) (pc + 3) L (r.toList ++ rest)) : k_W X σ k n pc L st := by
  obtain ⟨p, la', e, R, s, m, args, below, meth, c, Q, G', A0, σ0'⟩ := X
  obtain ⟨rfl, rfl, rfl, rfl, -⟩ := hMe
  intro A E H locs ls hR hE hok hos hS hlc
  obtain ⟨hx, hb, hml, hown, hts, hKS, hlocks, hfl⟩ := h
  obtain ⟨r1, r2, r3, r4, r5, r6, r7⟩ := hr
  have hos2 : k_oks σ (as.reverse ++ rest) := hst ▸ hos
  have hosa : k_oks σ as := fun v hv => hos2 v (by simp [hv])
  have hosr : k_oks σ rest := fun v hv => hos2 v (by simp [hv])
  refine k_after hR hE hok hosr hS hlc (vx_runS (As := as.map (k_c A)) (rest := rest.map (k_c A)) (g := F0 m pc ls (st.map (k_c A))) (nL := nL) ⟨hx, hb, hml, hown, hts⟩ (hC A E) ⟨k_callB hts hw.1 r1 r2 r3 r4, hts _ hw.2⟩
    ⟨k_Pc.blind, fun U hU hW => ⟨rfl, hKS.call hW hU hS, by rw [hU]; exact hR, hosa⟩⟩
    rfl (by rw [List.length_map]; exact hn) (by rw [← hml]; exact hlc.1) (by subst hst; simp [List.map_append, List.map_reverse]) (lv_room (Nat.le_trans (k_sum rest) (by omega))) d ⟨r5, r6⟩) kx kk
theorem r_callI {X : k_X} {own : String} {cc : ByteArray} {nL : Nat} (h : k_Ok X own cc nL) {la : Launch} {G : k_G} {σ0 : k_S} {rm0 : Room} {nm : String} (hMe : k_Me X la G σ0 rm0 nm) {σ : k_S} {k n pc : Nat} {L : List (Option k_AV)} {idx np maxL mc ms : Nat} {b : Nat × Nat} {y : MethodName} {cy : ByteArray} {rm : Room} {oc : k_Oc} {rest as st : List k_AV}
    (hC : k_Ct la G y (k_ws y cy maxL none) rm (.inr b :: as) σ oc mc ms) (hw : k_ClI own idx y cy maxL np) (d : decode cc pc = .ok (.invokespecial idx, 3)) (hst : st = as.reverse ++ .inr b :: rest) (hn : as.length = np)
    (hr : rm.cells = mc ∧ rm.slots = ms ∧ rm.frames + 1 ≤ rm0.frames ∧ 8 + (maxL + 11) + rm.locals ≤ rm0.locals ∧ k + mc ≤ rm0.cells ∧ n + ms ≤ rm0.slots ∧ rest.length ≤ 4)
    (kx : ∀ E : String, oc = .inr E → k_T X σ (k + mc) (n + ms) pc L E) (kk : ∀ (r : Option k_AV) (σ' : k_S), oc = .inl (r, σ') → k_W X σ' (k + mc) (n + ms) (pc + 3) L (r.toList ++ rest)) : k_W X σ k n pc L st := by
  obtain ⟨p, la', e, R, s, m, args, below, meth, c, Q, G', A0, σ0'⟩ := X
  obtain ⟨rfl, rfl, rfl, rfl, -⟩ := hMe
  intro A E H locs ls hR hE hok hos hS hlc
  obtain ⟨hx, hb, hml, hown, hts, hKS, hlocks, hfl⟩ := h
  obtain ⟨r1, r2, r3, r4, r5, r6, r7⟩ := hr
  have hos2 : k_oks σ (as.reverse ++ .inr b :: rest) := hst ▸ hos
  have hosa : k_oks σ (.inr b :: as) := k_oks.cons (hos2 _ (by simp)) (fun v hv => hos2 v (by simp [hv]))
  have hosr : k_oks σ rest := fun v hv => hos2 v (by simp [hv])
  refine k_after hR hE hok hosr hS hlc (vx_runI (As := as.map (k_c A)) (rest := rest.map (k_c A)) (b := A b.1 b.2) (g := F0 m pc ls (st.map (k_c A))) (nL := nL) ⟨hx, hb, hml, hown, hts⟩ (hC A E) ⟨k_callB hts hw.1 r1 r2 r3 r4, hw.2.1, hts _ hw.2.2⟩
    ⟨k_Pc.blind, fun U hU hW => ⟨rfl, hKS.call hW hU hS, by rw [hU]; exact hR, hosa⟩⟩
    rfl (by rw [List.length_map]; exact hn) (by rw [← hml]; exact hlc.1) (k_split hst) (lv_room (Nat.le_trans (k_sum rest) (by omega))) d ⟨r5, r6⟩) kx kk
end
