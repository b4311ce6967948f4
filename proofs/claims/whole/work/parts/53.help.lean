def f_L_outcomeAnew (σ : k_S) (a1 : Nat) (a2 : Int32) (a3 : Nat) : Option (Int32 × k_S) :=
  (k_bc (f_X7_outcomeAnew σ (a1) (a2)) (fun v1 => some ((0, (k_uJ v1.2 18 (a3) (0) ((v1.1 : Int32).toInt64))))) (fun e3 => (if e3 = "java/lang/IndexOutOfBoundsException" then some ((1, σ)) else (if e3 = "java/util/NoSuchElementException" then some ((2, σ)) else none))))
theorem j_L_outcomeAnew (la : Launch) (hla : la.flags = flags0) (G : k_G) (σ : k_S) (a1 : Nat) (a2 : Int32) (a3 : Nat) (x : (Int32 × k_S)) (hoc : f_L_outcomeAnew σ a1 a2 a3 = some x) : k_Ct la G yL_outcomeAnew (Cond.codeWith yL_outcomeAnew cL_outcomeAnew 4 (Option.some ClassFile.FieldType.int) [((0 : Nat), (9 : Nat), (12 : Nat), (21 : Nat)), ((0 : Nat), (9 : Nat), (15 : Nat), (31 : Nat))] :: k_Tb) { frames := 9, cells := 2, slots := 12, locals := 169 } [k_p 0 (a1), k_i (a2), k_p 18 (a3)] σ (.inl (k_mI x.1, x.2)) 2 12 := by
  refine k_bodyH hla (by decide +kernel) (k_wl rfl) (Nat.le_of_ble_eq_true rfl) (fun X h hEn hMe => ?_)
  show k_W X σ 0 0 0 [some (k_p 0 (a1)), some (k_i (a2)), some (k_p 18 (a3)), none] []
  unfold f_L_outcomeAnew at hoc
  refine r_aload_n h dL_outcomeAnew_0 rfl ?_
  refine r_iconst (v := 0) h dL_outcomeAnew_1 (by decide) ?_
  refine r_aload_n h dL_outcomeAnew_2 rfl ?_
  refine r_iload_n h dL_outcomeAnew_3 rfl ?_
  rcases k_bc_ex hoc with ⟨v1, q2, hoc⟩ | ⟨e3, q2, hoc⟩
  · refine r_callV h hMe (rest := [k_i (0), k_p 18 (a3)]) (as := [k_i (a2)]) (oc := .inl (k_mI v1.1, v1.2)) (j_X7_outcomeAnew la hla G _ (a1) (a2) _ q2) kl_L_86 dL_outcomeAnew_4 rfl rfl rfl rfl rfl ⟨rfl, rfl, Nat.le_of_ble_eq_true rfl, Nat.le_of_ble_eq_true rfl, Nat.le_of_ble_eq_true rfl, Nat.le_of_ble_eq_true rfl, Nat.le_of_ble_eq_true rfl⟩ (fun E q => by cases q) (fun r s q => ?_)
    cases q
    show k_W X _ _ _ _ _ ([k_i (v1.1), k_i (0), k_p 18 (a3)])
    refine r_i2l h dL_outcomeAnew_7 ?_
    refine r_lastore (y := 0) (t := 0) (x := (v1.1 : Int32).toInt64) h dL_outcomeAnew_8 rfl rfl rfl (by decide) (by decide) (by decide) ?_
    refine r_goto (tgt := 18) h dL_outcomeAnew_9 (by decide) ?_
    refine r_iconst (v := 0) h dL_outcomeAnew_18 (by decide) ?_
    cases hoc
    exact r_ireturn h hEn dL_outcomeAnew_19 rfl rfl rfl (by decide) (by decide)
  · skip
    by_cases c4 : e3 = "java/lang/IndexOutOfBoundsException"
    · replace hoc := (if_pos c4).symm.trans hoc
      subst c4
      refine r_callV h hMe (rest := [k_i (0), k_p 18 (a3)]) (as := [k_i (a2)]) (oc := .inr "java/lang/IndexOutOfBoundsException") (j_X7_outcomeAnew la hla G _ (a1) (a2) _ q2) kl_L_86 dL_outcomeAnew_4 rfl rfl rfl rfl rfl ⟨rfl, rfl, Nat.le_of_ble_eq_true rfl, Nat.le_of_ble_eq_true rfl, Nat.le_of_ble_eq_true rfl, Nat.le_of_ble_eq_true rfl, Nat.le_of_ble_eq_true rfl⟩ (fun E q => ?_) (fun r s q => by cases q)
      cases q
      refine k_catch h hEn [] [(0, 9, 15, 31)] (0, 9, 12, 21) rfl (fun z hz => by cases hz) (by decide) (by decide) (by decide) wd_422 (by decide) (fun t5 => ?_)
      refine r_astore_nR (L' := [some (k_p 0 (a1)), some (k_i (a2)), some (k_p 18 (a3)), some (k_r (t5))]) h dL_outcomeAnew_12 (by decide) rfl ?_
      refine r_iconst (v := 1) h dL_outcomeAnew_13 (by decide) ?_
      cases hoc
      exact r_ireturn h hEn dL_outcomeAnew_14 rfl rfl rfl (by decide) (by decide)
    · replace hoc := (if_neg c4).symm.trans hoc
      by_cases c6 : e3 = "java/util/NoSuchElementException"
      · replace hoc := (if_pos c6).symm.trans hoc
        subst c6
        refine r_callV h hMe (rest := [k_i (0), k_p 18 (a3)]) (as := [k_i (a2)]) (oc := .inr "java/util/NoSuchElementException") (j_X7_outcomeAnew la hla G _ (a1) (a2) _ q2) kl_L_86 dL_outcomeAnew_4 rfl rfl rfl rfl rfl ⟨rfl, rfl, Nat.le_of_ble_eq_true rfl, Nat.le_of_ble_eq_true rfl, Nat.le_of_ble_eq_true rfl, Nat.le_of_ble_eq_true rfl, Nat.le_of_ble_eq_true rfl⟩ (fun E q => ?_) (fun r s q => by cases q)
        cases q
        refine k_catch h hEn [(0, 9, 12, 21)] [] (0, 9, 15, 31) rfl (by intro z hz; simp only [List.mem_cons, List.not_mem_nil, or_false] at hz; rcases hz with rfl; exact ⟨by decide, "java/lang/IndexOutOfBoundsException", by decide, by decide, wd_422⟩) (by decide) (by decide) (by decide) wd_490 (by decide) (fun t7 => ?_)
        refine r_astore_nR (L' := [some (k_p 0 (a1)), some (k_i (a2)), some (k_p 18 (a3)), some (k_r (t7))]) h dL_outcomeAnew_15 (by decide) rfl ?_
        refine r_iconst (v := 2) h dL_outcomeAnew_16 (by decide) ?_
        cases hoc
        exact r_ireturn h hEn dL_outcomeAnew_17 rfl rfl rfl (by decide) (by decide)
      · replace hoc := (if_neg c6).symm.trans hoc
        cases hoc
def f_L_isByBot (σ : k_S) (a1 : Nat) (a2 : Int32) (a3 : Nat) : Option (Int32 × k_S) :=
  (k_bc (f_X7_isByBot σ (a1) (a2)) (fun v1 => (if v1 = 0 then some ((0, (k_uJ σ 18 (a3) (0) (0)))) else some ((0, (k_uJ σ 18 (a3) (0) (1)))))) (fun e4 => (if e4 = "java/lang/IndexOutOfBoundsException" then some ((1, σ)) else (if e4 = "java/util/NoSuchElementException" then some ((2, σ)) else none))))
theorem j_L_isByBot (la : Launch) (hla : la.flags = flags0) (G : k_G) (σ : k_S) (a1 : Nat) (a2 : Int32) (a3 : Nat) (x : (Int32 × k_S)) (hoc : f_L_isByBot σ a1 a2 a3 = some x) : k_Ct la G yL_isByBot (Cond.codeWith yL_isByBot cL_isByBot 4 (Option.some ClassFile.FieldType.int) [((0 : Nat), (16 : Nat), (19 : Nat), (21 : Nat)), ((0 : Nat), (16 : Nat), (22 : Nat), (31 : Nat))] :: k_Tb) { frames := 9, cells := 2, slots := 12, locals := 146 } [k_p 0 (a1), k_i (a2), k_p 18 (a3)] σ (.inl (k_mI x.1, x.2)) 2 12 := by
  refine k_bodyH hla (by decide +kernel) (k_wl rfl) (Nat.le_of_ble_eq_true rfl) (fun X h hEn hMe => ?_)
  show k_W X σ 0 0 0 [some (k_p 0 (a1)), some (k_i (a2)), some (k_p 18 (a3)), none] []
  unfold f_L_isByBot at hoc
  refine r_aload_n h dL_isByBot_0 rfl ?_
  refine r_iconst (v := 0) h dL_isByBot_1 (by decide) ?_
  refine r_aload_n h dL_isByBot_2 rfl ?_
  refine r_iload_n h dL_isByBot_3 rfl ?_
  rcases k_bc_ex hoc with ⟨v1, q2, hoc⟩ | ⟨e4, q2, hoc⟩
  · refine r_callV h hMe (rest := [k_i (0), k_p 18 (a3)]) (as := [k_i (a2)]) (oc := .inl (k_mI v1, σ)) (j_X7_isByBot la hla G _ (a1) (a2) _ q2) kl_L_89 dL_isByBot_4 rfl rfl rfl rfl rfl ⟨rfl, rfl, Nat.le_of_ble_eq_true rfl, Nat.le_of_ble_eq_true rfl, Nat.le_of_ble_eq_true rfl, Nat.le_of_ble_eq_true rfl, Nat.le_of_ble_eq_true rfl⟩ (fun E q => by cases q) (fun r s q => ?_)
    cases q
    show k_W X _ _ _ _ _ ([k_i (v1), k_i (0), k_p 18 (a3)])
    refine r_if_eq (tgt := 14) h dL_isByBot_7 (by decide) (fun c3 => ?_) (fun c3 => ?_)
    · replace hoc := (if_pos c3).symm.trans hoc
      refine r_lconst (v := 0) h dL_isByBot_14 (by decide) ?_
      refine r_lastore (y := 0) (t := 0) (x := 0) h dL_isByBot_15 rfl rfl rfl (by decide) (by decide) (by decide) ?_
      refine r_goto (tgt := 25) h dL_isByBot_16 (by decide) ?_
      refine r_iconst (v := 0) h dL_isByBot_25 (by decide) ?_
      cases hoc
      exact r_ireturn h hEn dL_isByBot_26 rfl rfl rfl (by decide) (by decide)
    · replace hoc := (if_neg c3).symm.trans hoc
      refine r_lconst (v := 1) h dL_isByBot_10 (by decide) ?_
      refine r_goto (tgt := 15) h dL_isByBot_11 (by decide) ?_
      refine r_lastore (y := 0) (t := 0) (x := 1) h dL_isByBot_15 rfl rfl rfl (by decide) (by decide) (by decide) ?_
      refine r_goto (tgt := 25) h dL_isByBot_16 (by decide) ?_
      refine r_iconst (v := 0) h dL_isByBot_25 (by decide) ?_
      cases hoc
      exact r_ireturn h hEn dL_isByBot_26 rfl rfl rfl (by decide) (by decide)
  · skip
    by_cases c5 : e4 = "java/lang/IndexOutOfBoundsException"
    · replace hoc := (if_pos c5).symm.trans hoc
      subst c5
      refine r_callV h hMe (rest := [k_i (0), k_p 18 (a3)]) (as := [k_i (a2)]) (oc := .inr "java/lang/IndexOutOfBoundsException") (j_X7_isByBot la hla G _ (a1) (a2) _ q2) kl_L_89 dL_isByBot_4 rfl rfl rfl rfl rfl ⟨rfl, rfl, Nat.le_of_ble_eq_true rfl, Nat.le_of_ble_eq_true rfl, Nat.le_of_ble_eq_true rfl, Nat.le_of_ble_eq_true rfl, Nat.le_of_ble_eq_true rfl⟩ (fun E q => ?_) (fun r s q => by cases q)
      cases q
      refine k_catch h hEn [] [(0, 16, 22, 31)] (0, 16, 19, 21) rfl (fun z hz => by cases hz) (by decide) (by decide) (by decide) wd_422 (by decide) (fun t6 => ?_)
      refine r_astore_nR (L' := [some (k_p 0 (a1)), some (k_i (a2)), some (k_p 18 (a3)), some (k_r (t6))]) h dL_isByBot_19 (by decide) rfl ?_
      refine r_iconst (v := 1) h dL_isByBot_20 (by decide) ?_
      cases hoc
      exact r_ireturn h hEn dL_isByBot_21 rfl rfl rfl (by decide) (by decide)
    · replace hoc := (if_neg c5).symm.trans hoc
      by_cases c7 : e4 = "java/util/NoSuchElementException"
      · replace hoc := (if_pos c7).symm.trans hoc
        subst c7
        refine r_callV h hMe (rest := [k_i (0), k_p 18 (a3)]) (as := [k_i (a2)]) (oc := .inr "java/util/NoSuchElementException") (j_X7_isByBot la hla G _ (a1) (a2) _ q2) kl_L_89 dL_isByBot_4 rfl rfl rfl rfl rfl ⟨rfl, rfl, Nat.le_of_ble_eq_true rfl, Nat.le_of_ble_eq_true rfl, Nat.le_of_ble_eq_true rfl, Nat.le_of_ble_eq_true rfl, Nat.le_of_ble_eq_true rfl⟩ (fun E q => ?_) (fun r s q => by cases q)
        cases q
        refine k_catch h hEn [(0, 16, 19, 21)] [] (0, 16, 22, 31) rfl (by intro z hz; simp only [List.mem_cons, List.not_mem_nil, or_false] at hz; rcases hz with rfl; exact ⟨by decide, "java/lang/IndexOutOfBoundsException", by decide, by decide, wd_422⟩) (by decide) (by decide) (by decide) wd_490 (by decide) (fun t8 => ?_)
        refine r_astore_nR (L' := [some (k_p 0 (a1)), some (k_i (a2)), some (k_p 18 (a3)), some (k_r (t8))]) h dL_isByBot_22 (by decide) rfl ?_
        refine r_iconst (v := 2) h dL_isByBot_23 (by decide) ?_
        cases hoc
        exact r_ireturn h hEn dL_isByBot_24 rfl rfl rfl (by decide) (by decide)
      · replace hoc := (if_neg c7).symm.trans hoc
        cases hoc
def f_L_appeal (σ : k_S) (a1 : Nat) (a2 : Int32) (a3 : Nat) : Option (Int32 × k_S) :=
  (k_bc (f_X7_appeal σ (a1) (a2)) (fun v1 => some ((0, (k_uJ v1.2 18 (a3) (0) ((v1.1 : Int32).toInt64))))) (fun e3 => (if e3 = "java/lang/IndexOutOfBoundsException" then some ((1, σ)) else (if e3 = "java/lang/IllegalStateException" then some ((2, σ)) else (if e3 = "java/lang/UnsupportedOperationException" then some ((3, σ)) else none)))))
theorem j_L_appeal (la : Launch) (hla : la.flags = flags0) (G : k_G) (σ : k_S) (a1 : Nat) (a2 : Int32) (a3 : Nat) (x : (Int32 × k_S)) (hoc : f_L_appeal σ a1 a2 a3 = some x) : k_Ct la G yL_appeal (Cond.codeWith yL_appeal cL_appeal 4 (Option.some ClassFile.FieldType.int) [((0 : Nat), (9 : Nat), (12 : Nat), (21 : Nat)), ((0 : Nat), (9 : Nat), (15 : Nat), (15 : Nat)), ((0 : Nat), (9 : Nat), (18 : Nat), (66 : Nat))] :: k_Tb) { frames := 9, cells := 3, slots := 310, locals := 253 } [k_p 0 (a1), k_i (a2), k_p 18 (a3)] σ (.inl (k_mI x.1, x.2)) 3 310 := by
  refine k_bodyH hla (by decide +kernel) (k_wl rfl) (Nat.le_of_ble_eq_true rfl) (fun X h hEn hMe => ?_)
  show k_W X σ 0 0 0 [some (k_p 0 (a1)), some (k_i (a2)), some (k_p 18 (a3)), none] []
  unfold f_L_appeal at hoc
  refine r_aload_n h dL_appeal_0 rfl ?_
  refine r_iconst (v := 0) h dL_appeal_1 (by decide) ?_
  refine r_aload_n h dL_appeal_2 rfl ?_
  refine r_iload_n h dL_appeal_3 rfl ?_
  rcases k_bc_ex hoc with ⟨v1, q2, hoc⟩ | ⟨e3, q2, hoc⟩
  · refine r_callV h hMe (rest := [k_i (0), k_p 18 (a3)]) (as := [k_i (a2)]) (oc := .inl (k_mI v1.1, v1.2)) (j_X7_appeal la hla G _ (a1) (a2) _ q2) kl_L_93 dL_appeal_4 rfl rfl rfl rfl rfl ⟨rfl, rfl, Nat.le_of_ble_eq_true rfl, Nat.le_of_ble_eq_true rfl, Nat.le_of_ble_eq_true rfl, Nat.le_of_ble_eq_true rfl, Nat.le_of_ble_eq_true rfl⟩ (fun E q => by cases q) (fun r s q => ?_)
    cases q
    show k_W X _ _ _ _ _ ([k_i (v1.1), k_i (0), k_p 18 (a3)])
    refine r_i2l h dL_appeal_7 ?_
    refine r_lastore (y := 0) (t := 0) (x := (v1.1 : Int32).toInt64) h dL_appeal_8 rfl rfl rfl (by decide) (by decide) (by decide) ?_
    refine r_goto (tgt := 21) h dL_appeal_9 (by decide) ?_
    refine r_iconst (v := 0) h dL_appeal_21 (by decide) ?_
    cases hoc
    exact r_ireturn h hEn dL_appeal_22 rfl rfl rfl (by decide) (by decide)
  · skip
    by_cases c4 : e3 = "java/lang/IndexOutOfBoundsException"
    · replace hoc := (if_pos c4).symm.trans hoc
      subst c4
      refine r_callV h hMe (rest := [k_i (0), k_p 18 (a3)]) (as := [k_i (a2)]) (oc := .inr "java/lang/IndexOutOfBoundsException") (j_X7_appeal la hla G _ (a1) (a2) _ q2) kl_L_93 dL_appeal_4 rfl rfl rfl rfl rfl ⟨rfl, rfl, Nat.le_of_ble_eq_true rfl, Nat.le_of_ble_eq_true rfl, Nat.le_of_ble_eq_true rfl, Nat.le_of_ble_eq_true rfl, Nat.le_of_ble_eq_true rfl⟩ (fun E q => ?_) (fun r s q => by cases q)
      cases q
      refine k_catch h hEn [] [(0, 9, 15, 15), (0, 9, 18, 66)] (0, 9, 12, 21) rfl (fun z hz => by cases hz) (by decide) (by decide) (by decide) wd_422 (by decide) (fun t5 => ?_)
      refine r_astore_nR (L' := [some (k_p 0 (a1)), some (k_i (a2)), some (k_p 18 (a3)), some (k_r (t5))]) h dL_appeal_12 (by decide) rfl ?_
      refine r_iconst (v := 1) h dL_appeal_13 (by decide) ?_
      cases hoc
      exact r_ireturn h hEn dL_appeal_14 rfl rfl rfl (by decide) (by decide)
    · replace hoc := (if_neg c4).symm.trans hoc
      by_cases c6 : e3 = "java/lang/IllegalStateException"
      · replace hoc := (if_pos c6).symm.trans hoc
        subst c6
        refine r_callV h hMe (rest := [k_i (0), k_p 18 (a3)]) (as := [k_i (a2)]) (oc := .inr "java/lang/IllegalStateException") (j_X7_appeal la hla G _ (a1) (a2) _ q2) kl_L_93 dL_appeal_4 rfl rfl rfl rfl rfl ⟨rfl, rfl, Nat.le_of_ble_eq_true rfl, Nat.le_of_ble_eq_true rfl, Nat.le_of_ble_eq_true rfl, Nat.le_of_ble_eq_true rfl, Nat.le_of_ble_eq_true rfl⟩ (fun E q => ?_) (fun r s q => by cases q)
        cases q
        refine k_catch h hEn [(0, 9, 12, 21)] [(0, 9, 18, 66)] (0, 9, 15, 15) rfl (by intro z hz; simp only [List.mem_cons, List.not_mem_nil, or_false] at hz; rcases hz with rfl; exact ⟨by decide, "java/lang/IndexOutOfBoundsException", by decide, by decide, wd_422⟩) (by decide) (by decide) (by decide) wd_228 (by decide) (fun t7 => ?_)
        refine r_astore_nR (L' := [some (k_p 0 (a1)), some (k_i (a2)), some (k_p 18 (a3)), some (k_r (t7))]) h dL_appeal_15 (by decide) rfl ?_
        refine r_iconst (v := 2) h dL_appeal_16 (by decide) ?_
        cases hoc
        exact r_ireturn h hEn dL_appeal_17 rfl rfl rfl (by decide) (by decide)
      · replace hoc := (if_neg c6).symm.trans hoc
        by_cases c8 : e3 = "java/lang/UnsupportedOperationException"
        · replace hoc := (if_pos c8).symm.trans hoc
          subst c8
          refine r_callV h hMe (rest := [k_i (0), k_p 18 (a3)]) (as := [k_i (a2)]) (oc := .inr "java/lang/UnsupportedOperationException") (j_X7_appeal la hla G _ (a1) (a2) _ q2) kl_L_93 dL_appeal_4 rfl rfl rfl rfl rfl ⟨rfl, rfl, Nat.le_of_ble_eq_true rfl, Nat.le_of_ble_eq_true rfl, Nat.le_of_ble_eq_true rfl, Nat.le_of_ble_eq_true rfl, Nat.le_of_ble_eq_true rfl⟩ (fun E q => ?_) (fun r s q => by cases q)
          cases q
          refine k_catch h hEn [(0, 9, 12, 21), (0, 9, 15, 15)] [] (0, 9, 18, 66) rfl (by intro z hz; simp only [List.mem_cons, List.not_mem_nil, or_false] at hz; rcases hz with rfl | rfl; exact ⟨by decide, "java/lang/IndexOutOfBoundsException", by decide, by decide, wd_422⟩; exact ⟨by decide, "java/lang/IllegalStateException", by decide, by decide, wd_228⟩) (by decide) (by decide) (by decide) wd_729 (by decide) (fun t9 => ?_)
          refine r_astore_nR (L' := [some (k_p 0 (a1)), some (k_i (a2)), some (k_p 18 (a3)), some (k_r (t9))]) h dL_appeal_18 (by decide) rfl ?_
          refine r_iconst (v := 3) h dL_appeal_19 (by decide) ?_
          cases hoc
          exact r_ireturn h hEn dL_appeal_20 rfl rfl rfl (by decide) (by decide)
        · replace hoc := (if_neg c8).symm.trans hoc
          cases hoc
def f_L_wasReversed (σ : k_S) (a1 : Nat) (a2 : Int32) (a3 : Nat) : Option (Int32 × k_S) :=
  (k_bc (f_X7_wasReversed σ (a1) (a2)) (fun v1 => (if v1 = 0 then some ((0, (k_uJ σ 18 (a3) (0) (0)))) else some ((0, (k_uJ σ 18 (a3) (0) (1)))))) (fun e4 => (if e4 = "java/lang/IndexOutOfBoundsException" then some ((1, σ)) else none)))
theorem j_L_wasReversed (la : Launch) (hla : la.flags = flags0) (G : k_G) (σ : k_S) (a1 : Nat) (a2 : Int32) (a3 : Nat) (x : (Int32 × k_S)) (hoc : f_L_wasReversed σ a1 a2 a3 = some x) : k_Ct la G yL_wasReversed (Cond.codeWith yL_wasReversed cL_wasReversed 4 (Option.some ClassFile.FieldType.int) [((0 : Nat), (16 : Nat), (19 : Nat), (21 : Nat))] :: k_Tb) { frames := 9, cells := 1, slots := 6, locals := 145 } [k_p 0 (a1), k_i (a2), k_p 18 (a3)] σ (.inl (k_mI x.1, x.2)) 1 6 := by
  refine k_bodyH hla (by decide +kernel) (k_wl rfl) (Nat.le_of_ble_eq_true rfl) (fun X h hEn hMe => ?_)
  show k_W X σ 0 0 0 [some (k_p 0 (a1)), some (k_i (a2)), some (k_p 18 (a3)), none] []
  unfold f_L_wasReversed at hoc
  refine r_aload_n h dL_wasReversed_0 rfl ?_
  refine r_iconst (v := 0) h dL_wasReversed_1 (by decide) ?_
  refine r_aload_n h dL_wasReversed_2 rfl ?_
  refine r_iload_n h dL_wasReversed_3 rfl ?_
  rcases k_bc_ex hoc with ⟨v1, q2, hoc⟩ | ⟨e4, q2, hoc⟩
  · refine r_callV h hMe (rest := [k_i (0), k_p 18 (a3)]) (as := [k_i (a2)]) (oc := .inl (k_mI v1, σ)) (j_X7_wasReversed la hla G _ (a1) (a2) _ q2) kl_L_96 dL_wasReversed_4 rfl rfl rfl rfl rfl ⟨rfl, rfl, Nat.le_of_ble_eq_true rfl, Nat.le_of_ble_eq_true rfl, Nat.le_of_ble_eq_true rfl, Nat.le_of_ble_eq_true rfl, Nat.le_of_ble_eq_true rfl⟩ (fun E q => by cases q) (fun r s q => ?_)
    cases q
    show k_W X _ _ _ _ _ ([k_i (v1), k_i (0), k_p 18 (a3)])
    refine r_if_eq (tgt := 14) h dL_wasReversed_7 (by decide) (fun c3 => ?_) (fun c3 => ?_)
    · replace hoc := (if_pos c3).symm.trans hoc
      refine r_lconst (v := 0) h dL_wasReversed_14 (by decide) ?_
      refine r_lastore (y := 0) (t := 0) (x := 0) h dL_wasReversed_15 rfl rfl rfl (by decide) (by decide) (by decide) ?_
      refine r_goto (tgt := 22) h dL_wasReversed_16 (by decide) ?_
      refine r_iconst (v := 0) h dL_wasReversed_22 (by decide) ?_
      cases hoc
      exact r_ireturn h hEn dL_wasReversed_23 rfl rfl rfl (by decide) (by decide)
    · replace hoc := (if_neg c3).symm.trans hoc
      refine r_lconst (v := 1) h dL_wasReversed_10 (by decide) ?_
      refine r_goto (tgt := 15) h dL_wasReversed_11 (by decide) ?_
      refine r_lastore (y := 0) (t := 0) (x := 1) h dL_wasReversed_15 rfl rfl rfl (by decide) (by decide) (by decide) ?_
      refine r_goto (tgt := 22) h dL_wasReversed_16 (by decide) ?_
      refine r_iconst (v := 0) h dL_wasReversed_22 (by decide) ?_
      cases hoc
      exact r_ireturn h hEn dL_wasReversed_23 rfl rfl rfl (by decide) (by decide)
  · skip
    by_cases c5 : e4 = "java/lang/IndexOutOfBoundsException"
    · replace hoc := (if_pos c5).symm.trans hoc
      subst c5
      refine r_callV h hMe (rest := [k_i (0), k_p 18 (a3)]) (as := [k_i (a2)]) (oc := .inr "java/lang/IndexOutOfBoundsException") (j_X7_wasReversed la hla G _ (a1) (a2) _ q2) kl_L_96 dL_wasReversed_4 rfl rfl rfl rfl rfl ⟨rfl, rfl, Nat.le_of_ble_eq_true rfl, Nat.le_of_ble_eq_true rfl, Nat.le_of_ble_eq_true rfl, Nat.le_of_ble_eq_true rfl, Nat.le_of_ble_eq_true rfl⟩ (fun E q => ?_) (fun r s q => by cases q)
      cases q
      refine k_catch h hEn [] [] (0, 16, 19, 21) rfl (fun z hz => by cases hz) (by decide) (by decide) (by decide) wd_422 (by decide) (fun t6 => ?_)
      refine r_astore_nR (L' := [some (k_p 0 (a1)), some (k_i (a2)), some (k_p 18 (a3)), some (k_r (t6))]) h dL_wasReversed_19 (by decide) rfl ?_
      refine r_iconst (v := 1) h dL_wasReversed_20 (by decide) ?_
      cases hoc
      exact r_ireturn h hEn dL_wasReversed_21 rfl rfl rfl (by decide) (by decide)
    · replace hoc := (if_neg c5).symm.trans hoc
      cases hoc
def f_L_pass (σ : k_S) (a1 : Nat) (a2 : Int32) (a3 : Nat) : Option (Int32 × k_S) :=
  (k_bc (f_X7_pass σ (a1) (a2)) (fun v1 => some ((0, (k_uJ v1.2 18 (a3) (0) ((v1.1 : Int32).toInt64))))) (fun e3 => (if e3 = "java/lang/IllegalArgumentException" then some ((1, σ)) else (if e3 = "java/lang/IllegalStateException" then some ((2, σ)) else none))))
theorem j_L_pass (la : Launch) (hla : la.flags = flags0) (G : k_G) (σ : k_S) (a1 : Nat) (a2 : Int32) (a3 : Nat) (x : (Int32 × k_S)) (hoc : f_L_pass σ a1 a2 a3 = some x) : k_Ct la G yL_pass (Cond.codeWith yL_pass cL_pass 4 (Option.some ClassFile.FieldType.int) [((0 : Nat), (9 : Nat), (12 : Nat), (13 : Nat)), ((0 : Nat), (9 : Nat), (15 : Nat), (15 : Nat))] :: k_Tb) { frames := 8, cells := 2, slots := 12, locals := 129 } [k_p 0 (a1), k_i (a2), k_p 18 (a3)] σ (.inl (k_mI x.1, x.2)) 2 12 := by
  refine k_bodyH hla (by decide +kernel) (k_wl rfl) (Nat.le_of_ble_eq_true rfl) (fun X h hEn hMe => ?_)
  show k_W X σ 0 0 0 [some (k_p 0 (a1)), some (k_i (a2)), some (k_p 18 (a3)), none] []
  unfold f_L_pass at hoc
  refine r_aload_n h dL_pass_0 rfl ?_
  refine r_iconst (v := 0) h dL_pass_1 (by decide) ?_
  refine r_aload_n h dL_pass_2 rfl ?_
  refine r_iload_n h dL_pass_3 rfl ?_
  rcases k_bc_ex hoc with ⟨v1, q2, hoc⟩ | ⟨e3, q2, hoc⟩
  · refine r_callV h hMe (rest := [k_i (0), k_p 18 (a3)]) (as := [k_i (a2)]) (oc := .inl (k_mI v1.1, v1.2)) (j_X7_pass la hla G _ (a1) (a2) _ q2) kl_L_99 dL_pass_4 rfl rfl rfl rfl rfl ⟨rfl, rfl, Nat.le_of_ble_eq_true rfl, Nat.le_of_ble_eq_true rfl, Nat.le_of_ble_eq_true rfl, Nat.le_of_ble_eq_true rfl, Nat.le_of_ble_eq_true rfl⟩ (fun E q => by cases q) (fun r s q => ?_)
    cases q
    show k_W X _ _ _ _ _ ([k_i (v1.1), k_i (0), k_p 18 (a3)])
    refine r_i2l h dL_pass_7 ?_
    refine r_lastore (y := 0) (t := 0) (x := (v1.1 : Int32).toInt64) h dL_pass_8 rfl rfl rfl (by decide) (by decide) (by decide) ?_
    refine r_goto (tgt := 18) h dL_pass_9 (by decide) ?_
    refine r_iconst (v := 0) h dL_pass_18 (by decide) ?_
    cases hoc
    exact r_ireturn h hEn dL_pass_19 rfl rfl rfl (by decide) (by decide)
  · skip
    by_cases c4 : e3 = "java/lang/IllegalArgumentException"
    · replace hoc := (if_pos c4).symm.trans hoc
      subst c4
      refine r_callV h hMe (rest := [k_i (0), k_p 18 (a3)]) (as := [k_i (a2)]) (oc := .inr "java/lang/IllegalArgumentException") (j_X7_pass la hla G _ (a1) (a2) _ q2) kl_L_99 dL_pass_4 rfl rfl rfl rfl rfl ⟨rfl, rfl, Nat.le_of_ble_eq_true rfl, Nat.le_of_ble_eq_true rfl, Nat.le_of_ble_eq_true rfl, Nat.le_of_ble_eq_true rfl, Nat.le_of_ble_eq_true rfl⟩ (fun E q => ?_) (fun r s q => by cases q)
      cases q
      refine k_catch h hEn [] [(0, 9, 15, 15)] (0, 9, 12, 13) rfl (fun z hz => by cases hz) (by decide) (by decide) (by decide) wd_227 (by decide) (fun t5 => ?_)
      refine r_astore_nR (L' := [some (k_p 0 (a1)), some (k_i (a2)), some (k_p 18 (a3)), some (k_r (t5))]) h dL_pass_12 (by decide) rfl ?_
      refine r_iconst (v := 1) h dL_pass_13 (by decide) ?_
      cases hoc
      exact r_ireturn h hEn dL_pass_14 rfl rfl rfl (by decide) (by decide)
    · replace hoc := (if_neg c4).symm.trans hoc
      by_cases c6 : e3 = "java/lang/IllegalStateException"
      · replace hoc := (if_pos c6).symm.trans hoc
        subst c6
        refine r_callV h hMe (rest := [k_i (0), k_p 18 (a3)]) (as := [k_i (a2)]) (oc := .inr "java/lang/IllegalStateException") (j_X7_pass la hla G _ (a1) (a2) _ q2) kl_L_99 dL_pass_4 rfl rfl rfl rfl rfl ⟨rfl, rfl, Nat.le_of_ble_eq_true rfl, Nat.le_of_ble_eq_true rfl, Nat.le_of_ble_eq_true rfl, Nat.le_of_ble_eq_true rfl, Nat.le_of_ble_eq_true rfl⟩ (fun E q => ?_) (fun r s q => by cases q)
        cases q
        refine k_catch h hEn [(0, 9, 12, 13)] [] (0, 9, 15, 15) rfl (by intro z hz; simp only [List.mem_cons, List.not_mem_nil, or_false] at hz; rcases hz with rfl; exact ⟨by decide, "java/lang/IllegalArgumentException", by decide, by decide, wd_227⟩) (by decide) (by decide) (by decide) wd_228 (by decide) (fun t7 => ?_)
        refine r_astore_nR (L' := [some (k_p 0 (a1)), some (k_i (a2)), some (k_p 18 (a3)), some (k_r (t7))]) h dL_pass_15 (by decide) rfl ?_
        refine r_iconst (v := 2) h dL_pass_16 (by decide) ?_
        cases hoc
        exact r_ireturn h hEn dL_pass_17 rfl rfl rfl (by decide) (by decide)
      · replace hoc := (if_neg c6).symm.trans hoc
        cases hoc
def f_L_likeness (σ : k_S) (a1 : Nat) (a2 : Int32) (a3 : Int32) (a4 : Nat) : Option (Int32 × k_S) :=
  (k_bc (f_X7_likeness σ (a1) (a2) (a3)) (fun v1 => some ((0, (k_uJ σ 18 (a4) (0) ((v1 : Int32).toInt64))))) (fun e3 => (if e3 = "java/lang/IndexOutOfBoundsException" then some ((1, σ)) else none)))
theorem j_L_likeness (la : Launch) (hla : la.flags = flags0) (G : k_G) (σ : k_S) (a1 : Nat) (a2 : Int32) (a3 : Int32) (a4 : Nat) (x : (Int32 × k_S)) (hoc : f_L_likeness σ a1 a2 a3 a4 = some x) : k_Ct la G yL_likeness (Cond.codeWith yL_likeness cL_likeness 5 (Option.some ClassFile.FieldType.int) [((0 : Nat), (10 : Nat), (13 : Nat), (21 : Nat))] :: k_Tb) { frames := 9, cells := 2, slots := 12, locals := 146 } [k_p 0 (a1), k_i (a2), k_i (a3), k_p 18 (a4)] σ (.inl (k_mI x.1, x.2)) 2 12 := by
  refine k_bodyH hla (by decide +kernel) (k_wl rfl) (Nat.le_of_ble_eq_true rfl) (fun X h hEn hMe => ?_)
  show k_W X σ 0 0 0 [some (k_p 0 (a1)), some (k_i (a2)), some (k_i (a3)), some (k_p 18 (a4)), none] []
  unfold f_L_likeness at hoc
  refine r_aload_n h dL_likeness_0 rfl ?_
  refine r_iconst (v := 0) h dL_likeness_1 (by decide) ?_
  refine r_aload_n h dL_likeness_2 rfl ?_
  refine r_iload_n h dL_likeness_3 rfl ?_
  refine r_iload_n h dL_likeness_4 rfl ?_
  rcases k_bc_ex hoc with ⟨v1, q2, hoc⟩ | ⟨e3, q2, hoc⟩
  · refine r_callV h hMe (rest := [k_i (0), k_p 18 (a4)]) (as := [k_i (a2), k_i (a3)]) (oc := .inl (k_mI v1, σ)) (j_X7_likeness la hla G _ (a1) (a2) (a3) _ q2) kl_L_102 dL_likeness_5 rfl rfl rfl rfl rfl ⟨rfl, rfl, Nat.le_of_ble_eq_true rfl, Nat.le_of_ble_eq_true rfl, Nat.le_of_ble_eq_true rfl, Nat.le_of_ble_eq_true rfl, Nat.le_of_ble_eq_true rfl⟩ (fun E q => by cases q) (fun r s q => ?_)
    cases q
    show k_W X _ _ _ _ _ ([k_i (v1), k_i (0), k_p 18 (a4)])
    refine r_i2l h dL_likeness_8 ?_
    refine r_lastore (y := 0) (t := 0) (x := (v1 : Int32).toInt64) h dL_likeness_9 rfl rfl rfl (by decide) (by decide) (by decide) ?_
    refine r_goto (tgt := 17) h dL_likeness_10 (by decide) ?_
    refine r_iconst (v := 0) h dL_likeness_17 (by decide) ?_
    cases hoc
    exact r_ireturn h hEn dL_likeness_18 rfl rfl rfl (by decide) (by decide)
  · skip
    by_cases c4 : e3 = "java/lang/IndexOutOfBoundsException"
    · replace hoc := (if_pos c4).symm.trans hoc
      subst c4
      refine r_callV h hMe (rest := [k_i (0), k_p 18 (a4)]) (as := [k_i (a2), k_i (a3)]) (oc := .inr "java/lang/IndexOutOfBoundsException") (j_X7_likeness la hla G _ (a1) (a2) (a3) _ q2) kl_L_102 dL_likeness_5 rfl rfl rfl rfl rfl ⟨rfl, rfl, Nat.le_of_ble_eq_true rfl, Nat.le_of_ble_eq_true rfl, Nat.le_of_ble_eq_true rfl, Nat.le_of_ble_eq_true rfl, Nat.le_of_ble_eq_true rfl⟩ (fun E q => ?_) (fun r s q => by cases q)
      cases q
      refine k_catch h hEn [] [] (0, 10, 13, 21) rfl (fun z hz => by cases hz) (by decide) (by decide) (by decide) wd_422 (by decide) (fun t5 => ?_)
      refine r_astoreR (L' := [some (k_p 0 (a1)), some (k_i (a2)), some (k_i (a3)), some (k_p 18 (a4)), some (k_r (t5))]) h dL_likeness_13 (by decide) rfl ?_
      refine r_iconst (v := 1) h dL_likeness_15 (by decide) ?_
      cases hoc
      exact r_ireturn h hEn dL_likeness_16 rfl rfl rfl (by decide) (by decide)
    · replace hoc := (if_neg c4).symm.trans hoc
      cases hoc
def f_L_count (σ : k_S) (a1 : Nat) (a2 : Int32) (a3 : Nat) : Option (Int32 × k_S) :=
  (k_bc (f_X7_count σ (a1) (a2)) (fun v1 => some ((0, (k_uJ σ 18 (a3) (0) ((v1 : Int32).toInt64))))) (fun e3 => (if e3 = "java/lang/IllegalArgumentException" then some ((1, σ)) else none)))
theorem j_L_count (la : Launch) (hla : la.flags = flags0) (G : k_G) (σ : k_S) (a1 : Nat) (a2 : Int32) (a3 : Nat) (x : (Int32 × k_S)) (hoc : f_L_count σ a1 a2 a3 = some x) : k_Ct la G yL_count (Cond.codeWith yL_count cL_count 4 (Option.some ClassFile.FieldType.int) [((0 : Nat), (9 : Nat), (12 : Nat), (13 : Nat))] :: k_Tb) { frames := 7, cells := 1, slots := 6, locals := 115 } [k_p 0 (a1), k_i (a2), k_p 18 (a3)] σ (.inl (k_mI x.1, x.2)) 1 6 := by
  refine k_bodyH hla (by decide +kernel) (k_wl rfl) (Nat.le_of_ble_eq_true rfl) (fun X h hEn hMe => ?_)
  show k_W X σ 0 0 0 [some (k_p 0 (a1)), some (k_i (a2)), some (k_p 18 (a3)), none] []
  unfold f_L_count at hoc
  refine r_aload_n h dL_count_0 rfl ?_
  refine r_iconst (v := 0) h dL_count_1 (by decide) ?_
  refine r_aload_n h dL_count_2 rfl ?_
  refine r_iload_n h dL_count_3 rfl ?_
  rcases k_bc_ex hoc with ⟨v1, q2, hoc⟩ | ⟨e3, q2, hoc⟩
  · refine r_callV h hMe (rest := [k_i (0), k_p 18 (a3)]) (as := [k_i (a2)]) (oc := .inl (k_mI v1, σ)) (j_X7_count la hla G _ (a1) (a2) _ q2) kl_L_105 dL_count_4 rfl rfl rfl rfl rfl ⟨rfl, rfl, Nat.le_of_ble_eq_true rfl, Nat.le_of_ble_eq_true rfl, Nat.le_of_ble_eq_true rfl, Nat.le_of_ble_eq_true rfl, Nat.le_of_ble_eq_true rfl⟩ (fun E q => by cases q) (fun r s q => ?_)
    cases q
    show k_W X _ _ _ _ _ ([k_i (v1), k_i (0), k_p 18 (a3)])
    refine r_i2l h dL_count_7 ?_
    refine r_lastore (y := 0) (t := 0) (x := (v1 : Int32).toInt64) h dL_count_8 rfl rfl rfl (by decide) (by decide) (by decide) ?_
    refine r_goto (tgt := 15) h dL_count_9 (by decide) ?_
    refine r_iconst (v := 0) h dL_count_15 (by decide) ?_
    cases hoc
    exact r_ireturn h hEn dL_count_16 rfl rfl rfl (by decide) (by decide)
  · skip
    by_cases c4 : e3 = "java/lang/IllegalArgumentException"
    · replace hoc := (if_pos c4).symm.trans hoc
      subst c4
      refine r_callV h hMe (rest := [k_i (0), k_p 18 (a3)]) (as := [k_i (a2)]) (oc := .inr "java/lang/IllegalArgumentException") (j_X7_count la hla G _ (a1) (a2) _ q2) kl_L_105 dL_count_4 rfl rfl rfl rfl rfl ⟨rfl, rfl, Nat.le_of_ble_eq_true rfl, Nat.le_of_ble_eq_true rfl, Nat.le_of_ble_eq_true rfl, Nat.le_of_ble_eq_true rfl, Nat.le_of_ble_eq_true rfl⟩ (fun E q => ?_) (fun r s q => by cases q)
      cases q
      refine k_catch h hEn [] [] (0, 9, 12, 13) rfl (fun z hz => by cases hz) (by decide) (by decide) (by decide) wd_227 (by decide) (fun t5 => ?_)
      refine r_astore_nR (L' := [some (k_p 0 (a1)), some (k_i (a2)), some (k_p 18 (a3)), some (k_r (t5))]) h dL_count_12 (by decide) rfl ?_
      refine r_iconst (v := 1) h dL_count_13 (by decide) ?_
      cases hoc
      exact r_ireturn h hEn dL_count_14 rfl rfl rfl (by decide) (by decide)
    · replace hoc := (if_neg c4).symm.trans hoc
      cases hoc
def f_L_meanEvidence (σ : k_S) (a1 : Nat) (a2 : Nat) : Option (Int32 × k_S) :=
  (k_bc (f_X7_meanEvidence σ (a1)) (fun v1 => some ((0, (k_uD σ 19 (a2) (0) (v1))))) (fun e3 => (if e3 = "java/lang/ArithmeticException" then some ((1, σ)) else none)))
theorem j_L_meanEvidence (la : Launch) (hla : la.flags = flags0) (G : k_G) (σ : k_S) (a1 : Nat) (a2 : Nat) (x : (Int32 × k_S)) (hoc : f_L_meanEvidence σ a1 a2 = some x) : k_Ct la G yL_meanEvidence (Cond.codeWith yL_meanEvidence cL_meanEvidence 3 (Option.some ClassFile.FieldType.int) [((0 : Nat), (7 : Nat), (10 : Nat), (113 : Nat))] :: k_Tb) { frames := 7, cells := 1, slots := 6, locals := 105 } [k_p 0 (a1), k_p 19 (a2)] σ (.inl (k_mI x.1, x.2)) 1 6 := by
  refine k_bodyH hla (by decide +kernel) (k_wl rfl) (Nat.le_of_ble_eq_true rfl) (fun X h hEn hMe => ?_)
  show k_W X σ 0 0 0 [some (k_p 0 (a1)), some (k_p 19 (a2)), none] []
  unfold f_L_meanEvidence at hoc
  refine r_aload_n h dL_meanEvidence_0 rfl ?_
  refine r_iconst (v := 0) h dL_meanEvidence_1 (by decide) ?_
  refine r_aload_n h dL_meanEvidence_2 rfl ?_
  rcases k_bc_ex hoc with ⟨v1, q2, hoc⟩ | ⟨e3, q2, hoc⟩
  · refine r_callV h hMe (rest := [k_i (0), k_p 19 (a2)]) (as := []) (oc := .inl (k_mD v1, σ)) (j_X7_meanEvidence la hla G _ (a1) _ q2) kl_L_109 dL_meanEvidence_3 rfl rfl rfl rfl rfl ⟨rfl, rfl, Nat.le_of_ble_eq_true rfl, Nat.le_of_ble_eq_true rfl, Nat.le_of_ble_eq_true rfl, Nat.le_of_ble_eq_true rfl, Nat.le_of_ble_eq_true rfl⟩ (fun E q => by cases q) (fun r s q => ?_)
    cases q
    refine r_dastore (y := 0) (t := 0) (x := v1) h dL_meanEvidence_6 rfl rfl rfl (by decide) (by decide) (by decide) ?_
    refine r_goto (tgt := 13) h dL_meanEvidence_7 (by decide) ?_
    refine r_iconst (v := 0) h dL_meanEvidence_13 (by decide) ?_
    cases hoc
    exact r_ireturn h hEn dL_meanEvidence_14 rfl rfl rfl (by decide) (by decide)
  · skip
    by_cases c4 : e3 = "java/lang/ArithmeticException"
    · replace hoc := (if_pos c4).symm.trans hoc
      subst c4
      refine r_callV h hMe (rest := [k_i (0), k_p 19 (a2)]) (as := []) (oc := .inr "java/lang/ArithmeticException") (j_X7_meanEvidence la hla G _ (a1) _ q2) kl_L_109 dL_meanEvidence_3 rfl rfl rfl rfl rfl ⟨rfl, rfl, Nat.le_of_ble_eq_true rfl, Nat.le_of_ble_eq_true rfl, Nat.le_of_ble_eq_true rfl, Nat.le_of_ble_eq_true rfl, Nat.le_of_ble_eq_true rfl⟩ (fun E q => ?_) (fun r s q => by cases q)
      cases q
      refine k_catch h hEn [] [] (0, 7, 10, 113) rfl (fun z hz => by cases hz) (by decide) (by decide) (by decide) wd_905 (by decide) (fun t5 => ?_)
      refine r_astore_nR (L' := [some (k_p 0 (a1)), some (k_p 19 (a2)), some (k_r (t5))]) h dL_meanEvidence_10 (by decide) rfl ?_
      refine r_iconst (v := 1) h dL_meanEvidence_11 (by decide) ?_
      cases hoc
      exact r_ireturn h hEn dL_meanEvidence_12 rfl rfl rfl (by decide) (by decide)
    · replace hoc := (if_neg c4).symm.trans hoc
      cases hoc
def f_L_reversedShare (σ : k_S) (a1 : Nat) (a2 : Nat) : Option (Int32 × k_S) :=
  (k_bc (f_X7_reversedShare σ (a1)) (fun v1 => (if (FP.f2d v1) &&& 0x7fffffffffffffff ≤ 0x7ff0000000000000 then some ((0, (k_uD σ 19 (a2) (0) ((FP.f2d v1))))) else none)) (fun e4 => (if e4 = "java/lang/ArithmeticException" then some ((1, σ)) else none)))
theorem j_L_reversedShare (la : Launch) (hla : la.flags = flags0) (G : k_G) (σ : k_S) (a1 : Nat) (a2 : Nat) (x : (Int32 × k_S)) (hoc : f_L_reversedShare σ a1 a2 = some x) : k_Ct la G yL_reversedShare (Cond.codeWith yL_reversedShare cL_reversedShare 3 (Option.some ClassFile.FieldType.int) [((0 : Nat), (8 : Nat), (11 : Nat), (113 : Nat))] :: k_Tb) { frames := 7, cells := 1, slots := 6, locals := 115 } [k_p 0 (a1), k_p 19 (a2)] σ (.inl (k_mI x.1, x.2)) 1 6 := by
  refine k_bodyH hla (by decide +kernel) (k_wl rfl) (Nat.le_of_ble_eq_true rfl) (fun X h hEn hMe => ?_)
  show k_W X σ 0 0 0 [some (k_p 0 (a1)), some (k_p 19 (a2)), none] []
  unfold f_L_reversedShare at hoc
  refine r_aload_n h dL_reversedShare_0 rfl ?_
  refine r_iconst (v := 0) h dL_reversedShare_1 (by decide) ?_
  refine r_aload_n h dL_reversedShare_2 rfl ?_
  rcases k_bc_ex hoc with ⟨v1, q2, hoc⟩ | ⟨e4, q2, hoc⟩
  · refine r_callV h hMe (rest := [k_i (0), k_p 19 (a2)]) (as := []) (oc := .inl (k_mF v1, σ)) (j_X7_reversedShare la hla G _ (a1) _ q2) kl_L_115 dL_reversedShare_3 rfl rfl rfl rfl rfl ⟨rfl, rfl, Nat.le_of_ble_eq_true rfl, Nat.le_of_ble_eq_true rfl, Nat.le_of_ble_eq_true rfl, Nat.le_of_ble_eq_true rfl, Nat.le_of_ble_eq_true rfl⟩ (fun E q => by cases q) (fun r s q => ?_)
    cases q
    obtain ⟨c3, hoc⟩ := k_gd hoc
    refine r_f2d h dL_reversedShare_6 c3 ?_
    refine r_dastore (y := 0) (t := 0) (x := (FP.f2d v1)) h dL_reversedShare_7 rfl rfl rfl (by decide) (by decide) (by decide) ?_
    refine r_goto (tgt := 14) h dL_reversedShare_8 (by decide) ?_
    refine r_iconst (v := 0) h dL_reversedShare_14 (by decide) ?_
    cases hoc
    exact r_ireturn h hEn dL_reversedShare_15 rfl rfl rfl (by decide) (by decide)
  · skip
    by_cases c5 : e4 = "java/lang/ArithmeticException"
    · replace hoc := (if_pos c5).symm.trans hoc
      subst c5
      refine r_callV h hMe (rest := [k_i (0), k_p 19 (a2)]) (as := []) (oc := .inr "java/lang/ArithmeticException") (j_X7_reversedShare la hla G _ (a1) _ q2) kl_L_115 dL_reversedShare_3 rfl rfl rfl rfl rfl ⟨rfl, rfl, Nat.le_of_ble_eq_true rfl, Nat.le_of_ble_eq_true rfl, Nat.le_of_ble_eq_true rfl, Nat.le_of_ble_eq_true rfl, Nat.le_of_ble_eq_true rfl⟩ (fun E q => ?_) (fun r s q => by cases q)
      cases q
      refine k_catch h hEn [] [] (0, 8, 11, 113) rfl (fun z hz => by cases hz) (by decide) (by decide) (by decide) wd_905 (by decide) (fun t6 => ?_)
      refine r_astore_nR (L' := [some (k_p 0 (a1)), some (k_p 19 (a2)), some (k_r (t6))]) h dL_reversedShare_11 (by decide) rfl ?_
      refine r_iconst (v := 1) h dL_reversedShare_12 (by decide) ?_
      cases hoc
      exact r_ireturn h hEn dL_reversedShare_13 rfl rfl rfl (by decide) (by decide)
    · replace hoc := (if_neg c5).symm.trans hoc
      cases hoc
