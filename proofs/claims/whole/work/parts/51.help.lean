def f_L_addRule (σ : k_S) (a1 : Nat) (a2 : Int32) (a3 : Int32) (a4 : Int32) (a5 : Int32) (a6 : Int32) (a7 : Nat) : Option (Int32 × k_S) :=
  (k_bc (f_X7_addRule σ (a1) (a2) (a3) (a4) (a5) (a6)) (fun v1 => some ((0, (k_uJ v1.2 18 (a7) (0) ((v1.1 : Int32).toInt64))))) (fun e3 => (if e3 = "java/lang/IllegalArgumentException" then some ((1, σ)) else (if e3 = "java/lang/IllegalStateException" then some ((2, σ)) else none))))
theorem j_L_addRule (la : Launch) (hla : la.flags = flags0) (G : k_G) (σ : k_S) (a1 : Nat) (a2 : Int32) (a3 : Int32) (a4 : Int32) (a5 : Int32) (a6 : Int32) (a7 : Nat) (x : (Int32 × k_S)) (hoc : f_L_addRule σ a1 a2 a3 a4 a5 a6 a7 = some x) : k_Ct la G yL_addRule (Cond.codeWith yL_addRule cL_addRule 8 (Option.some ClassFile.FieldType.int) [((0 : Nat), (16 : Nat), (19 : Nat), (13 : Nat)), ((0 : Nat), (16 : Nat), (23 : Nat), (15 : Nat))] :: k_Tb) { frames := 8, cells := 7, slots := 336, locals := 256 } [k_p 0 (a1), k_i (a2), k_i (a3), k_i (a4), k_i (a5), k_i (a6), k_p 18 (a7)] σ (.inl (k_mI x.1, x.2)) 7 336 := by
  refine k_bodyH hla (by decide +kernel) (k_wl rfl) (Nat.le_of_ble_eq_true rfl) (fun X h hEn hMe => ?_)
  show k_W X σ 0 0 0 [some (k_p 0 (a1)), some (k_i (a2)), some (k_i (a3)), some (k_i (a4)), some (k_i (a5)), some (k_i (a6)), some (k_p 18 (a7)), none] []
  unfold f_L_addRule at hoc
  refine r_aload h dL_addRule_0 rfl ?_
  refine r_iconst (v := 0) h dL_addRule_2 (by decide) ?_
  refine r_aload_n h dL_addRule_3 rfl ?_
  refine r_iload_n h dL_addRule_4 rfl ?_
  refine r_iload_n h dL_addRule_5 rfl ?_
  refine r_iload_n h dL_addRule_6 rfl ?_
  refine r_iload h dL_addRule_7 rfl ?_
  refine r_iload h dL_addRule_9 rfl ?_
  rcases k_bc_ex hoc with ⟨v1, q2, hoc⟩ | ⟨e3, q2, hoc⟩
  · refine r_callV h hMe (rest := [k_i (0), k_p 18 (a7)]) (as := [k_i (a2), k_i (a3), k_i (a4), k_i (a5), k_i (a6)]) (oc := .inl (k_mI v1.1, v1.2)) (j_X7_addRule la hla G _ (a1) (a2) (a3) (a4) (a5) (a6) _ q2) kl_L_7 dL_addRule_11 rfl rfl rfl rfl rfl ⟨rfl, rfl, Nat.le_of_ble_eq_true rfl, Nat.le_of_ble_eq_true rfl, Nat.le_of_ble_eq_true rfl, Nat.le_of_ble_eq_true rfl, Nat.le_of_ble_eq_true rfl⟩ (fun E q => by cases q) (fun r s q => ?_)
    cases q
    show k_W X _ _ _ _ _ ([k_i (v1.1), k_i (0), k_p 18 (a7)])
    refine r_i2l h dL_addRule_14 ?_
    refine r_lastore (y := 0) (t := 0) (x := (v1.1 : Int32).toInt64) h dL_addRule_15 rfl rfl rfl (by decide) (by decide) (by decide) ?_
    refine r_goto (tgt := 27) h dL_addRule_16 (by decide) ?_
    refine r_iconst (v := 0) h dL_addRule_27 (by decide) ?_
    cases hoc
    exact r_ireturn h hEn dL_addRule_28 rfl rfl rfl (by decide) (by decide)
  · skip
    by_cases c4 : e3 = "java/lang/IllegalArgumentException"
    · replace hoc := (if_pos c4).symm.trans hoc
      subst c4
      refine r_callV h hMe (rest := [k_i (0), k_p 18 (a7)]) (as := [k_i (a2), k_i (a3), k_i (a4), k_i (a5), k_i (a6)]) (oc := .inr "java/lang/IllegalArgumentException") (j_X7_addRule la hla G _ (a1) (a2) (a3) (a4) (a5) (a6) _ q2) kl_L_7 dL_addRule_11 rfl rfl rfl rfl rfl ⟨rfl, rfl, Nat.le_of_ble_eq_true rfl, Nat.le_of_ble_eq_true rfl, Nat.le_of_ble_eq_true rfl, Nat.le_of_ble_eq_true rfl, Nat.le_of_ble_eq_true rfl⟩ (fun E q => ?_) (fun r s q => by cases q)
      cases q
      refine k_catch h hEn [] [(0, 16, 23, 15)] (0, 16, 19, 13) rfl (fun z hz => by cases hz) (by decide) (by decide) (by decide) wd_227 (by decide) (fun t5 => ?_)
      refine r_astoreR (L' := [some (k_p 0 (a1)), some (k_i (a2)), some (k_i (a3)), some (k_i (a4)), some (k_i (a5)), some (k_i (a6)), some (k_p 18 (a7)), some (k_r (t5))]) h dL_addRule_19 (by decide) rfl ?_
      refine r_iconst (v := 1) h dL_addRule_21 (by decide) ?_
      cases hoc
      exact r_ireturn h hEn dL_addRule_22 rfl rfl rfl (by decide) (by decide)
    · replace hoc := (if_neg c4).symm.trans hoc
      by_cases c6 : e3 = "java/lang/IllegalStateException"
      · replace hoc := (if_pos c6).symm.trans hoc
        subst c6
        refine r_callV h hMe (rest := [k_i (0), k_p 18 (a7)]) (as := [k_i (a2), k_i (a3), k_i (a4), k_i (a5), k_i (a6)]) (oc := .inr "java/lang/IllegalStateException") (j_X7_addRule la hla G _ (a1) (a2) (a3) (a4) (a5) (a6) _ q2) kl_L_7 dL_addRule_11 rfl rfl rfl rfl rfl ⟨rfl, rfl, Nat.le_of_ble_eq_true rfl, Nat.le_of_ble_eq_true rfl, Nat.le_of_ble_eq_true rfl, Nat.le_of_ble_eq_true rfl, Nat.le_of_ble_eq_true rfl⟩ (fun E q => ?_) (fun r s q => by cases q)
        cases q
        refine k_catch h hEn [(0, 16, 19, 13)] [] (0, 16, 23, 15) rfl (by intro z hz; simp only [List.mem_cons, List.not_mem_nil, or_false] at hz; rcases hz with rfl; exact ⟨by decide, "java/lang/IllegalArgumentException", by decide, by decide, wd_227⟩) (by decide) (by decide) (by decide) wd_228 (by decide) (fun t7 => ?_)
        refine r_astoreR (L' := [some (k_p 0 (a1)), some (k_i (a2)), some (k_i (a3)), some (k_i (a4)), some (k_i (a5)), some (k_i (a6)), some (k_p 18 (a7)), some (k_r (t7))]) h dL_addRule_23 (by decide) rfl ?_
        refine r_iconst (v := 2) h dL_addRule_25 (by decide) ?_
        cases hoc
        exact r_ireturn h hEn dL_addRule_26 rfl rfl rfl (by decide) (by decide)
      · replace hoc := (if_neg c6).symm.trans hoc
        cases hoc
def f_L_repeal (σ : k_S) (a1 : Nat) (a2 : Int32) (a3 : Int32) (a4 : Nat) : Option (Int32 × k_S) :=
  (k_bc (f_X7_repeal σ (a1) (a2) (a3)) (fun v1 => some ((0, (k_uJ v1.2 18 (a4) (0) ((v1.1 : Int32).toInt64))))) (fun e3 => (if e3 = "java/lang/IndexOutOfBoundsException" then some ((1, σ)) else (if e3 = "java/lang/IllegalArgumentException" then some ((2, σ)) else (if e3 = "java/lang/IllegalStateException" then some ((3, σ)) else none)))))
theorem j_L_repeal (la : Launch) (hla : la.flags = flags0) (G : k_G) (σ : k_S) (a1 : Nat) (a2 : Int32) (a3 : Int32) (a4 : Nat) (x : (Int32 × k_S)) (hoc : f_L_repeal σ a1 a2 a3 a4 = some x) : k_Ct la G yL_repeal (Cond.codeWith yL_repeal cL_repeal 5 (Option.some ClassFile.FieldType.int) [((0 : Nat), (10 : Nat), (13 : Nat), (21 : Nat)), ((0 : Nat), (10 : Nat), (17 : Nat), (13 : Nat)), ((0 : Nat), (10 : Nat), (21 : Nat), (15 : Nat))] :: k_Tb) { frames := 9, cells := 3, slots := 18, locals := 147 } [k_p 0 (a1), k_i (a2), k_i (a3), k_p 18 (a4)] σ (.inl (k_mI x.1, x.2)) 3 18 := by
  refine k_bodyH hla (by decide +kernel) (k_wl rfl) (Nat.le_of_ble_eq_true rfl) (fun X h hEn hMe => ?_)
  show k_W X σ 0 0 0 [some (k_p 0 (a1)), some (k_i (a2)), some (k_i (a3)), some (k_p 18 (a4)), none] []
  unfold f_L_repeal at hoc
  refine r_aload_n h dL_repeal_0 rfl ?_
  refine r_iconst (v := 0) h dL_repeal_1 (by decide) ?_
  refine r_aload_n h dL_repeal_2 rfl ?_
  refine r_iload_n h dL_repeal_3 rfl ?_
  refine r_iload_n h dL_repeal_4 rfl ?_
  rcases k_bc_ex hoc with ⟨v1, q2, hoc⟩ | ⟨e3, q2, hoc⟩
  · refine r_callV h hMe (rest := [k_i (0), k_p 18 (a4)]) (as := [k_i (a2), k_i (a3)]) (oc := .inl (k_mI v1.1, v1.2)) (j_X7_repeal la hla G _ (a1) (a2) (a3) _ q2) kl_L_17 dL_repeal_5 rfl rfl rfl rfl rfl ⟨rfl, rfl, Nat.le_of_ble_eq_true rfl, Nat.le_of_ble_eq_true rfl, Nat.le_of_ble_eq_true rfl, Nat.le_of_ble_eq_true rfl, Nat.le_of_ble_eq_true rfl⟩ (fun E q => by cases q) (fun r s q => ?_)
    cases q
    show k_W X _ _ _ _ _ ([k_i (v1.1), k_i (0), k_p 18 (a4)])
    refine r_i2l h dL_repeal_8 ?_
    refine r_lastore (y := 0) (t := 0) (x := (v1.1 : Int32).toInt64) h dL_repeal_9 rfl rfl rfl (by decide) (by decide) (by decide) ?_
    refine r_goto (tgt := 25) h dL_repeal_10 (by decide) ?_
    refine r_iconst (v := 0) h dL_repeal_25 (by decide) ?_
    cases hoc
    exact r_ireturn h hEn dL_repeal_26 rfl rfl rfl (by decide) (by decide)
  · skip
    by_cases c4 : e3 = "java/lang/IndexOutOfBoundsException"
    · replace hoc := (if_pos c4).symm.trans hoc
      subst c4
      refine r_callV h hMe (rest := [k_i (0), k_p 18 (a4)]) (as := [k_i (a2), k_i (a3)]) (oc := .inr "java/lang/IndexOutOfBoundsException") (j_X7_repeal la hla G _ (a1) (a2) (a3) _ q2) kl_L_17 dL_repeal_5 rfl rfl rfl rfl rfl ⟨rfl, rfl, Nat.le_of_ble_eq_true rfl, Nat.le_of_ble_eq_true rfl, Nat.le_of_ble_eq_true rfl, Nat.le_of_ble_eq_true rfl, Nat.le_of_ble_eq_true rfl⟩ (fun E q => ?_) (fun r s q => by cases q)
      cases q
      refine k_catch h hEn [] [(0, 10, 17, 13), (0, 10, 21, 15)] (0, 10, 13, 21) rfl (fun z hz => by cases hz) (by decide) (by decide) (by decide) wd_422 (by decide) (fun t5 => ?_)
      refine r_astoreR (L' := [some (k_p 0 (a1)), some (k_i (a2)), some (k_i (a3)), some (k_p 18 (a4)), some (k_r (t5))]) h dL_repeal_13 (by decide) rfl ?_
      refine r_iconst (v := 1) h dL_repeal_15 (by decide) ?_
      cases hoc
      exact r_ireturn h hEn dL_repeal_16 rfl rfl rfl (by decide) (by decide)
    · replace hoc := (if_neg c4).symm.trans hoc
      by_cases c6 : e3 = "java/lang/IllegalArgumentException"
      · replace hoc := (if_pos c6).symm.trans hoc
        subst c6
        refine r_callV h hMe (rest := [k_i (0), k_p 18 (a4)]) (as := [k_i (a2), k_i (a3)]) (oc := .inr "java/lang/IllegalArgumentException") (j_X7_repeal la hla G _ (a1) (a2) (a3) _ q2) kl_L_17 dL_repeal_5 rfl rfl rfl rfl rfl ⟨rfl, rfl, Nat.le_of_ble_eq_true rfl, Nat.le_of_ble_eq_true rfl, Nat.le_of_ble_eq_true rfl, Nat.le_of_ble_eq_true rfl, Nat.le_of_ble_eq_true rfl⟩ (fun E q => ?_) (fun r s q => by cases q)
        cases q
        refine k_catch h hEn [(0, 10, 13, 21)] [(0, 10, 21, 15)] (0, 10, 17, 13) rfl (by intro z hz; simp only [List.mem_cons, List.not_mem_nil, or_false] at hz; rcases hz with rfl; exact ⟨by decide, "java/lang/IndexOutOfBoundsException", by decide, by decide, wd_422⟩) (by decide) (by decide) (by decide) wd_227 (by decide) (fun t7 => ?_)
        refine r_astoreR (L' := [some (k_p 0 (a1)), some (k_i (a2)), some (k_i (a3)), some (k_p 18 (a4)), some (k_r (t7))]) h dL_repeal_17 (by decide) rfl ?_
        refine r_iconst (v := 2) h dL_repeal_19 (by decide) ?_
        cases hoc
        exact r_ireturn h hEn dL_repeal_20 rfl rfl rfl (by decide) (by decide)
      · replace hoc := (if_neg c6).symm.trans hoc
        by_cases c8 : e3 = "java/lang/IllegalStateException"
        · replace hoc := (if_pos c8).symm.trans hoc
          subst c8
          refine r_callV h hMe (rest := [k_i (0), k_p 18 (a4)]) (as := [k_i (a2), k_i (a3)]) (oc := .inr "java/lang/IllegalStateException") (j_X7_repeal la hla G _ (a1) (a2) (a3) _ q2) kl_L_17 dL_repeal_5 rfl rfl rfl rfl rfl ⟨rfl, rfl, Nat.le_of_ble_eq_true rfl, Nat.le_of_ble_eq_true rfl, Nat.le_of_ble_eq_true rfl, Nat.le_of_ble_eq_true rfl, Nat.le_of_ble_eq_true rfl⟩ (fun E q => ?_) (fun r s q => by cases q)
          cases q
          refine k_catch h hEn [(0, 10, 13, 21), (0, 10, 17, 13)] [] (0, 10, 21, 15) rfl (by intro z hz; simp only [List.mem_cons, List.not_mem_nil, or_false] at hz; rcases hz with rfl | rfl; exact ⟨by decide, "java/lang/IndexOutOfBoundsException", by decide, by decide, wd_422⟩; exact ⟨by decide, "java/lang/IllegalArgumentException", by decide, by decide, wd_227⟩) (by decide) (by decide) (by decide) wd_228 (by decide) (fun t9 => ?_)
          refine r_astoreR (L' := [some (k_p 0 (a1)), some (k_i (a2)), some (k_i (a3)), some (k_p 18 (a4)), some (k_r (t9))]) h dL_repeal_21 (by decide) rfl ?_
          refine r_iconst (v := 3) h dL_repeal_23 (by decide) ?_
          cases hoc
          exact r_ireturn h hEn dL_repeal_24 rfl rfl rfl (by decide) (by decide)
        · replace hoc := (if_neg c8).symm.trans hoc
          cases hoc
def f_L_isInForce (σ : k_S) (a1 : Nat) (a2 : Int32) (a3 : Int32) (a4 : Nat) : Option (Int32 × k_S) :=
  (k_bc (f_X7_isInForce σ (a1) (a2) (a3)) (fun v1 => (if v1 = 0 then some ((0, (k_uJ σ 18 (a4) (0) (0)))) else some ((0, (k_uJ σ 18 (a4) (0) (1)))))) (fun e4 => (if e4 = "java/lang/IndexOutOfBoundsException" then some ((1, σ)) else (if e4 = "java/lang/IllegalArgumentException" then some ((2, σ)) else none))))
theorem j_L_isInForce (la : Launch) (hla : la.flags = flags0) (G : k_G) (σ : k_S) (a1 : Nat) (a2 : Int32) (a3 : Int32) (a4 : Nat) (x : (Int32 × k_S)) (hoc : f_L_isInForce σ a1 a2 a3 a4 = some x) : k_Ct la G yL_isInForce (Cond.codeWith yL_isInForce cL_isInForce 5 (Option.some ClassFile.FieldType.int) [((0 : Nat), (17 : Nat), (20 : Nat), (21 : Nat)), ((0 : Nat), (17 : Nat), (24 : Nat), (13 : Nat))] :: k_Tb) { frames := 9, cells := 2, slots := 12, locals := 147 } [k_p 0 (a1), k_i (a2), k_i (a3), k_p 18 (a4)] σ (.inl (k_mI x.1, x.2)) 2 12 := by
  refine k_bodyH hla (by decide +kernel) (k_wl rfl) (Nat.le_of_ble_eq_true rfl) (fun X h hEn hMe => ?_)
  show k_W X σ 0 0 0 [some (k_p 0 (a1)), some (k_i (a2)), some (k_i (a3)), some (k_p 18 (a4)), none] []
  unfold f_L_isInForce at hoc
  refine r_aload_n h dL_isInForce_0 rfl ?_
  refine r_iconst (v := 0) h dL_isInForce_1 (by decide) ?_
  refine r_aload_n h dL_isInForce_2 rfl ?_
  refine r_iload_n h dL_isInForce_3 rfl ?_
  refine r_iload_n h dL_isInForce_4 rfl ?_
  rcases k_bc_ex hoc with ⟨v1, q2, hoc⟩ | ⟨e4, q2, hoc⟩
  · refine r_callV h hMe (rest := [k_i (0), k_p 18 (a4)]) (as := [k_i (a2), k_i (a3)]) (oc := .inl (k_mI v1, σ)) (j_X7_isInForce la hla G _ (a1) (a2) (a3) _ q2) kl_L_23 dL_isInForce_5 rfl rfl rfl rfl rfl ⟨rfl, rfl, Nat.le_of_ble_eq_true rfl, Nat.le_of_ble_eq_true rfl, Nat.le_of_ble_eq_true rfl, Nat.le_of_ble_eq_true rfl, Nat.le_of_ble_eq_true rfl⟩ (fun E q => by cases q) (fun r s q => ?_)
    cases q
    show k_W X _ _ _ _ _ ([k_i (v1), k_i (0), k_p 18 (a4)])
    refine r_if_eq (tgt := 15) h dL_isInForce_8 (by decide) (fun c3 => ?_) (fun c3 => ?_)
    · replace hoc := (if_pos c3).symm.trans hoc
      refine r_lconst (v := 0) h dL_isInForce_15 (by decide) ?_
      refine r_lastore (y := 0) (t := 0) (x := 0) h dL_isInForce_16 rfl rfl rfl (by decide) (by decide) (by decide) ?_
      refine r_goto (tgt := 28) h dL_isInForce_17 (by decide) ?_
      refine r_iconst (v := 0) h dL_isInForce_28 (by decide) ?_
      cases hoc
      exact r_ireturn h hEn dL_isInForce_29 rfl rfl rfl (by decide) (by decide)
    · replace hoc := (if_neg c3).symm.trans hoc
      refine r_lconst (v := 1) h dL_isInForce_11 (by decide) ?_
      refine r_goto (tgt := 16) h dL_isInForce_12 (by decide) ?_
      refine r_lastore (y := 0) (t := 0) (x := 1) h dL_isInForce_16 rfl rfl rfl (by decide) (by decide) (by decide) ?_
      refine r_goto (tgt := 28) h dL_isInForce_17 (by decide) ?_
      refine r_iconst (v := 0) h dL_isInForce_28 (by decide) ?_
      cases hoc
      exact r_ireturn h hEn dL_isInForce_29 rfl rfl rfl (by decide) (by decide)
  · skip
    by_cases c5 : e4 = "java/lang/IndexOutOfBoundsException"
    · replace hoc := (if_pos c5).symm.trans hoc
      subst c5
      refine r_callV h hMe (rest := [k_i (0), k_p 18 (a4)]) (as := [k_i (a2), k_i (a3)]) (oc := .inr "java/lang/IndexOutOfBoundsException") (j_X7_isInForce la hla G _ (a1) (a2) (a3) _ q2) kl_L_23 dL_isInForce_5 rfl rfl rfl rfl rfl ⟨rfl, rfl, Nat.le_of_ble_eq_true rfl, Nat.le_of_ble_eq_true rfl, Nat.le_of_ble_eq_true rfl, Nat.le_of_ble_eq_true rfl, Nat.le_of_ble_eq_true rfl⟩ (fun E q => ?_) (fun r s q => by cases q)
      cases q
      refine k_catch h hEn [] [(0, 17, 24, 13)] (0, 17, 20, 21) rfl (fun z hz => by cases hz) (by decide) (by decide) (by decide) wd_422 (by decide) (fun t6 => ?_)
      refine r_astoreR (L' := [some (k_p 0 (a1)), some (k_i (a2)), some (k_i (a3)), some (k_p 18 (a4)), some (k_r (t6))]) h dL_isInForce_20 (by decide) rfl ?_
      refine r_iconst (v := 1) h dL_isInForce_22 (by decide) ?_
      cases hoc
      exact r_ireturn h hEn dL_isInForce_23 rfl rfl rfl (by decide) (by decide)
    · replace hoc := (if_neg c5).symm.trans hoc
      by_cases c7 : e4 = "java/lang/IllegalArgumentException"
      · replace hoc := (if_pos c7).symm.trans hoc
        subst c7
        refine r_callV h hMe (rest := [k_i (0), k_p 18 (a4)]) (as := [k_i (a2), k_i (a3)]) (oc := .inr "java/lang/IllegalArgumentException") (j_X7_isInForce la hla G _ (a1) (a2) (a3) _ q2) kl_L_23 dL_isInForce_5 rfl rfl rfl rfl rfl ⟨rfl, rfl, Nat.le_of_ble_eq_true rfl, Nat.le_of_ble_eq_true rfl, Nat.le_of_ble_eq_true rfl, Nat.le_of_ble_eq_true rfl, Nat.le_of_ble_eq_true rfl⟩ (fun E q => ?_) (fun r s q => by cases q)
        cases q
        refine k_catch h hEn [(0, 17, 20, 21)] [] (0, 17, 24, 13) rfl (by intro z hz; simp only [List.mem_cons, List.not_mem_nil, or_false] at hz; rcases hz with rfl; exact ⟨by decide, "java/lang/IndexOutOfBoundsException", by decide, by decide, wd_422⟩) (by decide) (by decide) (by decide) wd_227 (by decide) (fun t8 => ?_)
        refine r_astoreR (L' := [some (k_p 0 (a1)), some (k_i (a2)), some (k_i (a3)), some (k_p 18 (a4)), some (k_r (t8))]) h dL_isInForce_24 (by decide) rfl ?_
        refine r_iconst (v := 2) h dL_isInForce_26 (by decide) ?_
        cases hoc
        exact r_ireturn h hEn dL_isInForce_27 rfl rfl rfl (by decide) (by decide)
      · replace hoc := (if_neg c7).symm.trans hoc
        cases hoc
def f_L_applying (σ : k_S) (a1 : Nat) (a2 : Int32) (a3 : Nat) : Option (Int32 × k_S) :=
  (k_bc (f_X7_applying σ (a1) (a2)) (fun v1 => some ((0, (k_uJ σ 18 (a3) (0) ((v1 : Int32).toInt64))))) (fun e3 => (if e3 = "java/lang/IndexOutOfBoundsException" then some ((1, σ)) else (if e3 = "java/util/NoSuchElementException" then some ((2, σ)) else none))))
theorem j_L_applying (la : Launch) (hla : la.flags = flags0) (G : k_G) (σ : k_S) (a1 : Nat) (a2 : Int32) (a3 : Nat) (x : (Int32 × k_S)) (hoc : f_L_applying σ a1 a2 a3 = some x) : k_Ct la G yL_applying (Cond.codeWith yL_applying cL_applying 4 (Option.some ClassFile.FieldType.int) [((0 : Nat), (9 : Nat), (12 : Nat), (21 : Nat)), ((0 : Nat), (9 : Nat), (15 : Nat), (31 : Nat))] :: k_Tb) { frames := 9, cells := 2, slots := 12, locals := 146 } [k_p 0 (a1), k_i (a2), k_p 18 (a3)] σ (.inl (k_mI x.1, x.2)) 2 12 := by
  refine k_bodyH hla (by decide +kernel) (k_wl rfl) (Nat.le_of_ble_eq_true rfl) (fun X h hEn hMe => ?_)
  show k_W X σ 0 0 0 [some (k_p 0 (a1)), some (k_i (a2)), some (k_p 18 (a3)), none] []
  unfold f_L_applying at hoc
  refine r_aload_n h dL_applying_0 rfl ?_
  refine r_iconst (v := 0) h dL_applying_1 (by decide) ?_
  refine r_aload_n h dL_applying_2 rfl ?_
  refine r_iload_n h dL_applying_3 rfl ?_
  rcases k_bc_ex hoc with ⟨v1, q2, hoc⟩ | ⟨e3, q2, hoc⟩
  · refine r_callV h hMe (rest := [k_i (0), k_p 18 (a3)]) (as := [k_i (a2)]) (oc := .inl (k_mI v1, σ)) (j_X7_applying la hla G _ (a1) (a2) _ q2) kl_L_27 dL_applying_4 rfl rfl rfl rfl rfl ⟨rfl, rfl, Nat.le_of_ble_eq_true rfl, Nat.le_of_ble_eq_true rfl, Nat.le_of_ble_eq_true rfl, Nat.le_of_ble_eq_true rfl, Nat.le_of_ble_eq_true rfl⟩ (fun E q => by cases q) (fun r s q => ?_)
    cases q
    show k_W X _ _ _ _ _ ([k_i (v1), k_i (0), k_p 18 (a3)])
    refine r_i2l h dL_applying_7 ?_
    refine r_lastore (y := 0) (t := 0) (x := (v1 : Int32).toInt64) h dL_applying_8 rfl rfl rfl (by decide) (by decide) (by decide) ?_
    refine r_goto (tgt := 18) h dL_applying_9 (by decide) ?_
    refine r_iconst (v := 0) h dL_applying_18 (by decide) ?_
    cases hoc
    exact r_ireturn h hEn dL_applying_19 rfl rfl rfl (by decide) (by decide)
  · skip
    by_cases c4 : e3 = "java/lang/IndexOutOfBoundsException"
    · replace hoc := (if_pos c4).symm.trans hoc
      subst c4
      refine r_callV h hMe (rest := [k_i (0), k_p 18 (a3)]) (as := [k_i (a2)]) (oc := .inr "java/lang/IndexOutOfBoundsException") (j_X7_applying la hla G _ (a1) (a2) _ q2) kl_L_27 dL_applying_4 rfl rfl rfl rfl rfl ⟨rfl, rfl, Nat.le_of_ble_eq_true rfl, Nat.le_of_ble_eq_true rfl, Nat.le_of_ble_eq_true rfl, Nat.le_of_ble_eq_true rfl, Nat.le_of_ble_eq_true rfl⟩ (fun E q => ?_) (fun r s q => by cases q)
      cases q
      refine k_catch h hEn [] [(0, 9, 15, 31)] (0, 9, 12, 21) rfl (fun z hz => by cases hz) (by decide) (by decide) (by decide) wd_422 (by decide) (fun t5 => ?_)
      refine r_astore_nR (L' := [some (k_p 0 (a1)), some (k_i (a2)), some (k_p 18 (a3)), some (k_r (t5))]) h dL_applying_12 (by decide) rfl ?_
      refine r_iconst (v := 1) h dL_applying_13 (by decide) ?_
      cases hoc
      exact r_ireturn h hEn dL_applying_14 rfl rfl rfl (by decide) (by decide)
    · replace hoc := (if_neg c4).symm.trans hoc
      by_cases c6 : e3 = "java/util/NoSuchElementException"
      · replace hoc := (if_pos c6).symm.trans hoc
        subst c6
        refine r_callV h hMe (rest := [k_i (0), k_p 18 (a3)]) (as := [k_i (a2)]) (oc := .inr "java/util/NoSuchElementException") (j_X7_applying la hla G _ (a1) (a2) _ q2) kl_L_27 dL_applying_4 rfl rfl rfl rfl rfl ⟨rfl, rfl, Nat.le_of_ble_eq_true rfl, Nat.le_of_ble_eq_true rfl, Nat.le_of_ble_eq_true rfl, Nat.le_of_ble_eq_true rfl, Nat.le_of_ble_eq_true rfl⟩ (fun E q => ?_) (fun r s q => by cases q)
        cases q
        refine k_catch h hEn [(0, 9, 12, 21)] [] (0, 9, 15, 31) rfl (by intro z hz; simp only [List.mem_cons, List.not_mem_nil, or_false] at hz; rcases hz with rfl; exact ⟨by decide, "java/lang/IndexOutOfBoundsException", by decide, by decide, wd_422⟩) (by decide) (by decide) (by decide) wd_490 (by decide) (fun t7 => ?_)
        refine r_astore_nR (L' := [some (k_p 0 (a1)), some (k_i (a2)), some (k_p 18 (a3)), some (k_r (t7))]) h dL_applying_15 (by decide) rfl ?_
        refine r_iconst (v := 2) h dL_applying_16 (by decide) ?_
        cases hoc
        exact r_ireturn h hEn dL_applying_17 rfl rfl rfl (by decide) (by decide)
      · replace hoc := (if_neg c6).symm.trans hoc
        cases hoc
def f_L_conflicts (σ : k_S) (a1 : Nat) (a2 : Int32) (a3 : Nat) : Option (Int32 × k_S) :=
  (k_bc (f_X7_conflicts σ (a1) (a2)) (fun v1 => some ((0, (k_uJ σ 18 (a3) (0) ((v1 : Int32).toInt64))))) (fun e3 => (if e3 = "java/lang/IllegalArgumentException" then some ((1, σ)) else none)))
theorem j_L_conflicts (la : Launch) (hla : la.flags = flags0) (G : k_G) (σ : k_S) (a1 : Nat) (a2 : Int32) (a3 : Nat) (x : (Int32 × k_S)) (hoc : f_L_conflicts σ a1 a2 a3 = some x) : k_Ct la G yL_conflicts (Cond.codeWith yL_conflicts cL_conflicts 4 (Option.some ClassFile.FieldType.int) [((0 : Nat), (9 : Nat), (12 : Nat), (13 : Nat))] :: k_Tb) { frames := 8, cells := 1, slots := 6, locals := 128 } [k_p 0 (a1), k_i (a2), k_p 18 (a3)] σ (.inl (k_mI x.1, x.2)) 1 6 := by
  refine k_bodyH hla (by decide +kernel) (k_wl rfl) (Nat.le_of_ble_eq_true rfl) (fun X h hEn hMe => ?_)
  show k_W X σ 0 0 0 [some (k_p 0 (a1)), some (k_i (a2)), some (k_p 18 (a3)), none] []
  unfold f_L_conflicts at hoc
  refine r_aload_n h dL_conflicts_0 rfl ?_
  refine r_iconst (v := 0) h dL_conflicts_1 (by decide) ?_
  refine r_aload_n h dL_conflicts_2 rfl ?_
  refine r_iload_n h dL_conflicts_3 rfl ?_
  rcases k_bc_ex hoc with ⟨v1, q2, hoc⟩ | ⟨e3, q2, hoc⟩
  · refine r_callV h hMe (rest := [k_i (0), k_p 18 (a3)]) (as := [k_i (a2)]) (oc := .inl (k_mI v1, σ)) (j_X7_conflicts la hla G _ (a1) (a2) _ q2) kl_L_33 dL_conflicts_4 rfl rfl rfl rfl rfl ⟨rfl, rfl, Nat.le_of_ble_eq_true rfl, Nat.le_of_ble_eq_true rfl, Nat.le_of_ble_eq_true rfl, Nat.le_of_ble_eq_true rfl, Nat.le_of_ble_eq_true rfl⟩ (fun E q => by cases q) (fun r s q => ?_)
    cases q
    show k_W X _ _ _ _ _ ([k_i (v1), k_i (0), k_p 18 (a3)])
    refine r_i2l h dL_conflicts_7 ?_
    refine r_lastore (y := 0) (t := 0) (x := (v1 : Int32).toInt64) h dL_conflicts_8 rfl rfl rfl (by decide) (by decide) (by decide) ?_
    refine r_goto (tgt := 15) h dL_conflicts_9 (by decide) ?_
    refine r_iconst (v := 0) h dL_conflicts_15 (by decide) ?_
    cases hoc
    exact r_ireturn h hEn dL_conflicts_16 rfl rfl rfl (by decide) (by decide)
  · skip
    by_cases c4 : e3 = "java/lang/IllegalArgumentException"
    · replace hoc := (if_pos c4).symm.trans hoc
      subst c4
      refine r_callV h hMe (rest := [k_i (0), k_p 18 (a3)]) (as := [k_i (a2)]) (oc := .inr "java/lang/IllegalArgumentException") (j_X7_conflicts la hla G _ (a1) (a2) _ q2) kl_L_33 dL_conflicts_4 rfl rfl rfl rfl rfl ⟨rfl, rfl, Nat.le_of_ble_eq_true rfl, Nat.le_of_ble_eq_true rfl, Nat.le_of_ble_eq_true rfl, Nat.le_of_ble_eq_true rfl, Nat.le_of_ble_eq_true rfl⟩ (fun E q => ?_) (fun r s q => by cases q)
      cases q
      refine k_catch h hEn [] [] (0, 9, 12, 13) rfl (fun z hz => by cases hz) (by decide) (by decide) (by decide) wd_227 (by decide) (fun t5 => ?_)
      refine r_astore_nR (L' := [some (k_p 0 (a1)), some (k_i (a2)), some (k_p 18 (a3)), some (k_r (t5))]) h dL_conflicts_12 (by decide) rfl ?_
      refine r_iconst (v := 1) h dL_conflicts_13 (by decide) ?_
      cases hoc
      exact r_ireturn h hEn dL_conflicts_14 rfl rfl rfl (by decide) (by decide)
    · replace hoc := (if_neg c4).symm.trans hoc
      cases hoc
def f_L_addUser (σ : k_S) (a1 : Nat) (a2 : Int32) (a3 : Nat) : Option (Int32 × k_S) :=
  (k_bc (f_X7_addUser σ (a1) (a2)) (fun v1 => some ((0, (k_uJ v1.2 18 (a3) (0) ((v1.1 : Int32).toInt64))))) (fun e3 => (if e3 = "java/lang/IllegalArgumentException" then some ((1, σ)) else (if e3 = "java/lang/IllegalStateException" then some ((2, σ)) else none))))
theorem j_L_addUser (la : Launch) (hla : la.flags = flags0) (G : k_G) (σ : k_S) (a1 : Nat) (a2 : Int32) (a3 : Nat) (x : (Int32 × k_S)) (hoc : f_L_addUser σ a1 a2 a3 = some x) : k_Ct la G yL_addUser (Cond.codeWith yL_addUser cL_addUser 4 (Option.some ClassFile.FieldType.int) [((0 : Nat), (9 : Nat), (12 : Nat), (13 : Nat)), ((0 : Nat), (9 : Nat), (15 : Nat), (15 : Nat))] :: k_Tb) { frames := 8, cells := 4, slots := 313, locals := 252 } [k_p 0 (a1), k_i (a2), k_p 18 (a3)] σ (.inl (k_mI x.1, x.2)) 4 313 := by
  refine k_bodyH hla (by decide +kernel) (k_wl rfl) (Nat.le_of_ble_eq_true rfl) (fun X h hEn hMe => ?_)
  show k_W X σ 0 0 0 [some (k_p 0 (a1)), some (k_i (a2)), some (k_p 18 (a3)), none] []
  unfold f_L_addUser at hoc
  refine r_aload_n h dL_addUser_0 rfl ?_
  refine r_iconst (v := 0) h dL_addUser_1 (by decide) ?_
  refine r_aload_n h dL_addUser_2 rfl ?_
  refine r_iload_n h dL_addUser_3 rfl ?_
  rcases k_bc_ex hoc with ⟨v1, q2, hoc⟩ | ⟨e3, q2, hoc⟩
  · refine r_callV h hMe (rest := [k_i (0), k_p 18 (a3)]) (as := [k_i (a2)]) (oc := .inl (k_mI v1.1, v1.2)) (j_X7_addUser la hla G _ (a1) (a2) _ q2) kl_L_36 dL_addUser_4 rfl rfl rfl rfl rfl ⟨rfl, rfl, Nat.le_of_ble_eq_true rfl, Nat.le_of_ble_eq_true rfl, Nat.le_of_ble_eq_true rfl, Nat.le_of_ble_eq_true rfl, Nat.le_of_ble_eq_true rfl⟩ (fun E q => by cases q) (fun r s q => ?_)
    cases q
    show k_W X _ _ _ _ _ ([k_i (v1.1), k_i (0), k_p 18 (a3)])
    refine r_i2l h dL_addUser_7 ?_
    refine r_lastore (y := 0) (t := 0) (x := (v1.1 : Int32).toInt64) h dL_addUser_8 rfl rfl rfl (by decide) (by decide) (by decide) ?_
    refine r_goto (tgt := 18) h dL_addUser_9 (by decide) ?_
    refine r_iconst (v := 0) h dL_addUser_18 (by decide) ?_
    cases hoc
    exact r_ireturn h hEn dL_addUser_19 rfl rfl rfl (by decide) (by decide)
  · skip
    by_cases c4 : e3 = "java/lang/IllegalArgumentException"
    · replace hoc := (if_pos c4).symm.trans hoc
      subst c4
      refine r_callV h hMe (rest := [k_i (0), k_p 18 (a3)]) (as := [k_i (a2)]) (oc := .inr "java/lang/IllegalArgumentException") (j_X7_addUser la hla G _ (a1) (a2) _ q2) kl_L_36 dL_addUser_4 rfl rfl rfl rfl rfl ⟨rfl, rfl, Nat.le_of_ble_eq_true rfl, Nat.le_of_ble_eq_true rfl, Nat.le_of_ble_eq_true rfl, Nat.le_of_ble_eq_true rfl, Nat.le_of_ble_eq_true rfl⟩ (fun E q => ?_) (fun r s q => by cases q)
      cases q
      refine k_catch h hEn [] [(0, 9, 15, 15)] (0, 9, 12, 13) rfl (fun z hz => by cases hz) (by decide) (by decide) (by decide) wd_227 (by decide) (fun t5 => ?_)
      refine r_astore_nR (L' := [some (k_p 0 (a1)), some (k_i (a2)), some (k_p 18 (a3)), some (k_r (t5))]) h dL_addUser_12 (by decide) rfl ?_
      refine r_iconst (v := 1) h dL_addUser_13 (by decide) ?_
      cases hoc
      exact r_ireturn h hEn dL_addUser_14 rfl rfl rfl (by decide) (by decide)
    · replace hoc := (if_neg c4).symm.trans hoc
      by_cases c6 : e3 = "java/lang/IllegalStateException"
      · replace hoc := (if_pos c6).symm.trans hoc
        subst c6
        refine r_callV h hMe (rest := [k_i (0), k_p 18 (a3)]) (as := [k_i (a2)]) (oc := .inr "java/lang/IllegalStateException") (j_X7_addUser la hla G _ (a1) (a2) _ q2) kl_L_36 dL_addUser_4 rfl rfl rfl rfl rfl ⟨rfl, rfl, Nat.le_of_ble_eq_true rfl, Nat.le_of_ble_eq_true rfl, Nat.le_of_ble_eq_true rfl, Nat.le_of_ble_eq_true rfl, Nat.le_of_ble_eq_true rfl⟩ (fun E q => ?_) (fun r s q => by cases q)
        cases q
        refine k_catch h hEn [(0, 9, 12, 13)] [] (0, 9, 15, 15) rfl (by intro z hz; simp only [List.mem_cons, List.not_mem_nil, or_false] at hz; rcases hz with rfl; exact ⟨by decide, "java/lang/IllegalArgumentException", by decide, by decide, wd_227⟩) (by decide) (by decide) (by decide) wd_228 (by decide) (fun t7 => ?_)
        refine r_astore_nR (L' := [some (k_p 0 (a1)), some (k_i (a2)), some (k_p 18 (a3)), some (k_r (t7))]) h dL_addUser_15 (by decide) rfl ?_
        refine r_iconst (v := 2) h dL_addUser_16 (by decide) ?_
        cases hoc
        exact r_ireturn h hEn dL_addUser_17 rfl rfl rfl (by decide) (by decide)
      · replace hoc := (if_neg c6).symm.trans hoc
        cases hoc
def f_L_setWeight (σ : k_S) (a1 : Nat) (a2 : Int32) (a3 : Int32) (a4 : Nat) : Option (Int32 × k_S) :=
  (k_bc (f_X7_setWeight σ (a1) (a2) (a3)) (fun v1 => some ((0, (k_uJ v1.2 18 (a4) (0) ((v1.1 : Int32).toInt64))))) (fun e3 => (if e3 = "java/lang/IndexOutOfBoundsException" then some ((1, σ)) else (if e3 = "java/lang/IllegalArgumentException" then some ((2, σ)) else none))))
theorem j_L_setWeight (la : Launch) (hla : la.flags = flags0) (G : k_G) (σ : k_S) (a1 : Nat) (a2 : Int32) (a3 : Int32) (a4 : Nat) (x : (Int32 × k_S)) (hoc : f_L_setWeight σ a1 a2 a3 a4 = some x) : k_Ct la G yL_setWeight (Cond.codeWith yL_setWeight cL_setWeight 5 (Option.some ClassFile.FieldType.int) [((0 : Nat), (10 : Nat), (13 : Nat), (21 : Nat)), ((0 : Nat), (10 : Nat), (17 : Nat), (13 : Nat))] :: k_Tb) { frames := 9, cells := 2, slots := 12, locals := 148 } [k_p 0 (a1), k_i (a2), k_i (a3), k_p 18 (a4)] σ (.inl (k_mI x.1, x.2)) 2 12 := by
  refine k_bodyH hla (by decide +kernel) (k_wl rfl) (Nat.le_of_ble_eq_true rfl) (fun X h hEn hMe => ?_)
  show k_W X σ 0 0 0 [some (k_p 0 (a1)), some (k_i (a2)), some (k_i (a3)), some (k_p 18 (a4)), none] []
  unfold f_L_setWeight at hoc
  refine r_aload_n h dL_setWeight_0 rfl ?_
  refine r_iconst (v := 0) h dL_setWeight_1 (by decide) ?_
  refine r_aload_n h dL_setWeight_2 rfl ?_
  refine r_iload_n h dL_setWeight_3 rfl ?_
  refine r_iload_n h dL_setWeight_4 rfl ?_
  rcases k_bc_ex hoc with ⟨v1, q2, hoc⟩ | ⟨e3, q2, hoc⟩
  · refine r_callV h hMe (rest := [k_i (0), k_p 18 (a4)]) (as := [k_i (a2), k_i (a3)]) (oc := .inl (k_mI v1.1, v1.2)) (j_X7_setWeight la hla G _ (a1) (a2) (a3) _ q2) kl_L_39 dL_setWeight_5 rfl rfl rfl rfl rfl ⟨rfl, rfl, Nat.le_of_ble_eq_true rfl, Nat.le_of_ble_eq_true rfl, Nat.le_of_ble_eq_true rfl, Nat.le_of_ble_eq_true rfl, Nat.le_of_ble_eq_true rfl⟩ (fun E q => by cases q) (fun r s q => ?_)
    cases q
    show k_W X _ _ _ _ _ ([k_i (v1.1), k_i (0), k_p 18 (a4)])
    refine r_i2l h dL_setWeight_8 ?_
    refine r_lastore (y := 0) (t := 0) (x := (v1.1 : Int32).toInt64) h dL_setWeight_9 rfl rfl rfl (by decide) (by decide) (by decide) ?_
    refine r_goto (tgt := 21) h dL_setWeight_10 (by decide) ?_
    refine r_iconst (v := 0) h dL_setWeight_21 (by decide) ?_
    cases hoc
    exact r_ireturn h hEn dL_setWeight_22 rfl rfl rfl (by decide) (by decide)
  · skip
    by_cases c4 : e3 = "java/lang/IndexOutOfBoundsException"
    · replace hoc := (if_pos c4).symm.trans hoc
      subst c4
      refine r_callV h hMe (rest := [k_i (0), k_p 18 (a4)]) (as := [k_i (a2), k_i (a3)]) (oc := .inr "java/lang/IndexOutOfBoundsException") (j_X7_setWeight la hla G _ (a1) (a2) (a3) _ q2) kl_L_39 dL_setWeight_5 rfl rfl rfl rfl rfl ⟨rfl, rfl, Nat.le_of_ble_eq_true rfl, Nat.le_of_ble_eq_true rfl, Nat.le_of_ble_eq_true rfl, Nat.le_of_ble_eq_true rfl, Nat.le_of_ble_eq_true rfl⟩ (fun E q => ?_) (fun r s q => by cases q)
      cases q
      refine k_catch h hEn [] [(0, 10, 17, 13)] (0, 10, 13, 21) rfl (fun z hz => by cases hz) (by decide) (by decide) (by decide) wd_422 (by decide) (fun t5 => ?_)
      refine r_astoreR (L' := [some (k_p 0 (a1)), some (k_i (a2)), some (k_i (a3)), some (k_p 18 (a4)), some (k_r (t5))]) h dL_setWeight_13 (by decide) rfl ?_
      refine r_iconst (v := 1) h dL_setWeight_15 (by decide) ?_
      cases hoc
      exact r_ireturn h hEn dL_setWeight_16 rfl rfl rfl (by decide) (by decide)
    · replace hoc := (if_neg c4).symm.trans hoc
      by_cases c6 : e3 = "java/lang/IllegalArgumentException"
      · replace hoc := (if_pos c6).symm.trans hoc
        subst c6
        refine r_callV h hMe (rest := [k_i (0), k_p 18 (a4)]) (as := [k_i (a2), k_i (a3)]) (oc := .inr "java/lang/IllegalArgumentException") (j_X7_setWeight la hla G _ (a1) (a2) (a3) _ q2) kl_L_39 dL_setWeight_5 rfl rfl rfl rfl rfl ⟨rfl, rfl, Nat.le_of_ble_eq_true rfl, Nat.le_of_ble_eq_true rfl, Nat.le_of_ble_eq_true rfl, Nat.le_of_ble_eq_true rfl, Nat.le_of_ble_eq_true rfl⟩ (fun E q => ?_) (fun r s q => by cases q)
        cases q
        refine k_catch h hEn [(0, 10, 13, 21)] [] (0, 10, 17, 13) rfl (by intro z hz; simp only [List.mem_cons, List.not_mem_nil, or_false] at hz; rcases hz with rfl; exact ⟨by decide, "java/lang/IndexOutOfBoundsException", by decide, by decide, wd_422⟩) (by decide) (by decide) (by decide) wd_227 (by decide) (fun t7 => ?_)
        refine r_astoreR (L' := [some (k_p 0 (a1)), some (k_i (a2)), some (k_i (a3)), some (k_p 18 (a4)), some (k_r (t7))]) h dL_setWeight_17 (by decide) rfl ?_
        refine r_iconst (v := 2) h dL_setWeight_19 (by decide) ?_
        cases hoc
        exact r_ireturn h hEn dL_setWeight_20 rfl rfl rfl (by decide) (by decide)
      · replace hoc := (if_neg c6).symm.trans hoc
        cases hoc
def f_L_sanctions (σ : k_S) (a1 : Nat) (a2 : Int32) (a3 : Nat) : Option (Int32 × k_S) :=
  (k_bc (f_X7_sanctions σ (a1) (a2)) (fun v1 => some ((0, (k_uJ σ 18 (a3) (0) ((v1 : Int32).toInt64))))) (fun e3 => (if e3 = "java/lang/IndexOutOfBoundsException" then some ((1, σ)) else none)))
theorem j_L_sanctions (la : Launch) (hla : la.flags = flags0) (G : k_G) (σ : k_S) (a1 : Nat) (a2 : Int32) (a3 : Nat) (x : (Int32 × k_S)) (hoc : f_L_sanctions σ a1 a2 a3 = some x) : k_Ct la G yL_sanctions (Cond.codeWith yL_sanctions cL_sanctions 4 (Option.some ClassFile.FieldType.int) [((0 : Nat), (9 : Nat), (12 : Nat), (21 : Nat))] :: k_Tb) { frames := 9, cells := 1, slots := 6, locals := 145 } [k_p 0 (a1), k_i (a2), k_p 18 (a3)] σ (.inl (k_mI x.1, x.2)) 1 6 := by
  refine k_bodyH hla (by decide +kernel) (k_wl rfl) (Nat.le_of_ble_eq_true rfl) (fun X h hEn hMe => ?_)
  show k_W X σ 0 0 0 [some (k_p 0 (a1)), some (k_i (a2)), some (k_p 18 (a3)), none] []
  unfold f_L_sanctions at hoc
  refine r_aload_n h dL_sanctions_0 rfl ?_
  refine r_iconst (v := 0) h dL_sanctions_1 (by decide) ?_
  refine r_aload_n h dL_sanctions_2 rfl ?_
  refine r_iload_n h dL_sanctions_3 rfl ?_
  rcases k_bc_ex hoc with ⟨v1, q2, hoc⟩ | ⟨e3, q2, hoc⟩
  · refine r_callV h hMe (rest := [k_i (0), k_p 18 (a3)]) (as := [k_i (a2)]) (oc := .inl (k_mI v1, σ)) (j_X7_sanctions la hla G _ (a1) (a2) _ q2) kl_L_42 dL_sanctions_4 rfl rfl rfl rfl rfl ⟨rfl, rfl, Nat.le_of_ble_eq_true rfl, Nat.le_of_ble_eq_true rfl, Nat.le_of_ble_eq_true rfl, Nat.le_of_ble_eq_true rfl, Nat.le_of_ble_eq_true rfl⟩ (fun E q => by cases q) (fun r s q => ?_)
    cases q
    show k_W X _ _ _ _ _ ([k_i (v1), k_i (0), k_p 18 (a3)])
    refine r_i2l h dL_sanctions_7 ?_
    refine r_lastore (y := 0) (t := 0) (x := (v1 : Int32).toInt64) h dL_sanctions_8 rfl rfl rfl (by decide) (by decide) (by decide) ?_
    refine r_goto (tgt := 15) h dL_sanctions_9 (by decide) ?_
    refine r_iconst (v := 0) h dL_sanctions_15 (by decide) ?_
    cases hoc
    exact r_ireturn h hEn dL_sanctions_16 rfl rfl rfl (by decide) (by decide)
  · skip
    by_cases c4 : e3 = "java/lang/IndexOutOfBoundsException"
    · replace hoc := (if_pos c4).symm.trans hoc
      subst c4
      refine r_callV h hMe (rest := [k_i (0), k_p 18 (a3)]) (as := [k_i (a2)]) (oc := .inr "java/lang/IndexOutOfBoundsException") (j_X7_sanctions la hla G _ (a1) (a2) _ q2) kl_L_42 dL_sanctions_4 rfl rfl rfl rfl rfl ⟨rfl, rfl, Nat.le_of_ble_eq_true rfl, Nat.le_of_ble_eq_true rfl, Nat.le_of_ble_eq_true rfl, Nat.le_of_ble_eq_true rfl, Nat.le_of_ble_eq_true rfl⟩ (fun E q => ?_) (fun r s q => by cases q)
      cases q
      refine k_catch h hEn [] [] (0, 9, 12, 21) rfl (fun z hz => by cases hz) (by decide) (by decide) (by decide) wd_422 (by decide) (fun t5 => ?_)
      refine r_astore_nR (L' := [some (k_p 0 (a1)), some (k_i (a2)), some (k_p 18 (a3)), some (k_r (t5))]) h dL_sanctions_12 (by decide) rfl ?_
      refine r_iconst (v := 1) h dL_sanctions_13 (by decide) ?_
      cases hoc
      exact r_ireturn h hEn dL_sanctions_14 rfl rfl rfl (by decide) (by decide)
    · replace hoc := (if_neg c4).symm.trans hoc
      cases hoc
def f_L_sanctionedUntil (σ : k_S) (a1 : Nat) (a2 : Int32) (a3 : Nat) : Option (Int32 × k_S) :=
  (k_bc (f_X7_sanctionedUntil σ (a1) (a2)) (fun v1 => some ((0, (k_uJ σ 18 (a3) (0) ((v1 : Int32).toInt64))))) (fun e3 => (if e3 = "java/lang/IndexOutOfBoundsException" then some ((1, σ)) else (if e3 = "java/util/NoSuchElementException" then some ((2, σ)) else none))))
theorem j_L_sanctionedUntil (la : Launch) (hla : la.flags = flags0) (G : k_G) (σ : k_S) (a1 : Nat) (a2 : Int32) (a3 : Nat) (x : (Int32 × k_S)) (hoc : f_L_sanctionedUntil σ a1 a2 a3 = some x) : k_Ct la G yL_sanctionedUntil (Cond.codeWith yL_sanctionedUntil cL_sanctionedUntil 4 (Option.some ClassFile.FieldType.int) [((0 : Nat), (9 : Nat), (12 : Nat), (21 : Nat)), ((0 : Nat), (9 : Nat), (15 : Nat), (31 : Nat))] :: k_Tb) { frames := 9, cells := 2, slots := 12, locals := 149 } [k_p 0 (a1), k_i (a2), k_p 18 (a3)] σ (.inl (k_mI x.1, x.2)) 2 12 := by
  refine k_bodyH hla (by decide +kernel) (k_wl rfl) (Nat.le_of_ble_eq_true rfl) (fun X h hEn hMe => ?_)
  show k_W X σ 0 0 0 [some (k_p 0 (a1)), some (k_i (a2)), some (k_p 18 (a3)), none] []
  unfold f_L_sanctionedUntil at hoc
  refine r_aload_n h dL_sanctionedUntil_0 rfl ?_
  refine r_iconst (v := 0) h dL_sanctionedUntil_1 (by decide) ?_
  refine r_aload_n h dL_sanctionedUntil_2 rfl ?_
  refine r_iload_n h dL_sanctionedUntil_3 rfl ?_
  rcases k_bc_ex hoc with ⟨v1, q2, hoc⟩ | ⟨e3, q2, hoc⟩
  · refine r_callV h hMe (rest := [k_i (0), k_p 18 (a3)]) (as := [k_i (a2)]) (oc := .inl (k_mI v1, σ)) (j_X7_sanctionedUntil la hla G _ (a1) (a2) _ q2) kl_L_45 dL_sanctionedUntil_4 rfl rfl rfl rfl rfl ⟨rfl, rfl, Nat.le_of_ble_eq_true rfl, Nat.le_of_ble_eq_true rfl, Nat.le_of_ble_eq_true rfl, Nat.le_of_ble_eq_true rfl, Nat.le_of_ble_eq_true rfl⟩ (fun E q => by cases q) (fun r s q => ?_)
    cases q
    show k_W X _ _ _ _ _ ([k_i (v1), k_i (0), k_p 18 (a3)])
    refine r_i2l h dL_sanctionedUntil_7 ?_
    refine r_lastore (y := 0) (t := 0) (x := (v1 : Int32).toInt64) h dL_sanctionedUntil_8 rfl rfl rfl (by decide) (by decide) (by decide) ?_
    refine r_goto (tgt := 18) h dL_sanctionedUntil_9 (by decide) ?_
    refine r_iconst (v := 0) h dL_sanctionedUntil_18 (by decide) ?_
    cases hoc
    exact r_ireturn h hEn dL_sanctionedUntil_19 rfl rfl rfl (by decide) (by decide)
  · skip
    by_cases c4 : e3 = "java/lang/IndexOutOfBoundsException"
    · replace hoc := (if_pos c4).symm.trans hoc
      subst c4
      refine r_callV h hMe (rest := [k_i (0), k_p 18 (a3)]) (as := [k_i (a2)]) (oc := .inr "java/lang/IndexOutOfBoundsException") (j_X7_sanctionedUntil la hla G _ (a1) (a2) _ q2) kl_L_45 dL_sanctionedUntil_4 rfl rfl rfl rfl rfl ⟨rfl, rfl, Nat.le_of_ble_eq_true rfl, Nat.le_of_ble_eq_true rfl, Nat.le_of_ble_eq_true rfl, Nat.le_of_ble_eq_true rfl, Nat.le_of_ble_eq_true rfl⟩ (fun E q => ?_) (fun r s q => by cases q)
      cases q
      refine k_catch h hEn [] [(0, 9, 15, 31)] (0, 9, 12, 21) rfl (fun z hz => by cases hz) (by decide) (by decide) (by decide) wd_422 (by decide) (fun t5 => ?_)
      refine r_astore_nR (L' := [some (k_p 0 (a1)), some (k_i (a2)), some (k_p 18 (a3)), some (k_r (t5))]) h dL_sanctionedUntil_12 (by decide) rfl ?_
      refine r_iconst (v := 1) h dL_sanctionedUntil_13 (by decide) ?_
      cases hoc
      exact r_ireturn h hEn dL_sanctionedUntil_14 rfl rfl rfl (by decide) (by decide)
    · replace hoc := (if_neg c4).symm.trans hoc
      by_cases c6 : e3 = "java/util/NoSuchElementException"
      · replace hoc := (if_pos c6).symm.trans hoc
        subst c6
        refine r_callV h hMe (rest := [k_i (0), k_p 18 (a3)]) (as := [k_i (a2)]) (oc := .inr "java/util/NoSuchElementException") (j_X7_sanctionedUntil la hla G _ (a1) (a2) _ q2) kl_L_45 dL_sanctionedUntil_4 rfl rfl rfl rfl rfl ⟨rfl, rfl, Nat.le_of_ble_eq_true rfl, Nat.le_of_ble_eq_true rfl, Nat.le_of_ble_eq_true rfl, Nat.le_of_ble_eq_true rfl, Nat.le_of_ble_eq_true rfl⟩ (fun E q => ?_) (fun r s q => by cases q)
        cases q
        refine k_catch h hEn [(0, 9, 12, 21)] [] (0, 9, 15, 31) rfl (by intro z hz; simp only [List.mem_cons, List.not_mem_nil, or_false] at hz; rcases hz with rfl; exact ⟨by decide, "java/lang/IndexOutOfBoundsException", by decide, by decide, wd_422⟩) (by decide) (by decide) (by decide) wd_490 (by decide) (fun t7 => ?_)
        refine r_astore_nR (L' := [some (k_p 0 (a1)), some (k_i (a2)), some (k_p 18 (a3)), some (k_r (t7))]) h dL_sanctionedUntil_15 (by decide) rfl ?_
        refine r_iconst (v := 2) h dL_sanctionedUntil_16 (by decide) ?_
        cases hoc
        exact r_ireturn h hEn dL_sanctionedUntil_17 rfl rfl rfl (by decide) (by decide)
      · replace hoc := (if_neg c6).symm.trans hoc
        cases hoc
def f_L_addBot (σ : k_S) (a1 : Nat) (a2 : Int32) (a3 : Int32) (a4 : Nat) : Option (Int32 × k_S) :=
  (k_bc (f_X7_addBot σ (a1) (a2) (a3)) (fun v1 => some ((0, (k_uJ v1.2 18 (a4) (0) ((v1.1 : Int32).toInt64))))) (fun e3 => (if e3 = "java/lang/IllegalArgumentException" then some ((1, σ)) else (if e3 = "java/lang/IllegalStateException" then some ((2, σ)) else none))))
theorem j_L_addBot (la : Launch) (hla : la.flags = flags0) (G : k_G) (σ : k_S) (a1 : Nat) (a2 : Int32) (a3 : Int32) (a4 : Nat) (x : (Int32 × k_S)) (hoc : f_L_addBot σ a1 a2 a3 a4 = some x) : k_Ct la G yL_addBot (Cond.codeWith yL_addBot cL_addBot 5 (Option.some ClassFile.FieldType.int) [((0 : Nat), (10 : Nat), (13 : Nat), (13 : Nat)), ((0 : Nat), (10 : Nat), (17 : Nat), (15 : Nat))] :: k_Tb) { frames := 8, cells := 5, slots := 320, locals := 253 } [k_p 0 (a1), k_i (a2), k_i (a3), k_p 18 (a4)] σ (.inl (k_mI x.1, x.2)) 5 320 := by
  refine k_bodyH hla (by decide +kernel) (k_wl rfl) (Nat.le_of_ble_eq_true rfl) (fun X h hEn hMe => ?_)
  show k_W X σ 0 0 0 [some (k_p 0 (a1)), some (k_i (a2)), some (k_i (a3)), some (k_p 18 (a4)), none] []
  unfold f_L_addBot at hoc
  refine r_aload_n h dL_addBot_0 rfl ?_
  refine r_iconst (v := 0) h dL_addBot_1 (by decide) ?_
  refine r_aload_n h dL_addBot_2 rfl ?_
  refine r_iload_n h dL_addBot_3 rfl ?_
  refine r_iload_n h dL_addBot_4 rfl ?_
  rcases k_bc_ex hoc with ⟨v1, q2, hoc⟩ | ⟨e3, q2, hoc⟩
  · refine r_callV h hMe (rest := [k_i (0), k_p 18 (a4)]) (as := [k_i (a2), k_i (a3)]) (oc := .inl (k_mI v1.1, v1.2)) (j_X7_addBot la hla G _ (a1) (a2) (a3) _ q2) kl_L_48 dL_addBot_5 rfl rfl rfl rfl rfl ⟨rfl, rfl, Nat.le_of_ble_eq_true rfl, Nat.le_of_ble_eq_true rfl, Nat.le_of_ble_eq_true rfl, Nat.le_of_ble_eq_true rfl, Nat.le_of_ble_eq_true rfl⟩ (fun E q => by cases q) (fun r s q => ?_)
    cases q
    show k_W X _ _ _ _ _ ([k_i (v1.1), k_i (0), k_p 18 (a4)])
    refine r_i2l h dL_addBot_8 ?_
    refine r_lastore (y := 0) (t := 0) (x := (v1.1 : Int32).toInt64) h dL_addBot_9 rfl rfl rfl (by decide) (by decide) (by decide) ?_
    refine r_goto (tgt := 21) h dL_addBot_10 (by decide) ?_
    refine r_iconst (v := 0) h dL_addBot_21 (by decide) ?_
    cases hoc
    exact r_ireturn h hEn dL_addBot_22 rfl rfl rfl (by decide) (by decide)
  · skip
    by_cases c4 : e3 = "java/lang/IllegalArgumentException"
    · replace hoc := (if_pos c4).symm.trans hoc
      subst c4
      refine r_callV h hMe (rest := [k_i (0), k_p 18 (a4)]) (as := [k_i (a2), k_i (a3)]) (oc := .inr "java/lang/IllegalArgumentException") (j_X7_addBot la hla G _ (a1) (a2) (a3) _ q2) kl_L_48 dL_addBot_5 rfl rfl rfl rfl rfl ⟨rfl, rfl, Nat.le_of_ble_eq_true rfl, Nat.le_of_ble_eq_true rfl, Nat.le_of_ble_eq_true rfl, Nat.le_of_ble_eq_true rfl, Nat.le_of_ble_eq_true rfl⟩ (fun E q => ?_) (fun r s q => by cases q)
      cases q
      refine k_catch h hEn [] [(0, 10, 17, 15)] (0, 10, 13, 13) rfl (fun z hz => by cases hz) (by decide) (by decide) (by decide) wd_227 (by decide) (fun t5 => ?_)
      refine r_astoreR (L' := [some (k_p 0 (a1)), some (k_i (a2)), some (k_i (a3)), some (k_p 18 (a4)), some (k_r (t5))]) h dL_addBot_13 (by decide) rfl ?_
      refine r_iconst (v := 1) h dL_addBot_15 (by decide) ?_
      cases hoc
      exact r_ireturn h hEn dL_addBot_16 rfl rfl rfl (by decide) (by decide)
    · replace hoc := (if_neg c4).symm.trans hoc
      by_cases c6 : e3 = "java/lang/IllegalStateException"
      · replace hoc := (if_pos c6).symm.trans hoc
        subst c6
        refine r_callV h hMe (rest := [k_i (0), k_p 18 (a4)]) (as := [k_i (a2), k_i (a3)]) (oc := .inr "java/lang/IllegalStateException") (j_X7_addBot la hla G _ (a1) (a2) (a3) _ q2) kl_L_48 dL_addBot_5 rfl rfl rfl rfl rfl ⟨rfl, rfl, Nat.le_of_ble_eq_true rfl, Nat.le_of_ble_eq_true rfl, Nat.le_of_ble_eq_true rfl, Nat.le_of_ble_eq_true rfl, Nat.le_of_ble_eq_true rfl⟩ (fun E q => ?_) (fun r s q => by cases q)
        cases q
        refine k_catch h hEn [(0, 10, 13, 13)] [] (0, 10, 17, 15) rfl (by intro z hz; simp only [List.mem_cons, List.not_mem_nil, or_false] at hz; rcases hz with rfl; exact ⟨by decide, "java/lang/IllegalArgumentException", by decide, by decide, wd_227⟩) (by decide) (by decide) (by decide) wd_228 (by decide) (fun t7 => ?_)
        refine r_astoreR (L' := [some (k_p 0 (a1)), some (k_i (a2)), some (k_i (a3)), some (k_p 18 (a4)), some (k_r (t7))]) h dL_addBot_17 (by decide) rfl ?_
        refine r_iconst (v := 2) h dL_addBot_19 (by decide) ?_
        cases hoc
        exact r_ireturn h hEn dL_addBot_20 rfl rfl rfl (by decide) (by decide)
      · replace hoc := (if_neg c6).symm.trans hoc
        cases hoc
