def f_L_threshold (σ : k_S) (a1 : Nat) (a2 : Int32) (a3 : Nat) : Option (Int32 × k_S) :=
  (k_bc (f_X7_threshold σ (a1) (a2)) (fun v1 => some ((0, (k_uJ σ 18 (a3) (0) ((v1 : Int32).toInt64))))) (fun e3 => (if e3 = "java/lang/IndexOutOfBoundsException" then some ((1, σ)) else none)))
theorem j_L_threshold (la : Launch) (hla : la.flags = flags0) (G : k_G) (σ : k_S) (a1 : Nat) (a2 : Int32) (a3 : Nat) (x : (Int32 × k_S)) (hoc : f_L_threshold σ a1 a2 a3 = some x) : k_Ct la G yL_threshold (Cond.codeWith yL_threshold cL_threshold 4 (Option.some ClassFile.FieldType.int) [((0 : Nat), (9 : Nat), (12 : Nat), (21 : Nat))] :: k_Tb) { frames := 8, cells := 1, slots := 6, locals := 124 } [k_p 0 (a1), k_i (a2), k_p 18 (a3)] σ (.inl (k_mI x.1, x.2)) 1 6 := by
  refine k_bodyH hla (by decide +kernel) (k_wl rfl) (Nat.le_of_ble_eq_true rfl) (fun X h hEn hMe => ?_)
  show k_W X σ 0 0 0 [some (k_p 0 (a1)), some (k_i (a2)), some (k_p 18 (a3)), none] []
  unfold f_L_threshold at hoc
  refine r_aload_n h dL_threshold_0 rfl ?_
  refine r_iconst (v := 0) h dL_threshold_1 (by decide) ?_
  refine r_aload_n h dL_threshold_2 rfl ?_
  refine r_iload_n h dL_threshold_3 rfl ?_
  rcases k_bc_ex hoc with ⟨v1, q2, hoc⟩ | ⟨e3, q2, hoc⟩
  · refine r_callV h hMe (rest := [k_i (0), k_p 18 (a3)]) (as := [k_i (a2)]) (oc := .inl (k_mI v1, σ)) (j_X7_threshold la hla G _ (a1) (a2) _ q2) kl_L_51 dL_threshold_4 rfl rfl rfl rfl rfl ⟨rfl, rfl, Nat.le_of_ble_eq_true rfl, Nat.le_of_ble_eq_true rfl, Nat.le_of_ble_eq_true rfl, Nat.le_of_ble_eq_true rfl, Nat.le_of_ble_eq_true rfl⟩ (fun E q => by cases q) (fun r s q => ?_)
    cases q
    show k_W X _ _ _ _ _ ([k_i (v1), k_i (0), k_p 18 (a3)])
    refine r_i2l h dL_threshold_7 ?_
    refine r_lastore (y := 0) (t := 0) (x := (v1 : Int32).toInt64) h dL_threshold_8 rfl rfl rfl (by decide) (by decide) (by decide) ?_
    refine r_goto (tgt := 15) h dL_threshold_9 (by decide) ?_
    refine r_iconst (v := 0) h dL_threshold_15 (by decide) ?_
    cases hoc
    exact r_ireturn h hEn dL_threshold_16 rfl rfl rfl (by decide) (by decide)
  · skip
    by_cases c4 : e3 = "java/lang/IndexOutOfBoundsException"
    · replace hoc := (if_pos c4).symm.trans hoc
      subst c4
      refine r_callV h hMe (rest := [k_i (0), k_p 18 (a3)]) (as := [k_i (a2)]) (oc := .inr "java/lang/IndexOutOfBoundsException") (j_X7_threshold la hla G _ (a1) (a2) _ q2) kl_L_51 dL_threshold_4 rfl rfl rfl rfl rfl ⟨rfl, rfl, Nat.le_of_ble_eq_true rfl, Nat.le_of_ble_eq_true rfl, Nat.le_of_ble_eq_true rfl, Nat.le_of_ble_eq_true rfl, Nat.le_of_ble_eq_true rfl⟩ (fun E q => ?_) (fun r s q => by cases q)
      cases q
      refine k_catch h hEn [] [] (0, 9, 12, 21) rfl (fun z hz => by cases hz) (by decide) (by decide) (by decide) wd_422 (by decide) (fun t5 => ?_)
      refine r_astore_nR (L' := [some (k_p 0 (a1)), some (k_i (a2)), some (k_p 18 (a3)), some (k_r (t5))]) h dL_threshold_12 (by decide) rfl ?_
      refine r_iconst (v := 1) h dL_threshold_13 (by decide) ?_
      cases hoc
      exact r_ireturn h hEn dL_threshold_14 rfl rfl rfl (by decide) (by decide)
    · replace hoc := (if_neg c4).symm.trans hoc
      cases hoc
def f_L_file (σ : k_S) (a1 : Nat) (a2 : Int32) (a3 : Int32) (a4 : Int32) (a5 : Int32) (a6 : Nat) : Option (Int32 × k_S) :=
  (k_bc (f_X7_file σ (a1) (a2) (a3) (a4) (a5)) (fun v1 => some ((0, (k_uJ v1.2 18 (a6) (0) ((v1.1 : Int32).toInt64))))) (fun e3 => (if e3 = "java/lang/IndexOutOfBoundsException" then some ((1, σ)) else (if e3 = "java/lang/IllegalArgumentException" then some ((2, σ)) else (if e3 = "java/lang/IllegalStateException" then some ((3, σ)) else none)))))
theorem j_L_file (la : Launch) (hla : la.flags = flags0) (G : k_G) (σ : k_S) (a1 : Nat) (a2 : Int32) (a3 : Int32) (a4 : Int32) (a5 : Int32) (a6 : Nat) (x : (Int32 × k_S)) (hoc : f_L_file σ a1 a2 a3 a4 a5 a6 = some x) : k_Ct la G yL_file (Cond.codeWith yL_file cL_file 7 (Option.some ClassFile.FieldType.int) [((0 : Nat), (14 : Nat), (17 : Nat), (21 : Nat)), ((0 : Nat), (14 : Nat), (21 : Nat), (13 : Nat)), ((0 : Nat), (14 : Nat), (25 : Nat), (15 : Nat))] :: k_Tb) { frames := 10, cells := 12, slots := 958, locals := 306 } [k_p 0 (a1), k_i (a2), k_i (a3), k_i (a4), k_i (a5), k_p 18 (a6)] σ (.inl (k_mI x.1, x.2)) 12 958 := by
  refine k_bodyH hla (by decide +kernel) (k_wl rfl) (Nat.le_of_ble_eq_true rfl) (fun X h hEn hMe => ?_)
  show k_W X σ 0 0 0 [some (k_p 0 (a1)), some (k_i (a2)), some (k_i (a3)), some (k_i (a4)), some (k_i (a5)), some (k_p 18 (a6)), none] []
  unfold f_L_file at hoc
  refine r_aload h dL_file_0 rfl ?_
  refine r_iconst (v := 0) h dL_file_2 (by decide) ?_
  refine r_aload_n h dL_file_3 rfl ?_
  refine r_iload_n h dL_file_4 rfl ?_
  refine r_iload_n h dL_file_5 rfl ?_
  refine r_iload_n h dL_file_6 rfl ?_
  refine r_iload h dL_file_7 rfl ?_
  rcases k_bc_ex hoc with ⟨v1, q2, hoc⟩ | ⟨e3, q2, hoc⟩
  · refine r_callV h hMe (rest := [k_i (0), k_p 18 (a6)]) (as := [k_i (a2), k_i (a3), k_i (a4), k_i (a5)]) (oc := .inl (k_mI v1.1, v1.2)) (j_X7_file la hla G _ (a1) (a2) (a3) (a4) (a5) _ q2) kl_L_54 dL_file_9 rfl rfl rfl rfl rfl ⟨rfl, rfl, Nat.le_of_ble_eq_true rfl, Nat.le_of_ble_eq_true rfl, Nat.le_of_ble_eq_true rfl, Nat.le_of_ble_eq_true rfl, Nat.le_of_ble_eq_true rfl⟩ (fun E q => by cases q) (fun r s q => ?_)
    cases q
    show k_W X _ _ _ _ _ ([k_i (v1.1), k_i (0), k_p 18 (a6)])
    refine r_i2l h dL_file_12 ?_
    refine r_lastore (y := 0) (t := 0) (x := (v1.1 : Int32).toInt64) h dL_file_13 rfl rfl rfl (by decide) (by decide) (by decide) ?_
    refine r_goto (tgt := 29) h dL_file_14 (by decide) ?_
    refine r_iconst (v := 0) h dL_file_29 (by decide) ?_
    cases hoc
    exact r_ireturn h hEn dL_file_30 rfl rfl rfl (by decide) (by decide)
  · skip
    by_cases c4 : e3 = "java/lang/IndexOutOfBoundsException"
    · replace hoc := (if_pos c4).symm.trans hoc
      subst c4
      refine r_callV h hMe (rest := [k_i (0), k_p 18 (a6)]) (as := [k_i (a2), k_i (a3), k_i (a4), k_i (a5)]) (oc := .inr "java/lang/IndexOutOfBoundsException") (j_X7_file la hla G _ (a1) (a2) (a3) (a4) (a5) _ q2) kl_L_54 dL_file_9 rfl rfl rfl rfl rfl ⟨rfl, rfl, Nat.le_of_ble_eq_true rfl, Nat.le_of_ble_eq_true rfl, Nat.le_of_ble_eq_true rfl, Nat.le_of_ble_eq_true rfl, Nat.le_of_ble_eq_true rfl⟩ (fun E q => ?_) (fun r s q => by cases q)
      cases q
      refine k_catch h hEn [] [(0, 14, 21, 13), (0, 14, 25, 15)] (0, 14, 17, 21) rfl (fun z hz => by cases hz) (by decide) (by decide) (by decide) wd_422 (by decide) (fun t5 => ?_)
      refine r_astoreR (L' := [some (k_p 0 (a1)), some (k_i (a2)), some (k_i (a3)), some (k_i (a4)), some (k_i (a5)), some (k_p 18 (a6)), some (k_r (t5))]) h dL_file_17 (by decide) rfl ?_
      refine r_iconst (v := 1) h dL_file_19 (by decide) ?_
      cases hoc
      exact r_ireturn h hEn dL_file_20 rfl rfl rfl (by decide) (by decide)
    · replace hoc := (if_neg c4).symm.trans hoc
      by_cases c6 : e3 = "java/lang/IllegalArgumentException"
      · replace hoc := (if_pos c6).symm.trans hoc
        subst c6
        refine r_callV h hMe (rest := [k_i (0), k_p 18 (a6)]) (as := [k_i (a2), k_i (a3), k_i (a4), k_i (a5)]) (oc := .inr "java/lang/IllegalArgumentException") (j_X7_file la hla G _ (a1) (a2) (a3) (a4) (a5) _ q2) kl_L_54 dL_file_9 rfl rfl rfl rfl rfl ⟨rfl, rfl, Nat.le_of_ble_eq_true rfl, Nat.le_of_ble_eq_true rfl, Nat.le_of_ble_eq_true rfl, Nat.le_of_ble_eq_true rfl, Nat.le_of_ble_eq_true rfl⟩ (fun E q => ?_) (fun r s q => by cases q)
        cases q
        refine k_catch h hEn [(0, 14, 17, 21)] [(0, 14, 25, 15)] (0, 14, 21, 13) rfl (by intro z hz; simp only [List.mem_cons, List.not_mem_nil, or_false] at hz; rcases hz with rfl; exact ⟨by decide, "java/lang/IndexOutOfBoundsException", by decide, by decide, wd_422⟩) (by decide) (by decide) (by decide) wd_227 (by decide) (fun t7 => ?_)
        refine r_astoreR (L' := [some (k_p 0 (a1)), some (k_i (a2)), some (k_i (a3)), some (k_i (a4)), some (k_i (a5)), some (k_p 18 (a6)), some (k_r (t7))]) h dL_file_21 (by decide) rfl ?_
        refine r_iconst (v := 2) h dL_file_23 (by decide) ?_
        cases hoc
        exact r_ireturn h hEn dL_file_24 rfl rfl rfl (by decide) (by decide)
      · replace hoc := (if_neg c6).symm.trans hoc
        by_cases c8 : e3 = "java/lang/IllegalStateException"
        · replace hoc := (if_pos c8).symm.trans hoc
          subst c8
          refine r_callV h hMe (rest := [k_i (0), k_p 18 (a6)]) (as := [k_i (a2), k_i (a3), k_i (a4), k_i (a5)]) (oc := .inr "java/lang/IllegalStateException") (j_X7_file la hla G _ (a1) (a2) (a3) (a4) (a5) _ q2) kl_L_54 dL_file_9 rfl rfl rfl rfl rfl ⟨rfl, rfl, Nat.le_of_ble_eq_true rfl, Nat.le_of_ble_eq_true rfl, Nat.le_of_ble_eq_true rfl, Nat.le_of_ble_eq_true rfl, Nat.le_of_ble_eq_true rfl⟩ (fun E q => ?_) (fun r s q => by cases q)
          cases q
          refine k_catch h hEn [(0, 14, 17, 21), (0, 14, 21, 13)] [] (0, 14, 25, 15) rfl (by intro z hz; simp only [List.mem_cons, List.not_mem_nil, or_false] at hz; rcases hz with rfl | rfl; exact ⟨by decide, "java/lang/IndexOutOfBoundsException", by decide, by decide, wd_422⟩; exact ⟨by decide, "java/lang/IllegalArgumentException", by decide, by decide, wd_227⟩) (by decide) (by decide) (by decide) wd_228 (by decide) (fun t9 => ?_)
          refine r_astoreR (L' := [some (k_p 0 (a1)), some (k_i (a2)), some (k_i (a3)), some (k_i (a4)), some (k_i (a5)), some (k_p 18 (a6)), some (k_r (t9))]) h dL_file_25 (by decide) rfl ?_
          refine r_iconst (v := 3) h dL_file_27 (by decide) ?_
          cases hoc
          exact r_ireturn h hEn dL_file_28 rfl rfl rfl (by decide) (by decide)
        · replace hoc := (if_neg c8).symm.trans hoc
          cases hoc
def f_L_state (σ : k_S) (a1 : Nat) (a2 : Int32) (a3 : Nat) : Option (Int32 × k_S) :=
  (k_bc (f_X7_state σ (a1) (a2)) (fun v1 => some ((0, (k_uJ σ 18 (a3) (0) ((v1 : Int32).toInt64))))) (fun e3 => (if e3 = "java/lang/IndexOutOfBoundsException" then some ((1, σ)) else none)))
theorem j_L_state (la : Launch) (hla : la.flags = flags0) (G : k_G) (σ : k_S) (a1 : Nat) (a2 : Int32) (a3 : Nat) (x : (Int32 × k_S)) (hoc : f_L_state σ a1 a2 a3 = some x) : k_Ct la G yL_state (Cond.codeWith yL_state cL_state 4 (Option.some ClassFile.FieldType.int) [((0 : Nat), (9 : Nat), (12 : Nat), (21 : Nat))] :: k_Tb) { frames := 9, cells := 1, slots := 6, locals := 145 } [k_p 0 (a1), k_i (a2), k_p 18 (a3)] σ (.inl (k_mI x.1, x.2)) 1 6 := by
  refine k_bodyH hla (by decide +kernel) (k_wl rfl) (Nat.le_of_ble_eq_true rfl) (fun X h hEn hMe => ?_)
  show k_W X σ 0 0 0 [some (k_p 0 (a1)), some (k_i (a2)), some (k_p 18 (a3)), none] []
  unfold f_L_state at hoc
  refine r_aload_n h dL_state_0 rfl ?_
  refine r_iconst (v := 0) h dL_state_1 (by decide) ?_
  refine r_aload_n h dL_state_2 rfl ?_
  refine r_iload_n h dL_state_3 rfl ?_
  rcases k_bc_ex hoc with ⟨v1, q2, hoc⟩ | ⟨e3, q2, hoc⟩
  · refine r_callV h hMe (rest := [k_i (0), k_p 18 (a3)]) (as := [k_i (a2)]) (oc := .inl (k_mI v1, σ)) (j_X7_state la hla G _ (a1) (a2) _ q2) kl_L_58 dL_state_4 rfl rfl rfl rfl rfl ⟨rfl, rfl, Nat.le_of_ble_eq_true rfl, Nat.le_of_ble_eq_true rfl, Nat.le_of_ble_eq_true rfl, Nat.le_of_ble_eq_true rfl, Nat.le_of_ble_eq_true rfl⟩ (fun E q => by cases q) (fun r s q => ?_)
    cases q
    show k_W X _ _ _ _ _ ([k_i (v1), k_i (0), k_p 18 (a3)])
    refine r_i2l h dL_state_7 ?_
    refine r_lastore (y := 0) (t := 0) (x := (v1 : Int32).toInt64) h dL_state_8 rfl rfl rfl (by decide) (by decide) (by decide) ?_
    refine r_goto (tgt := 15) h dL_state_9 (by decide) ?_
    refine r_iconst (v := 0) h dL_state_15 (by decide) ?_
    cases hoc
    exact r_ireturn h hEn dL_state_16 rfl rfl rfl (by decide) (by decide)
  · skip
    by_cases c4 : e3 = "java/lang/IndexOutOfBoundsException"
    · replace hoc := (if_pos c4).symm.trans hoc
      subst c4
      refine r_callV h hMe (rest := [k_i (0), k_p 18 (a3)]) (as := [k_i (a2)]) (oc := .inr "java/lang/IndexOutOfBoundsException") (j_X7_state la hla G _ (a1) (a2) _ q2) kl_L_58 dL_state_4 rfl rfl rfl rfl rfl ⟨rfl, rfl, Nat.le_of_ble_eq_true rfl, Nat.le_of_ble_eq_true rfl, Nat.le_of_ble_eq_true rfl, Nat.le_of_ble_eq_true rfl, Nat.le_of_ble_eq_true rfl⟩ (fun E q => ?_) (fun r s q => by cases q)
      cases q
      refine k_catch h hEn [] [] (0, 9, 12, 21) rfl (fun z hz => by cases hz) (by decide) (by decide) (by decide) wd_422 (by decide) (fun t5 => ?_)
      refine r_astore_nR (L' := [some (k_p 0 (a1)), some (k_i (a2)), some (k_p 18 (a3)), some (k_r (t5))]) h dL_state_12 (by decide) rfl ?_
      refine r_iconst (v := 1) h dL_state_13 (by decide) ?_
      cases hoc
      exact r_ireturn h hEn dL_state_14 rfl rfl rfl (by decide) (by decide)
    · replace hoc := (if_neg c4).symm.trans hoc
      cases hoc
def f_L_vote (σ : k_S) (a1 : Nat) (a2 : Int32) (a3 : Int32) (a4 : Int32) (a5 : Nat) : Option (Int32 × k_S) :=
  (k_bc (f_X7_vote σ (a1) (a2) (a3) (a4)) (fun v1 => some ((0, (k_uJ v1.2 18 (a5) (0) ((v1.1 : Int32).toInt64))))) (fun e3 => (if e3 = "java/lang/IndexOutOfBoundsException" then some ((1, σ)) else (if e3 = "java/lang/IllegalStateException" then some ((2, σ)) else (if e3 = "java/lang/UnsupportedOperationException" then some ((3, σ)) else none)))))
theorem j_L_vote (la : Launch) (hla : la.flags = flags0) (G : k_G) (σ : k_S) (a1 : Nat) (a2 : Int32) (a3 : Int32) (a4 : Int32) (a5 : Nat) (x : (Int32 × k_S)) (hoc : f_L_vote σ a1 a2 a3 a4 a5 = some x) : k_Ct la G yL_vote (Cond.codeWith yL_vote cL_vote 6 (Option.some ClassFile.FieldType.int) [((0 : Nat), (12 : Nat), (15 : Nat), (21 : Nat)), ((0 : Nat), (12 : Nat), (19 : Nat), (15 : Nat)), ((0 : Nat), (12 : Nat), (23 : Nat), (66 : Nat))] :: k_Tb) { frames := 9, cells := 4, slots := 24, locals := 149 } [k_p 0 (a1), k_i (a2), k_i (a3), k_i (a4), k_p 18 (a5)] σ (.inl (k_mI x.1, x.2)) 4 24 := by
  refine k_bodyH hla (by decide +kernel) (k_wl rfl) (Nat.le_of_ble_eq_true rfl) (fun X h hEn hMe => ?_)
  show k_W X σ 0 0 0 [some (k_p 0 (a1)), some (k_i (a2)), some (k_i (a3)), some (k_i (a4)), some (k_p 18 (a5)), none] []
  unfold f_L_vote at hoc
  refine r_aload h dL_vote_0 rfl ?_
  refine r_iconst (v := 0) h dL_vote_2 (by decide) ?_
  refine r_aload_n h dL_vote_3 rfl ?_
  refine r_iload_n h dL_vote_4 rfl ?_
  refine r_iload_n h dL_vote_5 rfl ?_
  refine r_iload_n h dL_vote_6 rfl ?_
  rcases k_bc_ex hoc with ⟨v1, q2, hoc⟩ | ⟨e3, q2, hoc⟩
  · refine r_callV h hMe (rest := [k_i (0), k_p 18 (a5)]) (as := [k_i (a2), k_i (a3), k_i (a4)]) (oc := .inl (k_mI v1.1, v1.2)) (j_X7_vote la hla G _ (a1) (a2) (a3) (a4) _ q2) kl_L_62 dL_vote_7 rfl rfl rfl rfl rfl ⟨rfl, rfl, Nat.le_of_ble_eq_true rfl, Nat.le_of_ble_eq_true rfl, Nat.le_of_ble_eq_true rfl, Nat.le_of_ble_eq_true rfl, Nat.le_of_ble_eq_true rfl⟩ (fun E q => by cases q) (fun r s q => ?_)
    cases q
    show k_W X _ _ _ _ _ ([k_i (v1.1), k_i (0), k_p 18 (a5)])
    refine r_i2l h dL_vote_10 ?_
    refine r_lastore (y := 0) (t := 0) (x := (v1.1 : Int32).toInt64) h dL_vote_11 rfl rfl rfl (by decide) (by decide) (by decide) ?_
    refine r_goto (tgt := 27) h dL_vote_12 (by decide) ?_
    refine r_iconst (v := 0) h dL_vote_27 (by decide) ?_
    cases hoc
    exact r_ireturn h hEn dL_vote_28 rfl rfl rfl (by decide) (by decide)
  · skip
    by_cases c4 : e3 = "java/lang/IndexOutOfBoundsException"
    · replace hoc := (if_pos c4).symm.trans hoc
      subst c4
      refine r_callV h hMe (rest := [k_i (0), k_p 18 (a5)]) (as := [k_i (a2), k_i (a3), k_i (a4)]) (oc := .inr "java/lang/IndexOutOfBoundsException") (j_X7_vote la hla G _ (a1) (a2) (a3) (a4) _ q2) kl_L_62 dL_vote_7 rfl rfl rfl rfl rfl ⟨rfl, rfl, Nat.le_of_ble_eq_true rfl, Nat.le_of_ble_eq_true rfl, Nat.le_of_ble_eq_true rfl, Nat.le_of_ble_eq_true rfl, Nat.le_of_ble_eq_true rfl⟩ (fun E q => ?_) (fun r s q => by cases q)
      cases q
      refine k_catch h hEn [] [(0, 12, 19, 15), (0, 12, 23, 66)] (0, 12, 15, 21) rfl (fun z hz => by cases hz) (by decide) (by decide) (by decide) wd_422 (by decide) (fun t5 => ?_)
      refine r_astoreR (L' := [some (k_p 0 (a1)), some (k_i (a2)), some (k_i (a3)), some (k_i (a4)), some (k_p 18 (a5)), some (k_r (t5))]) h dL_vote_15 (by decide) rfl ?_
      refine r_iconst (v := 1) h dL_vote_17 (by decide) ?_
      cases hoc
      exact r_ireturn h hEn dL_vote_18 rfl rfl rfl (by decide) (by decide)
    · replace hoc := (if_neg c4).symm.trans hoc
      by_cases c6 : e3 = "java/lang/IllegalStateException"
      · replace hoc := (if_pos c6).symm.trans hoc
        subst c6
        refine r_callV h hMe (rest := [k_i (0), k_p 18 (a5)]) (as := [k_i (a2), k_i (a3), k_i (a4)]) (oc := .inr "java/lang/IllegalStateException") (j_X7_vote la hla G _ (a1) (a2) (a3) (a4) _ q2) kl_L_62 dL_vote_7 rfl rfl rfl rfl rfl ⟨rfl, rfl, Nat.le_of_ble_eq_true rfl, Nat.le_of_ble_eq_true rfl, Nat.le_of_ble_eq_true rfl, Nat.le_of_ble_eq_true rfl, Nat.le_of_ble_eq_true rfl⟩ (fun E q => ?_) (fun r s q => by cases q)
        cases q
        refine k_catch h hEn [(0, 12, 15, 21)] [(0, 12, 23, 66)] (0, 12, 19, 15) rfl (by intro z hz; simp only [List.mem_cons, List.not_mem_nil, or_false] at hz; rcases hz with rfl; exact ⟨by decide, "java/lang/IndexOutOfBoundsException", by decide, by decide, wd_422⟩) (by decide) (by decide) (by decide) wd_228 (by decide) (fun t7 => ?_)
        refine r_astoreR (L' := [some (k_p 0 (a1)), some (k_i (a2)), some (k_i (a3)), some (k_i (a4)), some (k_p 18 (a5)), some (k_r (t7))]) h dL_vote_19 (by decide) rfl ?_
        refine r_iconst (v := 2) h dL_vote_21 (by decide) ?_
        cases hoc
        exact r_ireturn h hEn dL_vote_22 rfl rfl rfl (by decide) (by decide)
      · replace hoc := (if_neg c6).symm.trans hoc
        by_cases c8 : e3 = "java/lang/UnsupportedOperationException"
        · replace hoc := (if_pos c8).symm.trans hoc
          subst c8
          refine r_callV h hMe (rest := [k_i (0), k_p 18 (a5)]) (as := [k_i (a2), k_i (a3), k_i (a4)]) (oc := .inr "java/lang/UnsupportedOperationException") (j_X7_vote la hla G _ (a1) (a2) (a3) (a4) _ q2) kl_L_62 dL_vote_7 rfl rfl rfl rfl rfl ⟨rfl, rfl, Nat.le_of_ble_eq_true rfl, Nat.le_of_ble_eq_true rfl, Nat.le_of_ble_eq_true rfl, Nat.le_of_ble_eq_true rfl, Nat.le_of_ble_eq_true rfl⟩ (fun E q => ?_) (fun r s q => by cases q)
          cases q
          refine k_catch h hEn [(0, 12, 15, 21), (0, 12, 19, 15)] [] (0, 12, 23, 66) rfl (by intro z hz; simp only [List.mem_cons, List.not_mem_nil, or_false] at hz; rcases hz with rfl | rfl; exact ⟨by decide, "java/lang/IndexOutOfBoundsException", by decide, by decide, wd_422⟩; exact ⟨by decide, "java/lang/IllegalStateException", by decide, by decide, wd_228⟩) (by decide) (by decide) (by decide) wd_729 (by decide) (fun t9 => ?_)
          refine r_astoreR (L' := [some (k_p 0 (a1)), some (k_i (a2)), some (k_i (a3)), some (k_i (a4)), some (k_p 18 (a5)), some (k_r (t9))]) h dL_vote_23 (by decide) rfl ?_
          refine r_iconst (v := 3) h dL_vote_25 (by decide) ?_
          cases hoc
          exact r_ireturn h hEn dL_vote_26 rfl rfl rfl (by decide) (by decide)
        · replace hoc := (if_neg c8).symm.trans hoc
          cases hoc
def f_L_weightFor (σ : k_S) (a1 : Nat) (a2 : Int32) (a3 : Nat) : Option (Int32 × k_S) :=
  (k_bc (f_X7_weightFor σ (a1) (a2)) (fun v1 => some ((0, (k_uJ σ 18 (a3) (0) ((v1 : Int32).toInt64))))) (fun e3 => (if e3 = "java/lang/IndexOutOfBoundsException" then some ((1, σ)) else none)))
theorem j_L_weightFor (la : Launch) (hla : la.flags = flags0) (G : k_G) (σ : k_S) (a1 : Nat) (a2 : Int32) (a3 : Nat) (x : (Int32 × k_S)) (hoc : f_L_weightFor σ a1 a2 a3 = some x) : k_Ct la G yL_weightFor (Cond.codeWith yL_weightFor cL_weightFor 4 (Option.some ClassFile.FieldType.int) [((0 : Nat), (9 : Nat), (12 : Nat), (21 : Nat))] :: k_Tb) { frames := 9, cells := 1, slots := 6, locals := 145 } [k_p 0 (a1), k_i (a2), k_p 18 (a3)] σ (.inl (k_mI x.1, x.2)) 1 6 := by
  refine k_bodyH hla (by decide +kernel) (k_wl rfl) (Nat.le_of_ble_eq_true rfl) (fun X h hEn hMe => ?_)
  show k_W X σ 0 0 0 [some (k_p 0 (a1)), some (k_i (a2)), some (k_p 18 (a3)), none] []
  unfold f_L_weightFor at hoc
  refine r_aload_n h dL_weightFor_0 rfl ?_
  refine r_iconst (v := 0) h dL_weightFor_1 (by decide) ?_
  refine r_aload_n h dL_weightFor_2 rfl ?_
  refine r_iload_n h dL_weightFor_3 rfl ?_
  rcases k_bc_ex hoc with ⟨v1, q2, hoc⟩ | ⟨e3, q2, hoc⟩
  · refine r_callV h hMe (rest := [k_i (0), k_p 18 (a3)]) (as := [k_i (a2)]) (oc := .inl (k_mI v1, σ)) (j_X7_weightFor la hla G _ (a1) (a2) _ q2) kl_L_68 dL_weightFor_4 rfl rfl rfl rfl rfl ⟨rfl, rfl, Nat.le_of_ble_eq_true rfl, Nat.le_of_ble_eq_true rfl, Nat.le_of_ble_eq_true rfl, Nat.le_of_ble_eq_true rfl, Nat.le_of_ble_eq_true rfl⟩ (fun E q => by cases q) (fun r s q => ?_)
    cases q
    show k_W X _ _ _ _ _ ([k_i (v1), k_i (0), k_p 18 (a3)])
    refine r_i2l h dL_weightFor_7 ?_
    refine r_lastore (y := 0) (t := 0) (x := (v1 : Int32).toInt64) h dL_weightFor_8 rfl rfl rfl (by decide) (by decide) (by decide) ?_
    refine r_goto (tgt := 15) h dL_weightFor_9 (by decide) ?_
    refine r_iconst (v := 0) h dL_weightFor_15 (by decide) ?_
    cases hoc
    exact r_ireturn h hEn dL_weightFor_16 rfl rfl rfl (by decide) (by decide)
  · skip
    by_cases c4 : e3 = "java/lang/IndexOutOfBoundsException"
    · replace hoc := (if_pos c4).symm.trans hoc
      subst c4
      refine r_callV h hMe (rest := [k_i (0), k_p 18 (a3)]) (as := [k_i (a2)]) (oc := .inr "java/lang/IndexOutOfBoundsException") (j_X7_weightFor la hla G _ (a1) (a2) _ q2) kl_L_68 dL_weightFor_4 rfl rfl rfl rfl rfl ⟨rfl, rfl, Nat.le_of_ble_eq_true rfl, Nat.le_of_ble_eq_true rfl, Nat.le_of_ble_eq_true rfl, Nat.le_of_ble_eq_true rfl, Nat.le_of_ble_eq_true rfl⟩ (fun E q => ?_) (fun r s q => by cases q)
      cases q
      refine k_catch h hEn [] [] (0, 9, 12, 21) rfl (fun z hz => by cases hz) (by decide) (by decide) (by decide) wd_422 (by decide) (fun t5 => ?_)
      refine r_astore_nR (L' := [some (k_p 0 (a1)), some (k_i (a2)), some (k_p 18 (a3)), some (k_r (t5))]) h dL_weightFor_12 (by decide) rfl ?_
      refine r_iconst (v := 1) h dL_weightFor_13 (by decide) ?_
      cases hoc
      exact r_ireturn h hEn dL_weightFor_14 rfl rfl rfl (by decide) (by decide)
    · replace hoc := (if_neg c4).symm.trans hoc
      cases hoc
def f_L_weightAgainst (σ : k_S) (a1 : Nat) (a2 : Int32) (a3 : Nat) : Option (Int32 × k_S) :=
  (k_bc (f_X7_weightAgainst σ (a1) (a2)) (fun v1 => some ((0, (k_uJ σ 18 (a3) (0) ((v1 : Int32).toInt64))))) (fun e3 => (if e3 = "java/lang/IndexOutOfBoundsException" then some ((1, σ)) else none)))
theorem j_L_weightAgainst (la : Launch) (hla : la.flags = flags0) (G : k_G) (σ : k_S) (a1 : Nat) (a2 : Int32) (a3 : Nat) (x : (Int32 × k_S)) (hoc : f_L_weightAgainst σ a1 a2 a3 = some x) : k_Ct la G yL_weightAgainst (Cond.codeWith yL_weightAgainst cL_weightAgainst 4 (Option.some ClassFile.FieldType.int) [((0 : Nat), (9 : Nat), (12 : Nat), (21 : Nat))] :: k_Tb) { frames := 9, cells := 1, slots := 6, locals := 145 } [k_p 0 (a1), k_i (a2), k_p 18 (a3)] σ (.inl (k_mI x.1, x.2)) 1 6 := by
  refine k_bodyH hla (by decide +kernel) (k_wl rfl) (Nat.le_of_ble_eq_true rfl) (fun X h hEn hMe => ?_)
  show k_W X σ 0 0 0 [some (k_p 0 (a1)), some (k_i (a2)), some (k_p 18 (a3)), none] []
  unfold f_L_weightAgainst at hoc
  refine r_aload_n h dL_weightAgainst_0 rfl ?_
  refine r_iconst (v := 0) h dL_weightAgainst_1 (by decide) ?_
  refine r_aload_n h dL_weightAgainst_2 rfl ?_
  refine r_iload_n h dL_weightAgainst_3 rfl ?_
  rcases k_bc_ex hoc with ⟨v1, q2, hoc⟩ | ⟨e3, q2, hoc⟩
  · refine r_callV h hMe (rest := [k_i (0), k_p 18 (a3)]) (as := [k_i (a2)]) (oc := .inl (k_mI v1, σ)) (j_X7_weightAgainst la hla G _ (a1) (a2) _ q2) kl_L_71 dL_weightAgainst_4 rfl rfl rfl rfl rfl ⟨rfl, rfl, Nat.le_of_ble_eq_true rfl, Nat.le_of_ble_eq_true rfl, Nat.le_of_ble_eq_true rfl, Nat.le_of_ble_eq_true rfl, Nat.le_of_ble_eq_true rfl⟩ (fun E q => by cases q) (fun r s q => ?_)
    cases q
    show k_W X _ _ _ _ _ ([k_i (v1), k_i (0), k_p 18 (a3)])
    refine r_i2l h dL_weightAgainst_7 ?_
    refine r_lastore (y := 0) (t := 0) (x := (v1 : Int32).toInt64) h dL_weightAgainst_8 rfl rfl rfl (by decide) (by decide) (by decide) ?_
    refine r_goto (tgt := 15) h dL_weightAgainst_9 (by decide) ?_
    refine r_iconst (v := 0) h dL_weightAgainst_15 (by decide) ?_
    cases hoc
    exact r_ireturn h hEn dL_weightAgainst_16 rfl rfl rfl (by decide) (by decide)
  · skip
    by_cases c4 : e3 = "java/lang/IndexOutOfBoundsException"
    · replace hoc := (if_pos c4).symm.trans hoc
      subst c4
      refine r_callV h hMe (rest := [k_i (0), k_p 18 (a3)]) (as := [k_i (a2)]) (oc := .inr "java/lang/IndexOutOfBoundsException") (j_X7_weightAgainst la hla G _ (a1) (a2) _ q2) kl_L_71 dL_weightAgainst_4 rfl rfl rfl rfl rfl ⟨rfl, rfl, Nat.le_of_ble_eq_true rfl, Nat.le_of_ble_eq_true rfl, Nat.le_of_ble_eq_true rfl, Nat.le_of_ble_eq_true rfl, Nat.le_of_ble_eq_true rfl⟩ (fun E q => ?_) (fun r s q => by cases q)
      cases q
      refine k_catch h hEn [] [] (0, 9, 12, 21) rfl (fun z hz => by cases hz) (by decide) (by decide) (by decide) wd_422 (by decide) (fun t5 => ?_)
      refine r_astore_nR (L' := [some (k_p 0 (a1)), some (k_i (a2)), some (k_p 18 (a3)), some (k_r (t5))]) h dL_weightAgainst_12 (by decide) rfl ?_
      refine r_iconst (v := 1) h dL_weightAgainst_13 (by decide) ?_
      cases hoc
      exact r_ireturn h hEn dL_weightAgainst_14 rfl rfl rfl (by decide) (by decide)
    · replace hoc := (if_neg c4).symm.trans hoc
      cases hoc
def f_L_setQuorum (σ : k_S) (a1 : Nat) (a2 : Int32) (a3 : Nat) : Option (Int32 × k_S) :=
  (k_bc (f_X7_setQuorum σ (a1) (a2)) (fun v1 => some ((0, (k_uJ v1.2 18 (a3) (0) ((v1.1 : Int32).toInt64))))) (fun e3 => (if e3 = "java/lang/IllegalArgumentException" then some ((1, σ)) else none)))
theorem j_L_setQuorum (la : Launch) (hla : la.flags = flags0) (G : k_G) (σ : k_S) (a1 : Nat) (a2 : Int32) (a3 : Nat) (x : (Int32 × k_S)) (hoc : f_L_setQuorum σ a1 a2 a3 = some x) : k_Ct la G yL_setQuorum (Cond.codeWith yL_setQuorum cL_setQuorum 4 (Option.some ClassFile.FieldType.int) [((0 : Nat), (9 : Nat), (12 : Nat), (13 : Nat))] :: k_Tb) { frames := 8, cells := 1, slots := 6, locals := 126 } [k_p 0 (a1), k_i (a2), k_p 18 (a3)] σ (.inl (k_mI x.1, x.2)) 1 6 := by
  refine k_bodyH hla (by decide +kernel) (k_wl rfl) (Nat.le_of_ble_eq_true rfl) (fun X h hEn hMe => ?_)
  show k_W X σ 0 0 0 [some (k_p 0 (a1)), some (k_i (a2)), some (k_p 18 (a3)), none] []
  unfold f_L_setQuorum at hoc
  refine r_aload_n h dL_setQuorum_0 rfl ?_
  refine r_iconst (v := 0) h dL_setQuorum_1 (by decide) ?_
  refine r_aload_n h dL_setQuorum_2 rfl ?_
  refine r_iload_n h dL_setQuorum_3 rfl ?_
  rcases k_bc_ex hoc with ⟨v1, q2, hoc⟩ | ⟨e3, q2, hoc⟩
  · refine r_callV h hMe (rest := [k_i (0), k_p 18 (a3)]) (as := [k_i (a2)]) (oc := .inl (k_mI v1.1, v1.2)) (j_X7_setQuorum la hla G _ (a1) (a2) _ q2) kl_L_74 dL_setQuorum_4 rfl rfl rfl rfl rfl ⟨rfl, rfl, Nat.le_of_ble_eq_true rfl, Nat.le_of_ble_eq_true rfl, Nat.le_of_ble_eq_true rfl, Nat.le_of_ble_eq_true rfl, Nat.le_of_ble_eq_true rfl⟩ (fun E q => by cases q) (fun r s q => ?_)
    cases q
    show k_W X _ _ _ _ _ ([k_i (v1.1), k_i (0), k_p 18 (a3)])
    refine r_i2l h dL_setQuorum_7 ?_
    refine r_lastore (y := 0) (t := 0) (x := (v1.1 : Int32).toInt64) h dL_setQuorum_8 rfl rfl rfl (by decide) (by decide) (by decide) ?_
    refine r_goto (tgt := 15) h dL_setQuorum_9 (by decide) ?_
    refine r_iconst (v := 0) h dL_setQuorum_15 (by decide) ?_
    cases hoc
    exact r_ireturn h hEn dL_setQuorum_16 rfl rfl rfl (by decide) (by decide)
  · skip
    by_cases c4 : e3 = "java/lang/IllegalArgumentException"
    · replace hoc := (if_pos c4).symm.trans hoc
      subst c4
      refine r_callV h hMe (rest := [k_i (0), k_p 18 (a3)]) (as := [k_i (a2)]) (oc := .inr "java/lang/IllegalArgumentException") (j_X7_setQuorum la hla G _ (a1) (a2) _ q2) kl_L_74 dL_setQuorum_4 rfl rfl rfl rfl rfl ⟨rfl, rfl, Nat.le_of_ble_eq_true rfl, Nat.le_of_ble_eq_true rfl, Nat.le_of_ble_eq_true rfl, Nat.le_of_ble_eq_true rfl, Nat.le_of_ble_eq_true rfl⟩ (fun E q => ?_) (fun r s q => by cases q)
      cases q
      refine k_catch h hEn [] [] (0, 9, 12, 13) rfl (fun z hz => by cases hz) (by decide) (by decide) (by decide) wd_227 (by decide) (fun t5 => ?_)
      refine r_astore_nR (L' := [some (k_p 0 (a1)), some (k_i (a2)), some (k_p 18 (a3)), some (k_r (t5))]) h dL_setQuorum_12 (by decide) rfl ?_
      refine r_iconst (v := 1) h dL_setQuorum_13 (by decide) ?_
      cases hoc
      exact r_ireturn h hEn dL_setQuorum_14 rfl rfl rfl (by decide) (by decide)
    · replace hoc := (if_neg c4).symm.trans hoc
      cases hoc
def f_L_precedent (σ : k_S) (a1 : Nat) (a2 : Int32) (a3 : Nat) : Option (Int32 × k_S) :=
  (k_bc (f_X7_precedent σ (a1) (a2)) (fun v1 => some ((0, (k_uJ σ 18 (a3) (0) ((v1 : Int32).toInt64))))) (fun e3 => (if e3 = "java/lang/IndexOutOfBoundsException" then some ((1, σ)) else (if e3 = "java/util/NoSuchElementException" then some ((2, σ)) else none))))
theorem j_L_precedent (la : Launch) (hla : la.flags = flags0) (G : k_G) (σ : k_S) (a1 : Nat) (a2 : Int32) (a3 : Nat) (x : (Int32 × k_S)) (hoc : f_L_precedent σ a1 a2 a3 = some x) : k_Ct la G yL_precedent (Cond.codeWith yL_precedent cL_precedent 4 (Option.some ClassFile.FieldType.int) [((0 : Nat), (9 : Nat), (12 : Nat), (21 : Nat)), ((0 : Nat), (9 : Nat), (15 : Nat), (31 : Nat))] :: k_Tb) { frames := 9, cells := 2, slots := 12, locals := 146 } [k_p 0 (a1), k_i (a2), k_p 18 (a3)] σ (.inl (k_mI x.1, x.2)) 2 12 := by
  refine k_bodyH hla (by decide +kernel) (k_wl rfl) (Nat.le_of_ble_eq_true rfl) (fun X h hEn hMe => ?_)
  show k_W X σ 0 0 0 [some (k_p 0 (a1)), some (k_i (a2)), some (k_p 18 (a3)), none] []
  unfold f_L_precedent at hoc
  refine r_aload_n h dL_precedent_0 rfl ?_
  refine r_iconst (v := 0) h dL_precedent_1 (by decide) ?_
  refine r_aload_n h dL_precedent_2 rfl ?_
  refine r_iload_n h dL_precedent_3 rfl ?_
  rcases k_bc_ex hoc with ⟨v1, q2, hoc⟩ | ⟨e3, q2, hoc⟩
  · refine r_callV h hMe (rest := [k_i (0), k_p 18 (a3)]) (as := [k_i (a2)]) (oc := .inl (k_mI v1, σ)) (j_X7_precedent la hla G _ (a1) (a2) _ q2) kl_L_77 dL_precedent_4 rfl rfl rfl rfl rfl ⟨rfl, rfl, Nat.le_of_ble_eq_true rfl, Nat.le_of_ble_eq_true rfl, Nat.le_of_ble_eq_true rfl, Nat.le_of_ble_eq_true rfl, Nat.le_of_ble_eq_true rfl⟩ (fun E q => by cases q) (fun r s q => ?_)
    cases q
    show k_W X _ _ _ _ _ ([k_i (v1), k_i (0), k_p 18 (a3)])
    refine r_i2l h dL_precedent_7 ?_
    refine r_lastore (y := 0) (t := 0) (x := (v1 : Int32).toInt64) h dL_precedent_8 rfl rfl rfl (by decide) (by decide) (by decide) ?_
    refine r_goto (tgt := 18) h dL_precedent_9 (by decide) ?_
    refine r_iconst (v := 0) h dL_precedent_18 (by decide) ?_
    cases hoc
    exact r_ireturn h hEn dL_precedent_19 rfl rfl rfl (by decide) (by decide)
  · skip
    by_cases c4 : e3 = "java/lang/IndexOutOfBoundsException"
    · replace hoc := (if_pos c4).symm.trans hoc
      subst c4
      refine r_callV h hMe (rest := [k_i (0), k_p 18 (a3)]) (as := [k_i (a2)]) (oc := .inr "java/lang/IndexOutOfBoundsException") (j_X7_precedent la hla G _ (a1) (a2) _ q2) kl_L_77 dL_precedent_4 rfl rfl rfl rfl rfl ⟨rfl, rfl, Nat.le_of_ble_eq_true rfl, Nat.le_of_ble_eq_true rfl, Nat.le_of_ble_eq_true rfl, Nat.le_of_ble_eq_true rfl, Nat.le_of_ble_eq_true rfl⟩ (fun E q => ?_) (fun r s q => by cases q)
      cases q
      refine k_catch h hEn [] [(0, 9, 15, 31)] (0, 9, 12, 21) rfl (fun z hz => by cases hz) (by decide) (by decide) (by decide) wd_422 (by decide) (fun t5 => ?_)
      refine r_astore_nR (L' := [some (k_p 0 (a1)), some (k_i (a2)), some (k_p 18 (a3)), some (k_r (t5))]) h dL_precedent_12 (by decide) rfl ?_
      refine r_iconst (v := 1) h dL_precedent_13 (by decide) ?_
      cases hoc
      exact r_ireturn h hEn dL_precedent_14 rfl rfl rfl (by decide) (by decide)
    · replace hoc := (if_neg c4).symm.trans hoc
      by_cases c6 : e3 = "java/util/NoSuchElementException"
      · replace hoc := (if_pos c6).symm.trans hoc
        subst c6
        refine r_callV h hMe (rest := [k_i (0), k_p 18 (a3)]) (as := [k_i (a2)]) (oc := .inr "java/util/NoSuchElementException") (j_X7_precedent la hla G _ (a1) (a2) _ q2) kl_L_77 dL_precedent_4 rfl rfl rfl rfl rfl ⟨rfl, rfl, Nat.le_of_ble_eq_true rfl, Nat.le_of_ble_eq_true rfl, Nat.le_of_ble_eq_true rfl, Nat.le_of_ble_eq_true rfl, Nat.le_of_ble_eq_true rfl⟩ (fun E q => ?_) (fun r s q => by cases q)
        cases q
        refine k_catch h hEn [(0, 9, 12, 21)] [] (0, 9, 15, 31) rfl (by intro z hz; simp only [List.mem_cons, List.not_mem_nil, or_false] at hz; rcases hz with rfl; exact ⟨by decide, "java/lang/IndexOutOfBoundsException", by decide, by decide, wd_422⟩) (by decide) (by decide) (by decide) wd_490 (by decide) (fun t7 => ?_)
        refine r_astore_nR (L' := [some (k_p 0 (a1)), some (k_i (a2)), some (k_p 18 (a3)), some (k_r (t7))]) h dL_precedent_15 (by decide) rfl ?_
        refine r_iconst (v := 2) h dL_precedent_16 (by decide) ?_
        cases hoc
        exact r_ireturn h hEn dL_precedent_17 rfl rfl rfl (by decide) (by decide)
      · replace hoc := (if_neg c6).symm.trans hoc
        cases hoc
def f_L_decide (σ : k_S) (a1 : Nat) (a2 : Int32) (a3 : Nat) : Option (Int32 × k_S) :=
  (k_bc (f_X7_decide σ (a1) (a2)) (fun v1 => some ((0, (k_uJ v1.2 18 (a3) (0) ((v1.1 : Int32).toInt64))))) (fun e3 => (if e3 = "java/lang/IndexOutOfBoundsException" then some ((1, σ)) else (if e3 = "java/lang/IllegalStateException" then some ((2, σ)) else (if e3 = "java/lang/UnsupportedOperationException" then some ((3, σ)) else none)))))
theorem j_L_decide (la : Launch) (hla : la.flags = flags0) (G : k_G) (σ : k_S) (a1 : Nat) (a2 : Int32) (a3 : Nat) (x : (Int32 × k_S)) (hoc : f_L_decide σ a1 a2 a3 = some x) : k_Ct la G yL_decide (Cond.codeWith yL_decide cL_decide 4 (Option.some ClassFile.FieldType.int) [((0 : Nat), (9 : Nat), (12 : Nat), (21 : Nat)), ((0 : Nat), (9 : Nat), (15 : Nat), (15 : Nat)), ((0 : Nat), (9 : Nat), (18 : Nat), (66 : Nat))] :: k_Tb) { frames := 10, cells := 6, slots := 619, locals := 304 } [k_p 0 (a1), k_i (a2), k_p 18 (a3)] σ (.inl (k_mI x.1, x.2)) 6 619 := by
  refine k_bodyH hla (by decide +kernel) (k_wl rfl) (Nat.le_of_ble_eq_true rfl) (fun X h hEn hMe => ?_)
  show k_W X σ 0 0 0 [some (k_p 0 (a1)), some (k_i (a2)), some (k_p 18 (a3)), none] []
  unfold f_L_decide at hoc
  refine r_aload_n h dL_decide_0 rfl ?_
  refine r_iconst (v := 0) h dL_decide_1 (by decide) ?_
  refine r_aload_n h dL_decide_2 rfl ?_
  refine r_iload_n h dL_decide_3 rfl ?_
  rcases k_bc_ex hoc with ⟨v1, q2, hoc⟩ | ⟨e3, q2, hoc⟩
  · refine r_callV h hMe (rest := [k_i (0), k_p 18 (a3)]) (as := [k_i (a2)]) (oc := .inl (k_mI v1.1, v1.2)) (j_X7_decide la hla G _ (a1) (a2) _ q2) kl_L_80 dL_decide_4 rfl rfl rfl rfl rfl ⟨rfl, rfl, Nat.le_of_ble_eq_true rfl, Nat.le_of_ble_eq_true rfl, Nat.le_of_ble_eq_true rfl, Nat.le_of_ble_eq_true rfl, Nat.le_of_ble_eq_true rfl⟩ (fun E q => by cases q) (fun r s q => ?_)
    cases q
    show k_W X _ _ _ _ _ ([k_i (v1.1), k_i (0), k_p 18 (a3)])
    refine r_i2l h dL_decide_7 ?_
    refine r_lastore (y := 0) (t := 0) (x := (v1.1 : Int32).toInt64) h dL_decide_8 rfl rfl rfl (by decide) (by decide) (by decide) ?_
    refine r_goto (tgt := 21) h dL_decide_9 (by decide) ?_
    refine r_iconst (v := 0) h dL_decide_21 (by decide) ?_
    cases hoc
    exact r_ireturn h hEn dL_decide_22 rfl rfl rfl (by decide) (by decide)
  · skip
    by_cases c4 : e3 = "java/lang/IndexOutOfBoundsException"
    · replace hoc := (if_pos c4).symm.trans hoc
      subst c4
      refine r_callV h hMe (rest := [k_i (0), k_p 18 (a3)]) (as := [k_i (a2)]) (oc := .inr "java/lang/IndexOutOfBoundsException") (j_X7_decide la hla G _ (a1) (a2) _ q2) kl_L_80 dL_decide_4 rfl rfl rfl rfl rfl ⟨rfl, rfl, Nat.le_of_ble_eq_true rfl, Nat.le_of_ble_eq_true rfl, Nat.le_of_ble_eq_true rfl, Nat.le_of_ble_eq_true rfl, Nat.le_of_ble_eq_true rfl⟩ (fun E q => ?_) (fun r s q => by cases q)
      cases q
      refine k_catch h hEn [] [(0, 9, 15, 15), (0, 9, 18, 66)] (0, 9, 12, 21) rfl (fun z hz => by cases hz) (by decide) (by decide) (by decide) wd_422 (by decide) (fun t5 => ?_)
      refine r_astore_nR (L' := [some (k_p 0 (a1)), some (k_i (a2)), some (k_p 18 (a3)), some (k_r (t5))]) h dL_decide_12 (by decide) rfl ?_
      refine r_iconst (v := 1) h dL_decide_13 (by decide) ?_
      cases hoc
      exact r_ireturn h hEn dL_decide_14 rfl rfl rfl (by decide) (by decide)
    · replace hoc := (if_neg c4).symm.trans hoc
      by_cases c6 : e3 = "java/lang/IllegalStateException"
      · replace hoc := (if_pos c6).symm.trans hoc
        subst c6
        refine r_callV h hMe (rest := [k_i (0), k_p 18 (a3)]) (as := [k_i (a2)]) (oc := .inr "java/lang/IllegalStateException") (j_X7_decide la hla G _ (a1) (a2) _ q2) kl_L_80 dL_decide_4 rfl rfl rfl rfl rfl ⟨rfl, rfl, Nat.le_of_ble_eq_true rfl, Nat.le_of_ble_eq_true rfl, Nat.le_of_ble_eq_true rfl, Nat.le_of_ble_eq_true rfl, Nat.le_of_ble_eq_true rfl⟩ (fun E q => ?_) (fun r s q => by cases q)
        cases q
        refine k_catch h hEn [(0, 9, 12, 21)] [(0, 9, 18, 66)] (0, 9, 15, 15) rfl (by intro z hz; simp only [List.mem_cons, List.not_mem_nil, or_false] at hz; rcases hz with rfl; exact ⟨by decide, "java/lang/IndexOutOfBoundsException", by decide, by decide, wd_422⟩) (by decide) (by decide) (by decide) wd_228 (by decide) (fun t7 => ?_)
        refine r_astore_nR (L' := [some (k_p 0 (a1)), some (k_i (a2)), some (k_p 18 (a3)), some (k_r (t7))]) h dL_decide_15 (by decide) rfl ?_
        refine r_iconst (v := 2) h dL_decide_16 (by decide) ?_
        cases hoc
        exact r_ireturn h hEn dL_decide_17 rfl rfl rfl (by decide) (by decide)
      · replace hoc := (if_neg c6).symm.trans hoc
        by_cases c8 : e3 = "java/lang/UnsupportedOperationException"
        · replace hoc := (if_pos c8).symm.trans hoc
          subst c8
          refine r_callV h hMe (rest := [k_i (0), k_p 18 (a3)]) (as := [k_i (a2)]) (oc := .inr "java/lang/UnsupportedOperationException") (j_X7_decide la hla G _ (a1) (a2) _ q2) kl_L_80 dL_decide_4 rfl rfl rfl rfl rfl ⟨rfl, rfl, Nat.le_of_ble_eq_true rfl, Nat.le_of_ble_eq_true rfl, Nat.le_of_ble_eq_true rfl, Nat.le_of_ble_eq_true rfl, Nat.le_of_ble_eq_true rfl⟩ (fun E q => ?_) (fun r s q => by cases q)
          cases q
          refine k_catch h hEn [(0, 9, 12, 21), (0, 9, 15, 15)] [] (0, 9, 18, 66) rfl (by intro z hz; simp only [List.mem_cons, List.not_mem_nil, or_false] at hz; rcases hz with rfl | rfl; exact ⟨by decide, "java/lang/IndexOutOfBoundsException", by decide, by decide, wd_422⟩; exact ⟨by decide, "java/lang/IllegalStateException", by decide, by decide, wd_228⟩) (by decide) (by decide) (by decide) wd_729 (by decide) (fun t9 => ?_)
          refine r_astore_nR (L' := [some (k_p 0 (a1)), some (k_i (a2)), some (k_p 18 (a3)), some (k_r (t9))]) h dL_decide_18 (by decide) rfl ?_
          refine r_iconst (v := 3) h dL_decide_19 (by decide) ?_
          cases hoc
          exact r_ireturn h hEn dL_decide_20 rfl rfl rfl (by decide) (by decide)
        · replace hoc := (if_neg c8).symm.trans hoc
          cases hoc
def f_L_outcome (σ : k_S) (a1 : Nat) (a2 : Int32) (a3 : Nat) : Option (Int32 × k_S) :=
  (k_bc (f_X7_outcome σ (a1) (a2)) (fun v1 => some ((0, (k_uJ σ 18 (a3) (0) ((v1 : Int32).toInt64))))) (fun e3 => (if e3 = "java/lang/IndexOutOfBoundsException" then some ((1, σ)) else (if e3 = "java/util/NoSuchElementException" then some ((2, σ)) else none))))
theorem j_L_outcome (la : Launch) (hla : la.flags = flags0) (G : k_G) (σ : k_S) (a1 : Nat) (a2 : Int32) (a3 : Nat) (x : (Int32 × k_S)) (hoc : f_L_outcome σ a1 a2 a3 = some x) : k_Ct la G yL_outcome (Cond.codeWith yL_outcome cL_outcome 4 (Option.some ClassFile.FieldType.int) [((0 : Nat), (9 : Nat), (12 : Nat), (21 : Nat)), ((0 : Nat), (9 : Nat), (15 : Nat), (31 : Nat))] :: k_Tb) { frames := 9, cells := 2, slots := 12, locals := 145 } [k_p 0 (a1), k_i (a2), k_p 18 (a3)] σ (.inl (k_mI x.1, x.2)) 2 12 := by
  refine k_bodyH hla (by decide +kernel) (k_wl rfl) (Nat.le_of_ble_eq_true rfl) (fun X h hEn hMe => ?_)
  show k_W X σ 0 0 0 [some (k_p 0 (a1)), some (k_i (a2)), some (k_p 18 (a3)), none] []
  unfold f_L_outcome at hoc
  refine r_aload_n h dL_outcome_0 rfl ?_
  refine r_iconst (v := 0) h dL_outcome_1 (by decide) ?_
  refine r_aload_n h dL_outcome_2 rfl ?_
  refine r_iload_n h dL_outcome_3 rfl ?_
  rcases k_bc_ex hoc with ⟨v1, q2, hoc⟩ | ⟨e3, q2, hoc⟩
  · refine r_callV h hMe (rest := [k_i (0), k_p 18 (a3)]) (as := [k_i (a2)]) (oc := .inl (k_mI v1, σ)) (j_X7_outcome la hla G _ (a1) (a2) _ q2) kl_L_83 dL_outcome_4 rfl rfl rfl rfl rfl ⟨rfl, rfl, Nat.le_of_ble_eq_true rfl, Nat.le_of_ble_eq_true rfl, Nat.le_of_ble_eq_true rfl, Nat.le_of_ble_eq_true rfl, Nat.le_of_ble_eq_true rfl⟩ (fun E q => by cases q) (fun r s q => ?_)
    cases q
    show k_W X _ _ _ _ _ ([k_i (v1), k_i (0), k_p 18 (a3)])
    refine r_i2l h dL_outcome_7 ?_
    refine r_lastore (y := 0) (t := 0) (x := (v1 : Int32).toInt64) h dL_outcome_8 rfl rfl rfl (by decide) (by decide) (by decide) ?_
    refine r_goto (tgt := 18) h dL_outcome_9 (by decide) ?_
    refine r_iconst (v := 0) h dL_outcome_18 (by decide) ?_
    cases hoc
    exact r_ireturn h hEn dL_outcome_19 rfl rfl rfl (by decide) (by decide)
  · skip
    by_cases c4 : e3 = "java/lang/IndexOutOfBoundsException"
    · replace hoc := (if_pos c4).symm.trans hoc
      subst c4
      refine r_callV h hMe (rest := [k_i (0), k_p 18 (a3)]) (as := [k_i (a2)]) (oc := .inr "java/lang/IndexOutOfBoundsException") (j_X7_outcome la hla G _ (a1) (a2) _ q2) kl_L_83 dL_outcome_4 rfl rfl rfl rfl rfl ⟨rfl, rfl, Nat.le_of_ble_eq_true rfl, Nat.le_of_ble_eq_true rfl, Nat.le_of_ble_eq_true rfl, Nat.le_of_ble_eq_true rfl, Nat.le_of_ble_eq_true rfl⟩ (fun E q => ?_) (fun r s q => by cases q)
      cases q
      refine k_catch h hEn [] [(0, 9, 15, 31)] (0, 9, 12, 21) rfl (fun z hz => by cases hz) (by decide) (by decide) (by decide) wd_422 (by decide) (fun t5 => ?_)
      refine r_astore_nR (L' := [some (k_p 0 (a1)), some (k_i (a2)), some (k_p 18 (a3)), some (k_r (t5))]) h dL_outcome_12 (by decide) rfl ?_
      refine r_iconst (v := 1) h dL_outcome_13 (by decide) ?_
      cases hoc
      exact r_ireturn h hEn dL_outcome_14 rfl rfl rfl (by decide) (by decide)
    · replace hoc := (if_neg c4).symm.trans hoc
      by_cases c6 : e3 = "java/util/NoSuchElementException"
      · replace hoc := (if_pos c6).symm.trans hoc
        subst c6
        refine r_callV h hMe (rest := [k_i (0), k_p 18 (a3)]) (as := [k_i (a2)]) (oc := .inr "java/util/NoSuchElementException") (j_X7_outcome la hla G _ (a1) (a2) _ q2) kl_L_83 dL_outcome_4 rfl rfl rfl rfl rfl ⟨rfl, rfl, Nat.le_of_ble_eq_true rfl, Nat.le_of_ble_eq_true rfl, Nat.le_of_ble_eq_true rfl, Nat.le_of_ble_eq_true rfl, Nat.le_of_ble_eq_true rfl⟩ (fun E q => ?_) (fun r s q => by cases q)
        cases q
        refine k_catch h hEn [(0, 9, 12, 21)] [] (0, 9, 15, 31) rfl (by intro z hz; simp only [List.mem_cons, List.not_mem_nil, or_false] at hz; rcases hz with rfl; exact ⟨by decide, "java/lang/IndexOutOfBoundsException", by decide, by decide, wd_422⟩) (by decide) (by decide) (by decide) wd_490 (by decide) (fun t7 => ?_)
        refine r_astore_nR (L' := [some (k_p 0 (a1)), some (k_i (a2)), some (k_p 18 (a3)), some (k_r (t7))]) h dL_outcome_15 (by decide) rfl ?_
        refine r_iconst (v := 2) h dL_outcome_16 (by decide) ?_
        cases hoc
        exact r_ireturn h hEn dL_outcome_17 rfl rfl rfl (by decide) (by decide)
      · replace hoc := (if_neg c6).symm.trans hoc
        cases hoc
