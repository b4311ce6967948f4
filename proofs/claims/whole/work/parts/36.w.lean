/-! ===== walks 6 (written by wip/whole/gen_walk.py, emit_walk.py) ===== -/
def f_X7_decide (σ : k_S) (i0 : Nat) (a1 : Int32) : Option ((Int32 × k_S) ⊕ String) :=
  (k_bt (f_X7_reportAt σ (i0) (a1)) fun v1 => (k_bt (f_X7_requireUndecided σ (v1)) fun v3 => ((f_X2_sumFor σ (v1)).bind fun v5 => ((f_X2_sumAgainst σ (v1)).bind fun v7 => (if k_I σ 0 (i0) (9) ≤ (v5 + v7) then (if k_I σ 5 (v1) (7) = (101 : Int32) then ((f_X7_settle σ (i0) (v1) (v5) (v7)).bind fun v18 => (if (1 : Int32) = 0 then (if k_isC (v18.1) = true then some (.inl (v18.1, v18.2)) else none) else ((f_X7_closeAppeal v18.2 (v1) (v18.1)).bind fun v22 => (if k_isC (v18.1) = true then some (.inl (v18.1, v22.2)) else none)))) else ((f_X7_settle σ (i0) (v1) (v5) (v7)).bind fun v11 => (if (0 : Int32) = 0 then (if k_isC (v11.1) = true then some (.inl (v11.1, v11.2)) else none) else ((f_X7_closeAppeal v11.2 (v1) (v11.1)).bind fun v15 => (if k_isC (v11.1) = true then some (.inl (v11.1, v15.2)) else none))))) else some (.inr "java/lang/UnsupportedOperationException"))))))
theorem j_X7_decide (la : Launch) (hla : la.flags = flags0) (G : k_G) (σ : k_S) (i0 : Nat) (a1 : Int32) (x : ((Int32 × k_S) ⊕ String)) (hoc : f_X7_decide σ i0 a1 = some x) : k_Ct la G yX7_decide (k_ws yX7_decide cX7_decide 7 (Option.some ClassFile.FieldType.char)) { frames := 9, cells := 6, slots := 619, locals := 278 } [k_p 0 (i0), k_i (a1)] σ (k_mc k_mI x) 6 619 := by
  refine k_body hla (by decide +kernel) (k_wl rfl) (Nat.le_of_ble_eq_true rfl) (fun X h hEn hMe => ?_)
  show k_W X σ 0 0 0 [some (k_p 0 (i0)), some (k_i (a1)), none, none, none, none, none] []
  unfold f_X7_decide at hoc
  refine r_aload_n h dX7_decide_0 rfl ?_
  refine r_iload_n h dX7_decide_1 rfl ?_
  rcases k_bt_ex hoc with ⟨v1, q2, hoc⟩ | ⟨e26, q2, hoc⟩
  · refine r_callV h hMe (rest := []) (as := [k_i (a1)]) (oc := .inl ((k_mR 5) v1, σ)) (j_X7_reportAt la hla G _ (i0) (a1) _ q2) kl_X7_104 dX7_decide_2 rfl rfl rfl rfl rfl ⟨rfl, rfl, Nat.le_of_ble_eq_true rfl, Nat.le_of_ble_eq_true rfl, Nat.le_of_ble_eq_true rfl, Nat.le_of_ble_eq_true rfl, Nat.le_of_ble_eq_true rfl⟩ (fun E q => by cases q) (fun r s q => ?_)
    cases q
    show k_W X _ _ _ _ _ ([k_p 5 (v1)])
    refine r_astore_n (L' := [some (k_p 0 (i0)), some (k_i (a1)), some (k_p 5 (v1)), none, none, none, none]) h dX7_decide_5 (by decide) rfl ?_
    refine r_aload_n h dX7_decide_6 rfl ?_
    rcases k_bt_ex hoc with ⟨v3, q4, hoc⟩ | ⟨e25, q4, hoc⟩
    · refine r_callS h hMe (rest := []) (as := [k_p 5 (v1)]) (oc := .inl (k_mU v3, σ)) (j_X7_requireUndecided la hla G _ (v1) _ q4) kl_X7_189 dX7_decide_7 rfl rfl  ⟨rfl, rfl, Nat.le_of_ble_eq_true rfl, Nat.le_of_ble_eq_true rfl, Nat.le_of_ble_eq_true rfl, Nat.le_of_ble_eq_true rfl, Nat.le_of_ble_eq_true rfl⟩ (fun E q => by cases q) (fun r s q => ?_)
      cases q
      show k_W X _ _ _ _ _ ([])
      refine r_aload_n h dX7_decide_10 rfl ?_
      obtain ⟨v5, q6, hoc⟩ := k_ob hoc
      refine r_callV h hMe (rest := []) (as := []) (oc := .inl (k_mI v5, σ)) (j_X2_sumFor la hla G _ (v1) _ q6) kl_X7_209 dX7_decide_11 rfl rfl rfl rfl rfl ⟨rfl, rfl, Nat.le_of_ble_eq_true rfl, Nat.le_of_ble_eq_true rfl, Nat.le_of_ble_eq_true rfl, Nat.le_of_ble_eq_true rfl, Nat.le_of_ble_eq_true rfl⟩ (fun E q => by cases q) (fun r s q => ?_)
      cases q
      show k_W X _ _ _ _ _ ([k_i (v5)])
      refine r_istore_n (L' := [some (k_p 0 (i0)), some (k_i (a1)), some (k_p 5 (v1)), some (k_i (v5)), none, none, none]) h dX7_decide_14 (by decide) rfl ?_
      refine r_aload_n h dX7_decide_15 rfl ?_
      obtain ⟨v7, q8, hoc⟩ := k_ob hoc
      refine r_callV h hMe (rest := []) (as := []) (oc := .inl (k_mI v7, σ)) (j_X2_sumAgainst la hla G _ (v1) _ q8) kl_X7_212 dX7_decide_16 rfl rfl rfl rfl rfl ⟨rfl, rfl, Nat.le_of_ble_eq_true rfl, Nat.le_of_ble_eq_true rfl, Nat.le_of_ble_eq_true rfl, Nat.le_of_ble_eq_true rfl, Nat.le_of_ble_eq_true rfl⟩ (fun E q => by cases q) (fun r s q => ?_)
      cases q
      show k_W X _ _ _ _ _ ([k_i (v7)])
      refine r_istore (L' := [some (k_p 0 (i0)), some (k_i (a1)), some (k_p 5 (v1)), some (k_i (v5)), some (k_i (v7)), none, none]) h dX7_decide_19 (by decide) rfl ?_
      refine r_iload_n h dX7_decide_21 rfl ?_
      refine r_iload h dX7_decide_22 rfl ?_
      refine r_iadd h dX7_decide_24 ?_
      refine r_aload_n h dX7_decide_25 rfl ?_
      refine r_getI h kf_X7_45 dX7_decide_26 rfl rfl (by decide) rfl ?_
      refine r_icmp_ge (tgt := 42) h dX7_decide_29 (by decide) (fun c9 => ?_) (fun c9 => ?_)
      · replace hoc := (if_pos c9).symm.trans hoc
        refine r_aload_n h dX7_decide_42 rfl ?_
        refine r_getI h kf_X7_185 dX7_decide_43 rfl rfl (by decide) rfl ?_
        refine r_bipush (v := 101) h dX7_decide_46 (by decide) ?_
        refine r_icmp_ne (tgt := 55) h dX7_decide_48 (by decide) (fun c10 => ?_) (fun c10 => ?_)
        · replace hoc := (if_neg c10).symm.trans hoc
          refine r_iconst (v := 0) h dX7_decide_55 (by decide) ?_
          refine r_istore (L' := [some (k_p 0 (i0)), some (k_i (a1)), some (k_p 5 (v1)), some (k_i (v5)), some (k_i (v7)), some (k_i (0)), none]) h dX7_decide_56 (by decide) rfl ?_
          refine r_aload_n h dX7_decide_58 rfl ?_
          refine r_aload_n h dX7_decide_59 rfl ?_
          refine r_iload_n h dX7_decide_60 rfl ?_
          refine r_iload h dX7_decide_61 rfl ?_
          obtain ⟨v11, q12, hoc⟩ := k_ob hoc
          refine r_callV h hMe (rest := []) (as := [k_p 5 (v1), k_i (v5), k_i (v7)]) (oc := .inl (k_mI v11.1, v11.2)) (j_X7_settle la hla G _ (i0) (v1) (v5) (v7) _ q12) kl_X7_181 dX7_decide_63 rfl rfl rfl rfl rfl ⟨rfl, rfl, Nat.le_of_ble_eq_true rfl, Nat.le_of_ble_eq_true rfl, Nat.le_of_ble_eq_true rfl, Nat.le_of_ble_eq_true rfl, Nat.le_of_ble_eq_true rfl⟩ (fun E q => by cases q) (fun r s q => ?_)
          cases q
          show k_W X _ _ _ _ _ ([k_i (v11.1)])
          refine r_istore (L' := [some (k_p 0 (i0)), some (k_i (a1)), some (k_p 5 (v1)), some (k_i (v5)), some (k_i (v7)), some (k_i (0)), some (k_i (v11.1))]) h dX7_decide_66 (by decide) rfl ?_
          refine r_iload h dX7_decide_68 rfl ?_
          refine r_if_eq (tgt := 79) h dX7_decide_70 (by decide) (fun c13 => ?_) (fun c13 => ?_)
          · replace hoc := (if_pos c13).symm.trans hoc
            refine r_iload h dX7_decide_79 rfl ?_
            obtain ⟨c14, hoc⟩ := k_gd hoc
            cases hoc
            exact r_ireturn h hEn dX7_decide_81 rfl (k_nC c14) rfl (by decide) (by decide)
          · replace hoc := (if_neg c13).symm.trans hoc
            refine r_aload_n h dX7_decide_73 rfl ?_
            refine r_iload h dX7_decide_74 rfl ?_
            obtain ⟨v15, q16, hoc⟩ := k_ob hoc
            refine r_callS h hMe (rest := []) (as := [k_p 5 (v1), k_i (v11.1)]) (oc := .inl (k_mU v15.1, v15.2)) (j_X7_closeAppeal la hla G _ (v1) (v11.1) _ q16) kl_X7_223 dX7_decide_76 rfl rfl  ⟨rfl, rfl, Nat.le_of_ble_eq_true rfl, Nat.le_of_ble_eq_true rfl, Nat.le_of_ble_eq_true rfl, Nat.le_of_ble_eq_true rfl, Nat.le_of_ble_eq_true rfl⟩ (fun E q => by cases q) (fun r s q => ?_)
            cases q
            show k_W X _ _ _ _ _ ([])
            refine r_iload h dX7_decide_79 rfl ?_
            obtain ⟨c17, hoc⟩ := k_gd hoc
            cases hoc
            exact r_ireturn h hEn dX7_decide_81 rfl (k_nC c17) rfl (by decide) (by decide)
        · replace hoc := (if_pos c10).symm.trans hoc
          refine r_iconst (v := 1) h dX7_decide_51 (by decide) ?_
          refine r_goto (tgt := 56) h dX7_decide_52 (by decide) ?_
          refine r_istore (L' := [some (k_p 0 (i0)), some (k_i (a1)), some (k_p 5 (v1)), some (k_i (v5)), some (k_i (v7)), some (k_i (1)), none]) h dX7_decide_56 (by decide) rfl ?_
          refine r_aload_n h dX7_decide_58 rfl ?_
          refine r_aload_n h dX7_decide_59 rfl ?_
          refine r_iload_n h dX7_decide_60 rfl ?_
          refine r_iload h dX7_decide_61 rfl ?_
          obtain ⟨v18, q19, hoc⟩ := k_ob hoc
          refine r_callV h hMe (rest := []) (as := [k_p 5 (v1), k_i (v5), k_i (v7)]) (oc := .inl (k_mI v18.1, v18.2)) (j_X7_settle la hla G _ (i0) (v1) (v5) (v7) _ q19) kl_X7_181 dX7_decide_63 rfl rfl rfl rfl rfl ⟨rfl, rfl, Nat.le_of_ble_eq_true rfl, Nat.le_of_ble_eq_true rfl, Nat.le_of_ble_eq_true rfl, Nat.le_of_ble_eq_true rfl, Nat.le_of_ble_eq_true rfl⟩ (fun E q => by cases q) (fun r s q => ?_)
          cases q
          show k_W X _ _ _ _ _ ([k_i (v18.1)])
          refine r_istore (L' := [some (k_p 0 (i0)), some (k_i (a1)), some (k_p 5 (v1)), some (k_i (v5)), some (k_i (v7)), some (k_i (1)), some (k_i (v18.1))]) h dX7_decide_66 (by decide) rfl ?_
          refine r_iload h dX7_decide_68 rfl ?_
          refine r_if_eq (tgt := 79) h dX7_decide_70 (by decide) (fun c20 => ?_) (fun c20 => ?_)
          · replace hoc := (if_pos c20).symm.trans hoc
            refine r_iload h dX7_decide_79 rfl ?_
            obtain ⟨c21, hoc⟩ := k_gd hoc
            cases hoc
            exact r_ireturn h hEn dX7_decide_81 rfl (k_nC c21) rfl (by decide) (by decide)
          · replace hoc := (if_neg c20).symm.trans hoc
            refine r_aload_n h dX7_decide_73 rfl ?_
            refine r_iload h dX7_decide_74 rfl ?_
            obtain ⟨v22, q23, hoc⟩ := k_ob hoc
            refine r_callS h hMe (rest := []) (as := [k_p 5 (v1), k_i (v18.1)]) (oc := .inl (k_mU v22.1, v22.2)) (j_X7_closeAppeal la hla G _ (v1) (v18.1) _ q23) kl_X7_223 dX7_decide_76 rfl rfl  ⟨rfl, rfl, Nat.le_of_ble_eq_true rfl, Nat.le_of_ble_eq_true rfl, Nat.le_of_ble_eq_true rfl, Nat.le_of_ble_eq_true rfl, Nat.le_of_ble_eq_true rfl⟩ (fun E q => by cases q) (fun r s q => ?_)
            cases q
            show k_W X _ _ _ _ _ ([])
            refine r_iload h dX7_decide_79 rfl ?_
            obtain ⟨c24, hoc⟩ := k_gd hoc
            cases hoc
            exact r_ireturn h hEn dX7_decide_81 rfl (k_nC c24) rfl (by decide) (by decide)
      · replace hoc := (if_neg c9).symm.trans hoc
        cases hoc
        exact r_throw h hEn hMe kt_X7_199_221 dX7_decide_32 dX7_decide_35 dX7_decide_36 dX7_decide_38 dX7_decide_41 rfl (by decide) (by decide) (by decide)
    · refine r_callS h hMe (rest := []) (as := [k_p 5 (v1)]) (oc := .inr e25) (j_X7_requireUndecided la hla G _ (v1) _ q4) kl_X7_189 dX7_decide_7 rfl rfl  ⟨rfl, rfl, Nat.le_of_ble_eq_true rfl, Nat.le_of_ble_eq_true rfl, Nat.le_of_ble_eq_true rfl, Nat.le_of_ble_eq_true rfl, Nat.le_of_ble_eq_true rfl⟩ (fun E q => ?_) (fun r s q => by cases q)
      cases q
      cases hoc
      exact k_T.out h hEn hMe rfl (by decide) (by decide)
  · refine r_callV h hMe (rest := []) (as := [k_i (a1)]) (oc := .inr e26) (j_X7_reportAt la hla G _ (i0) (a1) _ q2) kl_X7_104 dX7_decide_2 rfl rfl rfl rfl rfl ⟨rfl, rfl, Nat.le_of_ble_eq_true rfl, Nat.le_of_ble_eq_true rfl, Nat.le_of_ble_eq_true rfl, Nat.le_of_ble_eq_true rfl, Nat.le_of_ble_eq_true rfl⟩ (fun E q => ?_) (fun r s q => by cases q)
    cases q
    cases hoc
    exact k_T.out h hEn hMe rfl (by decide) (by decide)
def f_X7_requireStanding (σ : k_S) (a1 : Nat) : Option (Unit ⊕ String) :=
  (if k_I σ 5 (a1) (7) = (100 : Int32) then some (.inl (())) else some (.inr "java/util/NoSuchElementException"))
theorem j_X7_requireStanding (la : Launch) (hla : la.flags = flags0) (G : k_G) (σ : k_S) (a1 : Nat) (x : (Unit ⊕ String)) (hoc : f_X7_requireStanding σ a1 = some x) : k_Ct la G yX7_requireStanding (k_ws yX7_requireStanding cX7_requireStanding 1 (Option.none : Option ClassFile.FieldType)) { frames := 6, cells := 1, slots := 6, locals := 82 } [k_p 5 (a1)] σ (k_tc k_mU σ x) 1 6 := by
  refine k_body hla (by decide +kernel) (k_wl rfl) (Nat.le_of_ble_eq_true rfl) (fun X h hEn hMe => ?_)
  show k_W X σ 0 0 0 [some (k_p 5 (a1))] []
  unfold f_X7_requireStanding at hoc
  refine r_aload_n h dX7_requireStanding_0 rfl ?_
  refine r_getI h kf_X7_185 dX7_requireStanding_1 rfl rfl (by decide) rfl ?_
  refine r_bipush (v := 100) h dX7_requireStanding_4 (by decide) ?_
  refine r_icmp_eq (tgt := 20) h dX7_requireStanding_6 (by decide) (fun c1 => ?_) (fun c1 => ?_)
  · replace hoc := (if_pos c1).symm.trans hoc
    cases hoc
    exact r_return h hEn dX7_requireStanding_20 rfl rfl (by decide) (by decide)
  · replace hoc := (if_neg c1).symm.trans hoc
    cases hoc
    exact r_throwNW h hEn hMe kt_X7_112_320 dX7_requireStanding_9 dX7_requireStanding_12 dX7_requireStanding_13 dX7_requireStanding_16 dX7_requireStanding_19 rfl (by decide) (by decide) (by decide)
def f_X7_outcome (σ : k_S) (i0 : Nat) (a1 : Int32) : Option (Int32 ⊕ String) :=
  (k_bt (f_X7_reportAt σ (i0) (a1)) fun v1 => (k_bt (f_X7_requireStanding σ (v1)) fun v3 => ((k_P σ 0 (i0) (6)).bind fun j5 => ((f_X5_outcomeOf σ (j5) (a1)).bind fun v7 => (if k_isC (v7) = true then some (.inl (v7)) else none)))))
theorem j_X7_outcome (la : Launch) (hla : la.flags = flags0) (G : k_G) (σ : k_S) (i0 : Nat) (a1 : Int32) (x : (Int32 ⊕ String)) (hoc : f_X7_outcome σ i0 a1 = some x) : k_Ct la G yX7_outcome (k_ws yX7_outcome cX7_outcome 2 (Option.some ClassFile.FieldType.char)) { frames := 8, cells := 2, slots := 12, locals := 124 } [k_p 0 (i0), k_i (a1)] σ (k_tc k_mI σ x) 2 12 := by
  refine k_body hla (by decide +kernel) (k_wl rfl) (Nat.le_of_ble_eq_true rfl) (fun X h hEn hMe => ?_)
  show k_W X σ 0 0 0 [some (k_p 0 (i0)), some (k_i (a1))] []
  unfold f_X7_outcome at hoc
  refine r_aload_n h dX7_outcome_0 rfl ?_
  refine r_iload_n h dX7_outcome_1 rfl ?_
  rcases k_bt_ex hoc with ⟨v1, q2, hoc⟩ | ⟨e11, q2, hoc⟩
  · refine r_callV h hMe (rest := []) (as := [k_i (a1)]) (oc := .inl ((k_mR 5) v1, σ)) (j_X7_reportAt la hla G _ (i0) (a1) _ q2) kl_X7_104 dX7_outcome_2 rfl rfl rfl rfl rfl ⟨rfl, rfl, Nat.le_of_ble_eq_true rfl, Nat.le_of_ble_eq_true rfl, Nat.le_of_ble_eq_true rfl, Nat.le_of_ble_eq_true rfl, Nat.le_of_ble_eq_true rfl⟩ (fun E q => by cases q) (fun r s q => ?_)
    cases q
    show k_W X _ _ _ _ _ ([k_p 5 (v1)])
    rcases k_bt_ex hoc with ⟨v3, q4, hoc⟩ | ⟨e10, q4, hoc⟩
    · refine r_callS h hMe (rest := []) (as := [k_p 5 (v1)]) (oc := .inl (k_mU v3, σ)) (j_X7_requireStanding la hla G _ (v1) _ q4) kl_X7_227 dX7_outcome_5 rfl rfl  ⟨rfl, rfl, Nat.le_of_ble_eq_true rfl, Nat.le_of_ble_eq_true rfl, Nat.le_of_ble_eq_true rfl, Nat.le_of_ble_eq_true rfl, Nat.le_of_ble_eq_true rfl⟩ (fun E q => by cases q) (fun r s q => ?_)
      cases q
      show k_W X _ _ _ _ _ ([])
      refine r_aload_n h dX7_outcome_8 rfl ?_
      obtain ⟨j5, q6, hoc⟩ := k_ob hoc
      refine r_getR h kf_X7_34 dX7_outcome_9 rfl rfl (by decide) rfl (Eq.trans rfl q6) ?_
      refine r_iload_n h dX7_outcome_12 rfl ?_
      obtain ⟨v7, q8, hoc⟩ := k_ob hoc
      refine r_callV h hMe (rest := []) (as := [k_i (a1)]) (oc := .inl (k_mI v7, σ)) (j_X5_outcomeOf la hla G _ (j5) (a1) _ q8) kl_X7_230 dX7_outcome_13 rfl rfl rfl rfl rfl ⟨rfl, rfl, Nat.le_of_ble_eq_true rfl, Nat.le_of_ble_eq_true rfl, Nat.le_of_ble_eq_true rfl, Nat.le_of_ble_eq_true rfl, Nat.le_of_ble_eq_true rfl⟩ (fun E q => by cases q) (fun r s q => ?_)
      cases q
      show k_W X _ _ _ _ _ ([k_i (v7)])
      obtain ⟨c9, hoc⟩ := k_gd hoc
      cases hoc
      exact r_ireturn h hEn dX7_outcome_16 rfl (k_nC c9) rfl (by decide) (by decide)
    · refine r_callS h hMe (rest := []) (as := [k_p 5 (v1)]) (oc := .inr e10) (j_X7_requireStanding la hla G _ (v1) _ q4) kl_X7_227 dX7_outcome_5 rfl rfl  ⟨rfl, rfl, Nat.le_of_ble_eq_true rfl, Nat.le_of_ble_eq_true rfl, Nat.le_of_ble_eq_true rfl, Nat.le_of_ble_eq_true rfl, Nat.le_of_ble_eq_true rfl⟩ (fun E q => ?_) (fun r s q => by cases q)
      cases q
      cases hoc
      exact k_T.out h hEn hMe rfl (by decide) (by decide)
  · refine r_callV h hMe (rest := []) (as := [k_i (a1)]) (oc := .inr e11) (j_X7_reportAt la hla G _ (i0) (a1) _ q2) kl_X7_104 dX7_outcome_2 rfl rfl rfl rfl rfl ⟨rfl, rfl, Nat.le_of_ble_eq_true rfl, Nat.le_of_ble_eq_true rfl, Nat.le_of_ble_eq_true rfl, Nat.le_of_ble_eq_true rfl, Nat.le_of_ble_eq_true rfl⟩ (fun E q => ?_) (fun r s q => by cases q)
    cases q
    cases hoc
    exact k_T.out h hEn hMe rfl (by decide) (by decide)
def f_X7_settleAllAnew_l1 (t : Nat) (i0 : Nat) (σ : k_S) (x1 : Int32) : Option (Int32 × k_S) := match t with
  | 0 => none
  | t + 1 => (if k_P σ 0 (i0) (5) = some 0 then (if (nI (k_Z σ 17)) ≤ x1 then some ((x1, σ)) else (if 0 ≤ x1 ∧ (x1 : Int32).toNatClampNeg < k_Z σ 17 ∧ k_Z σ 17 ≤ 200 then ((k_P σ 17 (0) ((x1 : Int32).toNatClampNeg)).bind fun j9 => ((k_P σ 7 (j9) (0)).bind fun j11 => (if k_I σ 7 (j9) (1) = 0 then ((k_P σ 0 (i0) (7)).bind fun j14 => ((f_X7_findOutcome σ (i0) (j11) (k_I σ 7 (j9) (2)) (k_I σ 7 (j9) (3)) (j14)).bind fun v16 => ((f_X5_enter σ (j14) (k_I σ 5 (j11) (0)) (v16)).bind fun v18 => f_X7_settleAllAnew_l1 t i0 v18.2 ((x1 + 1))))) else ((k_P σ 0 (i0) (7)).bind fun j20 => ((f_X5_lift σ (j20) (k_I σ 5 (j11) (0))).bind fun v22 => f_X7_settleAllAnew_l1 t i0 v22.2 ((x1 + 1))))))) else none)) else none)
theorem j_X7_settleAllAnew_l1 (la : Launch) (hla : la.flags = flags0) (G : k_G) (X : k_X) (σ0 : k_S) (h : k_Ok X RX7 cX7_settleAllAnew 4) (hMe : k_Me X la G σ0 { frames := 5, cells := 0, slots := 0, locals := 125 } "settleAllAnew") (i0 : Nat) : ∀ (t : Nat) (σ : k_S) (x1 : Int32) (e : (Int32 × k_S)), f_X7_settleAllAnew_l1 t i0 σ x1 = some e → k_W X e.2 0 0 92 [some (k_p 0 (i0)), some (k_i (e.1)), none, none] [] → k_W X σ 0 0 9 [some (k_p 0 (i0)), some (k_i (x1)), none, none] [] := by
  intro t
  induction t with
  | zero =>
    intro σ x1 e hoc kk
    cases hoc
  | succ t ih =>
    intro σ x1 e hoc kk
    rw [f_X7_settleAllAnew_l1] at hoc
    refine r_iload_n h dX7_settleAllAnew_9 rfl ?_
    refine r_aload_n h dX7_settleAllAnew_10 rfl ?_
    obtain ⟨q6, hoc⟩ := k_gd hoc
    refine r_getR h kf_X7_28 dX7_settleAllAnew_11 rfl rfl (by decide) rfl (Eq.trans rfl q6) ?_
    refine r_callL h hMe (rest := [k_i (x1)]) (as := []) (j_size la hla G _ 17 rfl) kl_X7_52 dX7_settleAllAnew_14 rfl rfl rfl rfl ⟨rfl, rfl, Nat.le_of_ble_eq_true rfl, Nat.le_of_ble_eq_true rfl, Nat.le_of_ble_eq_true rfl, Nat.le_of_ble_eq_true rfl, Nat.le_of_ble_eq_true rfl⟩ (fun E q => by cases q) (fun r s q => ?_)
    cases q
    refine r_icmp_ge (tgt := 92) h dX7_settleAllAnew_17 (by decide) (fun c7 => ?_) (fun c7 => ?_)
    · replace hoc := (if_pos c7).symm.trans hoc
      cases hoc
      exact kk
    · replace hoc := (if_neg c7).symm.trans hoc
      refine r_aload_n h dX7_settleAllAnew_20 rfl ?_
      refine r_getR h kf_X7_28 dX7_settleAllAnew_21 rfl rfl (by decide) rfl (Eq.trans rfl q6) ?_
      refine r_iload_n h dX7_settleAllAnew_24 rfl ?_
      obtain ⟨c8, hoc⟩ := k_gd hoc
      obtain ⟨j9, q10, hoc⟩ := k_ob hoc
      refine r_lget h hla hMe (rest := []) c8 (Eq.trans rfl q10) rfl kl_X7_117 dX7_settleAllAnew_25 ⟨Nat.le_of_ble_eq_true rfl, Nat.le_of_ble_eq_true rfl, Nat.le_of_ble_eq_true rfl, Nat.le_of_ble_eq_true rfl, Nat.le_of_ble_eq_true rfl⟩ ?_
      refine r_cast1 h dX7_settleAllAnew_28 wd_166 rfl rfl rfl ?_
      refine r_astore_n (L' := [some (k_p 0 (i0)), some (k_i (x1)), some (k_p 7 (j9)), none]) h dX7_settleAllAnew_31 (by decide) rfl ?_
      refine r_aload_n h dX7_settleAllAnew_32 rfl ?_
      obtain ⟨j11, q12, hoc⟩ := k_ob hoc
      refine r_getR h kf_X7_379 dX7_settleAllAnew_33 rfl rfl (by decide) rfl (Eq.trans rfl q12) ?_
      refine r_astore_n (L' := [some (k_p 0 (i0)), some (k_i (x1)), some (k_p 7 (j9)), some (k_p 5 (j11))]) h dX7_settleAllAnew_36 (by decide) rfl ?_
      refine r_aload_n h dX7_settleAllAnew_37 rfl ?_
      refine r_getI h kf_X7_383 dX7_settleAllAnew_38 rfl rfl (by decide) rfl ?_
      refine r_if_eq (tgt := 58) h dX7_settleAllAnew_41 (by decide) (fun c13 => ?_) (fun c13 => ?_)
      · replace hoc := (if_pos c13).symm.trans hoc
        refine r_aload_n h dX7_settleAllAnew_58 rfl ?_
        obtain ⟨j14, q15, hoc⟩ := k_ob hoc
        refine r_getR h kf_X7_38 dX7_settleAllAnew_59 rfl rfl (by decide) rfl (Eq.trans rfl q15) ?_
        refine r_aload_n h dX7_settleAllAnew_62 rfl ?_
        refine r_getI h kf_X7_346 dX7_settleAllAnew_63 rfl rfl (by decide) rfl ?_
        refine r_aload_n h dX7_settleAllAnew_66 rfl ?_
        refine r_aload_n h dX7_settleAllAnew_67 rfl ?_
        refine r_aload_n h dX7_settleAllAnew_68 rfl ?_
        refine r_getI h kf_X7_386 dX7_settleAllAnew_69 rfl rfl (by decide) rfl ?_
        refine r_aload_n h dX7_settleAllAnew_72 rfl ?_
        refine r_getI h kf_X7_388 dX7_settleAllAnew_73 rfl rfl (by decide) rfl ?_
        refine r_aload_n h dX7_settleAllAnew_76 rfl ?_
        refine r_getR h kf_X7_38 dX7_settleAllAnew_77 rfl rfl (by decide) rfl (Eq.trans rfl q15) ?_
        obtain ⟨v16, q17, hoc⟩ := k_ob hoc
        refine r_callV h hMe (rest := [k_i (k_I σ 5 (j11) (0)), k_p 8 (j14)]) (as := [k_p 5 (j11), k_i (k_I σ 7 (j9) (2)), k_i (k_I σ 7 (j9) (3)), k_p 8 (j14)]) (oc := .inl (k_mI v16, σ)) (j_X7_findOutcome la hla G _ (i0) (j11) (k_I σ 7 (j9) (2)) (k_I σ 7 (j9) (3)) (j14) _ q17) kl_X7_355 dX7_settleAllAnew_80 rfl rfl rfl rfl rfl ⟨rfl, rfl, Nat.le_of_ble_eq_true rfl, Nat.le_of_ble_eq_true rfl, Nat.le_of_ble_eq_true rfl, Nat.le_of_ble_eq_true rfl, Nat.le_of_ble_eq_true rfl⟩ (fun E q => by cases q) (fun r s q => ?_)
        cases q
        show k_W X _ _ _ _ _ ([k_i (v16), k_i (k_I σ 5 (j11) (0)), k_p 8 (j14)])
        obtain ⟨v18, q19, hoc⟩ := k_ob hoc
        refine r_callV h hMe (rest := []) (as := [k_i (k_I σ 5 (j11) (0)), k_i (v16)]) (oc := .inl (k_mU v18.1, v18.2)) (j_X5_enter la hla G _ (j14) (k_I σ 5 (j11) (0)) (v16) _ q19) kl_X7_359 dX7_settleAllAnew_83 rfl rfl rfl rfl rfl ⟨rfl, rfl, Nat.le_of_ble_eq_true rfl, Nat.le_of_ble_eq_true rfl, Nat.le_of_ble_eq_true rfl, Nat.le_of_ble_eq_true rfl, Nat.le_of_ble_eq_true rfl⟩ (fun E q => by cases q) (fun r s q => ?_)
        cases q
        show k_W X _ _ _ _ _ ([])
        refine r_iinc (v := (x1 + 1)) (L' := [some (k_p 0 (i0)), some (k_i ((x1 + 1))), some (k_p 7 (j9)), some (k_p 5 (j11))]) h dX7_settleAllAnew_86 rfl rfl (by decide) rfl ?_
        refine r_goto (tgt := 9) h dX7_settleAllAnew_89 (by decide) ?_
        exact r_forget (L' := [some (k_p 0 (i0)), some (k_i ((x1 + 1))), none, none]) (k_le_ok ⟨rfl, ⟨rfl, trivial⟩⟩) (ih v18.2 ((x1 + 1)) _ hoc kk)
      · replace hoc := (if_neg c13).symm.trans hoc
        refine r_aload_n h dX7_settleAllAnew_44 rfl ?_
        obtain ⟨j20, q21, hoc⟩ := k_ob hoc
        refine r_getR h kf_X7_38 dX7_settleAllAnew_45 rfl rfl (by decide) rfl (Eq.trans rfl q21) ?_
        refine r_aload_n h dX7_settleAllAnew_48 rfl ?_
        refine r_getI h kf_X7_346 dX7_settleAllAnew_49 rfl rfl (by decide) rfl ?_
        obtain ⟨v22, q23, hoc⟩ := k_ob hoc
        refine r_callV h hMe (rest := []) (as := [k_i (k_I σ 5 (j11) (0))]) (oc := .inl (k_mU v22.1, v22.2)) (j_X5_lift la hla G _ (j20) (k_I σ 5 (j11) (0)) _ q23) kl_X7_251 dX7_settleAllAnew_52 rfl rfl rfl rfl rfl ⟨rfl, rfl, Nat.le_of_ble_eq_true rfl, Nat.le_of_ble_eq_true rfl, Nat.le_of_ble_eq_true rfl, Nat.le_of_ble_eq_true rfl, Nat.le_of_ble_eq_true rfl⟩ (fun E q => by cases q) (fun r s q => ?_)
        cases q
        show k_W X _ _ _ _ _ ([])
        refine r_goto (tgt := 86) h dX7_settleAllAnew_55 (by decide) ?_
        refine r_iinc (v := (x1 + 1)) (L' := [some (k_p 0 (i0)), some (k_i ((x1 + 1))), some (k_p 7 (j9)), some (k_p 5 (j11))]) h dX7_settleAllAnew_86 rfl rfl (by decide) rfl ?_
        refine r_goto (tgt := 9) h dX7_settleAllAnew_89 (by decide) ?_
        exact r_forget (L' := [some (k_p 0 (i0)), some (k_i ((x1 + 1))), none, none]) (k_le_ok ⟨rfl, ⟨rfl, trivial⟩⟩) (ih v22.2 ((x1 + 1)) _ hoc kk)
def f_X7_settleAllAnew (σ : k_S) (i0 : Nat) : Option (Unit × k_S) :=
  ((k_P σ 0 (i0) (7)).bind fun j1 => ((f_X5_wipe σ (j1)).bind fun v3 => ((f_X7_settleAllAnew_l1 200 i0 v3.2 (0)).bind fun v24 => some (((), v24.2)))))
theorem j_X7_settleAllAnew (la : Launch) (hla : la.flags = flags0) (G : k_G) (σ : k_S) (i0 : Nat) (x : (Unit × k_S)) (hoc : f_X7_settleAllAnew σ i0 = some x) : k_Ct la G yX7_settleAllAnew (k_ws yX7_settleAllAnew cX7_settleAllAnew 4 (Option.none : Option ClassFile.FieldType)) { frames := 5, cells := 0, slots := 0, locals := 125 } [k_p 0 (i0)] σ (.inl (k_mU x.1, x.2)) 0 0 := by
  refine k_body hla (by decide +kernel) (k_wl rfl) (Nat.le_of_ble_eq_true rfl) (fun X h hEn hMe => ?_)
  show k_W X σ 0 0 0 [some (k_p 0 (i0)), none, none, none] []
  unfold f_X7_settleAllAnew at hoc
  refine r_aload_n h dX7_settleAllAnew_0 rfl ?_
  obtain ⟨j1, q2, hoc⟩ := k_ob hoc
  refine r_getR h kf_X7_38 dX7_settleAllAnew_1 rfl rfl (by decide) rfl (Eq.trans rfl q2) ?_
  obtain ⟨v3, q4, hoc⟩ := k_ob hoc
  refine r_callV h hMe (rest := []) (as := []) (oc := .inl (k_mU v3.1, v3.2)) (j_X5_wipe la hla G _ (j1) _ q4) kl_X7_376 dX7_settleAllAnew_4 rfl rfl rfl rfl rfl ⟨rfl, rfl, Nat.le_of_ble_eq_true rfl, Nat.le_of_ble_eq_true rfl, Nat.le_of_ble_eq_true rfl, Nat.le_of_ble_eq_true rfl, Nat.le_of_ble_eq_true rfl⟩ (fun E q => by cases q) (fun r s q => ?_)
  cases q
  show k_W X _ _ _ _ _ ([])
  refine r_iconst (v := 0) h dX7_settleAllAnew_7 (by decide) ?_
  refine r_istore_n (L' := [some (k_p 0 (i0)), some (k_i (0)), none, none]) h dX7_settleAllAnew_8 (by decide) rfl ?_
  obtain ⟨v24, q25, hoc⟩ := k_ob hoc
  refine j_X7_settleAllAnew_l1 la hla G X σ h hMe i0 200 v3.2 (0) _ q25 ?_
  cases hoc
  exact r_return h hEn dX7_settleAllAnew_92 rfl rfl (by decide) (by decide)
def f_X7_outcomeAnew (σ : k_S) (i0 : Nat) (a1 : Int32) : Option ((Int32 × k_S) ⊕ String) :=
  (k_bt (f_X7_reportAt σ (i0) (a1)) fun v1 => (k_bt (f_X7_requireStanding σ (v1)) fun v3 => ((f_X7_settleAllAnew σ (i0)).bind fun v5 => ((k_P v5.2 0 (i0) (7)).bind fun j7 => ((f_X5_outcomeOf v5.2 (j7) (a1)).bind fun v9 => (if k_isC (v9) = true then some (.inl (v9, v5.2)) else none))))))
theorem j_X7_outcomeAnew (la : Launch) (hla : la.flags = flags0) (G : k_G) (σ : k_S) (i0 : Nat) (a1 : Int32) (x : ((Int32 × k_S) ⊕ String)) (hoc : f_X7_outcomeAnew σ i0 a1 = some x) : k_Ct la G yX7_outcomeAnew (k_ws yX7_outcomeAnew cX7_outcomeAnew 2 (Option.some ClassFile.FieldType.char)) { frames := 8, cells := 2, slots := 12, locals := 148 } [k_p 0 (i0), k_i (a1)] σ (k_mc k_mI x) 2 12 := by
  refine k_body hla (by decide +kernel) (k_wl rfl) (Nat.le_of_ble_eq_true rfl) (fun X h hEn hMe => ?_)
  show k_W X σ 0 0 0 [some (k_p 0 (i0)), some (k_i (a1))] []
  unfold f_X7_outcomeAnew at hoc
  refine r_aload_n h dX7_outcomeAnew_0 rfl ?_
  refine r_iload_n h dX7_outcomeAnew_1 rfl ?_
  rcases k_bt_ex hoc with ⟨v1, q2, hoc⟩ | ⟨e13, q2, hoc⟩
  · refine r_callV h hMe (rest := []) (as := [k_i (a1)]) (oc := .inl ((k_mR 5) v1, σ)) (j_X7_reportAt la hla G _ (i0) (a1) _ q2) kl_X7_104 dX7_outcomeAnew_2 rfl rfl rfl rfl rfl ⟨rfl, rfl, Nat.le_of_ble_eq_true rfl, Nat.le_of_ble_eq_true rfl, Nat.le_of_ble_eq_true rfl, Nat.le_of_ble_eq_true rfl, Nat.le_of_ble_eq_true rfl⟩ (fun E q => by cases q) (fun r s q => ?_)
    cases q
    show k_W X _ _ _ _ _ ([k_p 5 (v1)])
    rcases k_bt_ex hoc with ⟨v3, q4, hoc⟩ | ⟨e12, q4, hoc⟩
    · refine r_callS h hMe (rest := []) (as := [k_p 5 (v1)]) (oc := .inl (k_mU v3, σ)) (j_X7_requireStanding la hla G _ (v1) _ q4) kl_X7_227 dX7_outcomeAnew_5 rfl rfl  ⟨rfl, rfl, Nat.le_of_ble_eq_true rfl, Nat.le_of_ble_eq_true rfl, Nat.le_of_ble_eq_true rfl, Nat.le_of_ble_eq_true rfl, Nat.le_of_ble_eq_true rfl⟩ (fun E q => by cases q) (fun r s q => ?_)
      cases q
      show k_W X _ _ _ _ _ ([])
      refine r_aload_n h dX7_outcomeAnew_8 rfl ?_
      obtain ⟨v5, q6, hoc⟩ := k_ob hoc
      refine r_callV h hMe (rest := []) (as := []) (oc := .inl (k_mU v5.1, v5.2)) (j_X7_settleAllAnew la hla G _ (i0) _ q6) kl_X7_234 dX7_outcomeAnew_9 rfl rfl rfl rfl rfl ⟨rfl, rfl, Nat.le_of_ble_eq_true rfl, Nat.le_of_ble_eq_true rfl, Nat.le_of_ble_eq_true rfl, Nat.le_of_ble_eq_true rfl, Nat.le_of_ble_eq_true rfl⟩ (fun E q => by cases q) (fun r s q => ?_)
      cases q
      show k_W X _ _ _ _ _ ([])
      refine r_aload_n h dX7_outcomeAnew_12 rfl ?_
      obtain ⟨j7, q8, hoc⟩ := k_ob hoc
      refine r_getR h kf_X7_38 dX7_outcomeAnew_13 rfl rfl (by decide) rfl (Eq.trans rfl q8) ?_
      refine r_iload_n h dX7_outcomeAnew_16 rfl ?_
      obtain ⟨v9, q10, hoc⟩ := k_ob hoc
      refine r_callV h hMe (rest := []) (as := [k_i (a1)]) (oc := .inl (k_mI v9, v5.2)) (j_X5_outcomeOf la hla G _ (j7) (a1) _ q10) kl_X7_230 dX7_outcomeAnew_17 rfl rfl rfl rfl rfl ⟨rfl, rfl, Nat.le_of_ble_eq_true rfl, Nat.le_of_ble_eq_true rfl, Nat.le_of_ble_eq_true rfl, Nat.le_of_ble_eq_true rfl, Nat.le_of_ble_eq_true rfl⟩ (fun E q => by cases q) (fun r s q => ?_)
      cases q
      show k_W X _ _ _ _ _ ([k_i (v9)])
      obtain ⟨c11, hoc⟩ := k_gd hoc
      cases hoc
      exact r_ireturn h hEn dX7_outcomeAnew_20 rfl (k_nC c11) rfl (by decide) (by decide)
    · refine r_callS h hMe (rest := []) (as := [k_p 5 (v1)]) (oc := .inr e12) (j_X7_requireStanding la hla G _ (v1) _ q4) kl_X7_227 dX7_outcomeAnew_5 rfl rfl  ⟨rfl, rfl, Nat.le_of_ble_eq_true rfl, Nat.le_of_ble_eq_true rfl, Nat.le_of_ble_eq_true rfl, Nat.le_of_ble_eq_true rfl, Nat.le_of_ble_eq_true rfl⟩ (fun E q => ?_) (fun r s q => by cases q)
      cases q
      cases hoc
      exact k_T.out h hEn hMe rfl (by decide) (by decide)
  · refine r_callV h hMe (rest := []) (as := [k_i (a1)]) (oc := .inr e13) (j_X7_reportAt la hla G _ (i0) (a1) _ q2) kl_X7_104 dX7_outcomeAnew_2 rfl rfl rfl rfl rfl ⟨rfl, rfl, Nat.le_of_ble_eq_true rfl, Nat.le_of_ble_eq_true rfl, Nat.le_of_ble_eq_true rfl, Nat.le_of_ble_eq_true rfl, Nat.le_of_ble_eq_true rfl⟩ (fun E q => ?_) (fun r s q => by cases q)
    cases q
    cases hoc
    exact k_T.out h hEn hMe rfl (by decide) (by decide)
def f_X7_isByBot (σ : k_S) (i0 : Nat) (a1 : Int32) : Option (Int32 ⊕ String) :=
  (k_bt (f_X7_reportAt σ (i0) (a1)) fun v1 => (k_bt (f_X7_requireStanding σ (v1)) fun v3 => ((f_X2_standsByBot σ (v1)).bind fun v5 => (if v5 = 0 ∨ v5 = 1 then some (.inl (v5)) else none))))
theorem j_X7_isByBot (la : Launch) (hla : la.flags = flags0) (G : k_G) (σ : k_S) (i0 : Nat) (a1 : Int32) (x : (Int32 ⊕ String)) (hoc : f_X7_isByBot σ i0 a1 = some x) : k_Ct la G yX7_isByBot (k_ws yX7_isByBot cX7_isByBot 3 (Option.some ClassFile.FieldType.boolean)) { frames := 8, cells := 2, slots := 12, locals := 124 } [k_p 0 (i0), k_i (a1)] σ (k_tc k_mI σ x) 2 12 := by
  refine k_body hla (by decide +kernel) (k_wl rfl) (Nat.le_of_ble_eq_true rfl) (fun X h hEn hMe => ?_)
  show k_W X σ 0 0 0 [some (k_p 0 (i0)), some (k_i (a1)), none] []
  unfold f_X7_isByBot at hoc
  refine r_aload_n h dX7_isByBot_0 rfl ?_
  refine r_iload_n h dX7_isByBot_1 rfl ?_
  rcases k_bt_ex hoc with ⟨v1, q2, hoc⟩ | ⟨e9, q2, hoc⟩
  · refine r_callV h hMe (rest := []) (as := [k_i (a1)]) (oc := .inl ((k_mR 5) v1, σ)) (j_X7_reportAt la hla G _ (i0) (a1) _ q2) kl_X7_104 dX7_isByBot_2 rfl rfl rfl rfl rfl ⟨rfl, rfl, Nat.le_of_ble_eq_true rfl, Nat.le_of_ble_eq_true rfl, Nat.le_of_ble_eq_true rfl, Nat.le_of_ble_eq_true rfl, Nat.le_of_ble_eq_true rfl⟩ (fun E q => by cases q) (fun r s q => ?_)
    cases q
    show k_W X _ _ _ _ _ ([k_p 5 (v1)])
    refine r_astore_n (L' := [some (k_p 0 (i0)), some (k_i (a1)), some (k_p 5 (v1))]) h dX7_isByBot_5 (by decide) rfl ?_
    refine r_aload_n h dX7_isByBot_6 rfl ?_
    rcases k_bt_ex hoc with ⟨v3, q4, hoc⟩ | ⟨e8, q4, hoc⟩
    · refine r_callS h hMe (rest := []) (as := [k_p 5 (v1)]) (oc := .inl (k_mU v3, σ)) (j_X7_requireStanding la hla G _ (v1) _ q4) kl_X7_227 dX7_isByBot_7 rfl rfl  ⟨rfl, rfl, Nat.le_of_ble_eq_true rfl, Nat.le_of_ble_eq_true rfl, Nat.le_of_ble_eq_true rfl, Nat.le_of_ble_eq_true rfl, Nat.le_of_ble_eq_true rfl⟩ (fun E q => by cases q) (fun r s q => ?_)
      cases q
      show k_W X _ _ _ _ _ ([])
      refine r_aload_n h dX7_isByBot_10 rfl ?_
      obtain ⟨v5, q6, hoc⟩ := k_ob hoc
      refine r_callV h hMe (rest := []) (as := []) (oc := .inl (k_mI v5, σ)) (j_X2_standsByBot la hla G _ (v1) _ q6) kl_X7_237 dX7_isByBot_11 rfl rfl rfl rfl rfl ⟨rfl, rfl, Nat.le_of_ble_eq_true rfl, Nat.le_of_ble_eq_true rfl, Nat.le_of_ble_eq_true rfl, Nat.le_of_ble_eq_true rfl, Nat.le_of_ble_eq_true rfl⟩ (fun E q => by cases q) (fun r s q => ?_)
      cases q
      show k_W X _ _ _ _ _ ([k_i (v5)])
      obtain ⟨c7, hoc⟩ := k_gd hoc
      cases hoc
      exact r_ireturn h hEn dX7_isByBot_14 rfl (k_n01 c7) rfl (by decide) (by decide)
    · refine r_callS h hMe (rest := []) (as := [k_p 5 (v1)]) (oc := .inr e8) (j_X7_requireStanding la hla G _ (v1) _ q4) kl_X7_227 dX7_isByBot_7 rfl rfl  ⟨rfl, rfl, Nat.le_of_ble_eq_true rfl, Nat.le_of_ble_eq_true rfl, Nat.le_of_ble_eq_true rfl, Nat.le_of_ble_eq_true rfl, Nat.le_of_ble_eq_true rfl⟩ (fun E q => ?_) (fun r s q => by cases q)
      cases q
      cases hoc
      exact k_T.out h hEn hMe rfl (by decide) (by decide)
  · refine r_callV h hMe (rest := []) (as := [k_i (a1)]) (oc := .inr e9) (j_X7_reportAt la hla G _ (i0) (a1) _ q2) kl_X7_104 dX7_isByBot_2 rfl rfl rfl rfl rfl ⟨rfl, rfl, Nat.le_of_ble_eq_true rfl, Nat.le_of_ble_eq_true rfl, Nat.le_of_ble_eq_true rfl, Nat.le_of_ble_eq_true rfl, Nat.le_of_ble_eq_true rfl⟩ (fun E q => ?_) (fun r s q => by cases q)
    cases q
    cases hoc
    exact k_T.out h hEn hMe rfl (by decide) (by decide)
def f_X7_reportsInState_l1 (t : Nat) (i0 : Nat) (a1 : Int32) (σ : k_S) (x2 : Int32) (x3 : Int32) : Option (Int32 × Int32) := match t with
  | 0 => none
  | t + 1 => (if k_P σ 0 (i0) (3) = some 0 then (if (nI (k_Z σ 15)) ≤ x3 then some ((x2, x3)) else (if 0 ≤ x3 ∧ (x3 : Int32).toNatClampNeg < k_Z σ 15 ∧ k_Z σ 15 ≤ 200 then ((k_P σ 15 (0) ((x3 : Int32).toNatClampNeg)).bind fun j5 => (if k_I σ 5 (j5) (7) = a1 then f_X7_reportsInState_l1 t i0 a1 σ ((x2 + 1)) ((x3 + 1)) else f_X7_reportsInState_l1 t i0 a1 σ (x2) ((x3 + 1)))) else none)) else none)
theorem j_X7_reportsInState_l1 (la : Launch) (hla : la.flags = flags0) (G : k_G) (X : k_X) (σ0 σ : k_S) (h : k_Ok X RX7 cX7_reportsInState 4) (hMe : k_Me X la G σ0 { frames := 3, cells := 0, slots := 0, locals := 71 } "reportsInState") (i0 : Nat) (a1 : Int32) : ∀ (t : Nat) (x2 : Int32) (x3 : Int32) (e : (Int32 × Int32)), f_X7_reportsInState_l1 t i0 a1 σ x2 x3 = some e → k_W X σ 0 0 42 [some (k_p 0 (i0)), some (k_i (a1)), some (k_i (e.1)), some (k_i (e.2))] [] → k_W X σ 0 0 4 [some (k_p 0 (i0)), some (k_i (a1)), some (k_i (x2)), some (k_i (x3))] [] := by
  intro t
  induction t with
  | zero =>
    intro x2 x3 e hoc kk
    cases hoc
  | succ t ih =>
    intro x2 x3 e hoc kk
    rw [f_X7_reportsInState_l1] at hoc
    refine r_iload_n h dX7_reportsInState_4 rfl ?_
    refine r_aload_n h dX7_reportsInState_5 rfl ?_
    obtain ⟨q2, hoc⟩ := k_gd hoc
    refine r_getR h kf_X7_22 dX7_reportsInState_6 rfl rfl (by decide) rfl (Eq.trans rfl q2) ?_
    refine r_callL h hMe (rest := [k_i (x3)]) (as := []) (j_size la hla G _ 15 rfl) kl_X7_52 dX7_reportsInState_9 rfl rfl rfl rfl ⟨rfl, rfl, Nat.le_of_ble_eq_true rfl, Nat.le_of_ble_eq_true rfl, Nat.le_of_ble_eq_true rfl, Nat.le_of_ble_eq_true rfl, Nat.le_of_ble_eq_true rfl⟩ (fun E q => by cases q) (fun r s q => ?_)
    cases q
    refine r_icmp_ge (tgt := 42) h dX7_reportsInState_12 (by decide) (fun c3 => ?_) (fun c3 => ?_)
    · replace hoc := (if_pos c3).symm.trans hoc
      cases hoc
      exact kk
    · replace hoc := (if_neg c3).symm.trans hoc
      refine r_aload_n h dX7_reportsInState_15 rfl ?_
      refine r_getR h kf_X7_22 dX7_reportsInState_16 rfl rfl (by decide) rfl (Eq.trans rfl q2) ?_
      refine r_iload_n h dX7_reportsInState_19 rfl ?_
      obtain ⟨c4, hoc⟩ := k_gd hoc
      obtain ⟨j5, q6, hoc⟩ := k_ob hoc
      refine r_lget h hla hMe (rest := []) c4 (Eq.trans rfl q6) rfl kl_X7_117 dX7_reportsInState_20 ⟨Nat.le_of_ble_eq_true rfl, Nat.le_of_ble_eq_true rfl, Nat.le_of_ble_eq_true rfl, Nat.le_of_ble_eq_true rfl, Nat.le_of_ble_eq_true rfl⟩ ?_
      refine r_cast1 h dX7_reportsInState_23 wd_204 rfl rfl rfl ?_
      refine r_getI h kf_X7_185 dX7_reportsInState_26 rfl rfl (by decide) rfl ?_
      refine r_iload_n h dX7_reportsInState_29 rfl ?_
      refine r_icmp_ne (tgt := 36) h dX7_reportsInState_30 (by decide) (fun c7 => ?_) (fun c7 => ?_)
      · replace hoc := (if_neg c7).symm.trans hoc
        refine r_iinc (v := (x3 + 1)) (L' := [some (k_p 0 (i0)), some (k_i (a1)), some (k_i (x2)), some (k_i ((x3 + 1)))]) h dX7_reportsInState_36 rfl rfl (by decide) rfl ?_
        refine r_goto (tgt := 4) h dX7_reportsInState_39 (by decide) ?_
        exact r_forget (L' := [some (k_p 0 (i0)), some (k_i (a1)), some (k_i (x2)), some (k_i ((x3 + 1)))]) (k_le_ok ⟨rfl, ⟨rfl, ⟨rfl, ⟨rfl, trivial⟩⟩⟩⟩) (ih (x2) ((x3 + 1)) _ hoc kk)
      · replace hoc := (if_pos c7).symm.trans hoc
        refine r_iinc (v := (x2 + 1)) (L' := [some (k_p 0 (i0)), some (k_i (a1)), some (k_i ((x2 + 1))), some (k_i (x3))]) h dX7_reportsInState_33 rfl rfl (by decide) rfl ?_
        refine r_iinc (v := (x3 + 1)) (L' := [some (k_p 0 (i0)), some (k_i (a1)), some (k_i ((x2 + 1))), some (k_i ((x3 + 1)))]) h dX7_reportsInState_36 rfl rfl (by decide) rfl ?_
        refine r_goto (tgt := 4) h dX7_reportsInState_39 (by decide) ?_
        exact r_forget (L' := [some (k_p 0 (i0)), some (k_i (a1)), some (k_i ((x2 + 1))), some (k_i ((x3 + 1)))]) (k_le_ok ⟨rfl, ⟨rfl, ⟨rfl, ⟨rfl, trivial⟩⟩⟩⟩) (ih ((x2 + 1)) ((x3 + 1)) _ hoc kk)
def f_X7_reportsInState (σ : k_S) (i0 : Nat) (a1 : Int32) : Option Int32 :=
  ((f_X7_reportsInState_l1 200 i0 a1 σ (0) (0)).bind fun v8 => some (v8.1))
theorem j_X7_reportsInState (la : Launch) (hla : la.flags = flags0) (G : k_G) (σ : k_S) (i0 : Nat) (a1 : Int32) (x : Int32) (hoc : f_X7_reportsInState σ i0 a1 = some x) : k_Ct la G yX7_reportsInState (k_ws yX7_reportsInState cX7_reportsInState 4 (Option.some ClassFile.FieldType.int)) { frames := 3, cells := 0, slots := 0, locals := 71 } [k_p 0 (i0), k_i (a1)] σ (.inl (k_mI x, σ)) 0 0 := by
  refine k_body hla (by decide +kernel) (k_wl rfl) (Nat.le_of_ble_eq_true rfl) (fun X h hEn hMe => ?_)
  show k_W X σ 0 0 0 [some (k_p 0 (i0)), some (k_i (a1)), none, none] []
  unfold f_X7_reportsInState at hoc
  refine r_iconst (v := 0) h dX7_reportsInState_0 (by decide) ?_
  refine r_istore_n (L' := [some (k_p 0 (i0)), some (k_i (a1)), some (k_i (0)), none]) h dX7_reportsInState_1 (by decide) rfl ?_
  refine r_iconst (v := 0) h dX7_reportsInState_2 (by decide) ?_
  refine r_istore_n (L' := [some (k_p 0 (i0)), some (k_i (a1)), some (k_i (0)), some (k_i (0))]) h dX7_reportsInState_3 (by decide) rfl ?_
  obtain ⟨v8, q9, hoc⟩ := k_ob hoc
  refine j_X7_reportsInState_l1 la hla G X σ σ h hMe i0 a1 200 (0) (0) _ q9 ?_
  refine r_iload_n h dX7_reportsInState_42 rfl ?_
  cases hoc
  exact r_ireturn h hEn dX7_reportsInState_43 rfl rfl rfl (by decide) (by decide)
def f_X7_appeal (σ : k_S) (i0 : Nat) (a1 : Int32) : Option ((Int32 × k_S) ⊕ String) :=
  (k_bt (f_X7_reportAt σ (i0) (a1)) fun v1 => (if k_I σ 5 (v1) (7) = (100 : Int32) then (if k_I σ 5 (v1) (10) = 0 then ((k_P σ 0 (i0) (6)).bind fun j5 => ((f_X5_outcomeOf (k_uI (k_uI σ 5 (v1) (10) (1)) 5 (v1) (7) (101)) (j5) (a1)).bind fun v7 => (if k_isC (v7) = true then ((f_X5_lift (k_uI (k_uI (k_uI σ 5 (v1) (10) (1)) 5 (v1) (7) (101)) 5 (v1) (11) (v7)) (j5) (a1)).bind fun v10 => (if k_P v10.2 0 (i0) (5) = some 0 then ((f_X1_init (k_new v10.2 7) (k_N v10.2 7) (v1) (1) (0) (0)).bind fun v14 => (if k_Z v14.2 17 ≤ 200 then (k_on (k_P v14.2 5 (v1) (9)) (((f_X7_reportsInState (k_ladd v14.2 17 (k_N v10.2 7)) (i0) (101)).bind fun v19 => some (.inl (v19, (k_ladd v14.2 17 (k_N v10.2 7)))))) (fun j17 => ((f_X4_cutAt (k_ladd v14.2 17 (k_N v10.2 7)) (j17) (k_I v14.2 0 (i0) (8))).bind fun v21 => ((f_X7_reportsInState v21.2 (i0) (101)).bind fun v23 => some (.inl (v23, v21.2)))))) else none)) else none)) else none))) else some (.inr "java/lang/UnsupportedOperationException")) else some (.inr "java/lang/IllegalStateException")))
theorem j_X7_appeal (la : Launch) (hla : la.flags = flags0) (G : k_G) (σ : k_S) (i0 : Nat) (a1 : Int32) (x : ((Int32 × k_S) ⊕ String)) (hoc : f_X7_appeal σ i0 a1 = some x) : k_Ct la G yX7_appeal (k_ws yX7_appeal cX7_appeal 3 (Option.some ClassFile.FieldType.int)) { frames := 8, cells := 3, slots := 310, locals := 231 } [k_p 0 (i0), k_i (a1)] σ (k_mc k_mI x) 3 310 := by
  refine k_body hla (by decide +kernel) (k_wl rfl) (Nat.le_of_ble_eq_true rfl) (fun X h hEn hMe => ?_)
  show k_W X σ 0 0 0 [some (k_p 0 (i0)), some (k_i (a1)), none] []
  unfold f_X7_appeal at hoc
  refine r_aload_n h dX7_appeal_0 rfl ?_
  refine r_iload_n h dX7_appeal_1 rfl ?_
  rcases k_bt_ex hoc with ⟨v1, q2, hoc⟩ | ⟨e25, q2, hoc⟩
  · refine r_callV h hMe (rest := []) (as := [k_i (a1)]) (oc := .inl ((k_mR 5) v1, σ)) (j_X7_reportAt la hla G _ (i0) (a1) _ q2) kl_X7_104 dX7_appeal_2 rfl rfl rfl rfl rfl ⟨rfl, rfl, Nat.le_of_ble_eq_true rfl, Nat.le_of_ble_eq_true rfl, Nat.le_of_ble_eq_true rfl, Nat.le_of_ble_eq_true rfl, Nat.le_of_ble_eq_true rfl⟩ (fun E q => by cases q) (fun r s q => ?_)
    cases q
    show k_W X _ _ _ _ _ ([k_p 5 (v1)])
    refine r_astore_n (L' := [some (k_p 0 (i0)), some (k_i (a1)), some (k_p 5 (v1))]) h dX7_appeal_5 (by decide) rfl ?_
    refine r_aload_n h dX7_appeal_6 rfl ?_
    refine r_getI h kf_X7_185 dX7_appeal_7 rfl rfl (by decide) rfl ?_
    refine r_bipush (v := 100) h dX7_appeal_10 (by decide) ?_
    refine r_icmp_eq (tgt := 25) h dX7_appeal_12 (by decide) (fun c3 => ?_) (fun c3 => ?_)
    · replace hoc := (if_pos c3).symm.trans hoc
      refine r_aload_n h dX7_appeal_25 rfl ?_
      refine r_getI h kf_X7_242 dX7_appeal_26 rfl rfl (by decide) rfl ?_
      refine r_if_eq (tgt := 42) h dX7_appeal_29 (by decide) (fun c4 => ?_) (fun c4 => ?_)
      · replace hoc := (if_pos c4).symm.trans hoc
        refine r_aload_n h dX7_appeal_42 rfl ?_
        refine r_iconst (v := 1) h dX7_appeal_43 (by decide) ?_
        refine r_putI (x := 1) h kp_X7_242 dX7_appeal_44 rfl rfl (by decide) rfl rfl ⟨by decide, by decide⟩ ?_
        refine r_aload_n h dX7_appeal_47 rfl ?_
        refine r_bipush (v := 101) h dX7_appeal_48 (by decide) ?_
        refine r_putI (x := 101) h kp_X7_185 dX7_appeal_50 rfl rfl (by decide) rfl rfl ⟨by decide, by decide⟩ ?_
        refine r_aload_n h dX7_appeal_53 rfl ?_
        refine r_aload_n h dX7_appeal_54 rfl ?_
        obtain ⟨j5, q6, hoc⟩ := k_ob hoc
        refine r_getR h kf_X7_34 dX7_appeal_55 rfl rfl (by decide) rfl (Eq.trans rfl q6) ?_
        refine r_iload_n h dX7_appeal_58 rfl ?_
        obtain ⟨v7, q8, hoc⟩ := k_ob hoc
        refine r_callV h hMe (rest := [k_p 5 (v1)]) (as := [k_i (a1)]) (oc := .inl (k_mI v7, (k_uI (k_uI σ 5 (v1) (10) (1)) 5 (v1) (7) (101)))) (j_X5_outcomeOf la hla G _ (j5) (a1) _ q8) kl_X7_230 dX7_appeal_59 rfl rfl rfl rfl rfl ⟨rfl, rfl, Nat.le_of_ble_eq_true rfl, Nat.le_of_ble_eq_true rfl, Nat.le_of_ble_eq_true rfl, Nat.le_of_ble_eq_true rfl, Nat.le_of_ble_eq_true rfl⟩ (fun E q => by cases q) (fun r s q => ?_)
        cases q
        show k_W X _ _ _ _ _ ([k_i (v7), k_p 5 (v1)])
        obtain ⟨c9, hoc⟩ := k_gd hoc
        refine r_putI (x := v7) h kp_X7_248 dX7_appeal_62 rfl rfl (by decide) rfl rfl (k_fC c9) ?_
        refine r_aload_n h dX7_appeal_65 rfl ?_
        refine r_getR h kf_X7_34 dX7_appeal_66 rfl rfl (by decide) rfl (Eq.trans rfl q6) ?_
        refine r_iload_n h dX7_appeal_69 rfl ?_
        obtain ⟨v10, q11, hoc⟩ := k_ob hoc
        refine r_callV h hMe (rest := []) (as := [k_i (a1)]) (oc := .inl (k_mU v10.1, v10.2)) (j_X5_lift la hla G _ (j5) (a1) _ q11) kl_X7_251 dX7_appeal_70 rfl rfl rfl rfl rfl ⟨rfl, rfl, Nat.le_of_ble_eq_true rfl, Nat.le_of_ble_eq_true rfl, Nat.le_of_ble_eq_true rfl, Nat.le_of_ble_eq_true rfl, Nat.le_of_ble_eq_true rfl⟩ (fun E q => by cases q) (fun r s q => ?_)
        cases q
        show k_W X _ _ _ _ _ ([])
        refine r_aload_n h dX7_appeal_73 rfl ?_
        obtain ⟨q13, hoc⟩ := k_gd hoc
        refine r_getR h kf_X7_28 dX7_appeal_74 rfl rfl (by decide) rfl (Eq.trans rfl q13) ?_
        refine r_new h hMe 7 kn_X7_254 dX7_appeal_77 (by decide) ?_
        refine r_dup h dX7_appeal_80 rfl ?_
        refine r_aload_n h dX7_appeal_81 rfl ?_
        refine r_iconst (v := 1) h dX7_appeal_82 (by decide) ?_
        refine r_iconst (v := 0) h dX7_appeal_83 (by decide) ?_
        refine r_iconst (v := 0) h dX7_appeal_84 (by decide) ?_
        obtain ⟨v14, q15, hoc⟩ := k_ob hoc
        refine r_callI h hMe (rest := [k_p 7 (k_N v10.2 7), k_p 17 (0)]) (as := [k_p 5 (v1), k_i (1), k_i (0), k_i (0)]) (oc := .inl (k_mU v14.1, v14.2)) (j_X1_init la hla G _ (k_N v10.2 7) (v1) (1) (0) (0) _ q15) kl_X7_256 dX7_appeal_85 rfl rfl  ⟨rfl, rfl, Nat.le_of_ble_eq_true rfl, Nat.le_of_ble_eq_true rfl, Nat.le_of_ble_eq_true rfl, Nat.le_of_ble_eq_true rfl, Nat.le_of_ble_eq_true rfl⟩ (fun E q => by cases q) (fun r s q => ?_)
        cases q
        show k_W X _ _ _ _ _ ([k_p 7 (k_N v10.2 7), k_p 17 (0)])
        obtain ⟨c16, hoc⟩ := k_gd hoc
        refine r_callL h hMe (rest := []) (as := [k_p 7 (k_N v10.2 7)]) (j_add la hla G _ 17 _ rfl (Nat.le_trans (Nat.le_of_eq rfl) c16)) kl_X7_65 dX7_appeal_88 rfl rfl rfl rfl ⟨rfl, rfl, Nat.le_of_ble_eq_true rfl, Nat.le_of_ble_eq_true rfl, Nat.le_of_ble_eq_true rfl, Nat.le_of_ble_eq_true rfl, Nat.le_of_ble_eq_true rfl⟩ (fun E q => by cases q) (fun r s q => ?_)
        cases q
        refine r_pop h dX7_appeal_91 rfl ?_
        refine r_aload_n h dX7_appeal_92 rfl ?_
        rcases q18 : k_P v14.2 5 (v1) (9) with _ | j17
        · replace hoc := (k_on_n q18).symm.trans hoc
          refine r_getN h kf_X7_259 dX7_appeal_93 rfl rfl (by decide) rfl (Eq.trans (k_Pa (by decide)) q18) ?_
          refine r_ifnullN (tgt := 110) h dX7_appeal_96 (by decide) ?_
          refine r_aload_n h dX7_appeal_110 rfl ?_
          refine r_bipush (v := 101) h dX7_appeal_111 (by decide) ?_
          obtain ⟨v19, q20, hoc⟩ := k_ob hoc
          refine r_callV h hMe (rest := []) (as := [k_i (101)]) (oc := .inl (k_mI v19, (k_ladd v14.2 17 (k_N v10.2 7)))) (j_X7_reportsInState la hla G _ (i0) (101) _ q20) kl_X7_266 dX7_appeal_113 rfl rfl rfl rfl rfl ⟨rfl, rfl, Nat.le_of_ble_eq_true rfl, Nat.le_of_ble_eq_true rfl, Nat.le_of_ble_eq_true rfl, Nat.le_of_ble_eq_true rfl, Nat.le_of_ble_eq_true rfl⟩ (fun E q => by cases q) (fun r s q => ?_)
          cases q
          show k_W X _ _ _ _ _ ([k_i (v19)])
          cases hoc
          exact r_ireturn h hEn dX7_appeal_116 rfl rfl rfl (by decide) (by decide)
        · replace hoc := (k_on_s q18).symm.trans hoc
          refine r_getR h kf_X7_259 dX7_appeal_93 rfl rfl (by decide) rfl (Eq.trans (k_Pa (by decide)) q18) ?_
          refine r_ifnull h dX7_appeal_96 ?_
          refine r_aload_n h dX7_appeal_99 rfl ?_
          refine r_getR h kf_X7_259 dX7_appeal_100 rfl rfl (by decide) rfl (Eq.trans (k_Pa (by decide)) q18) ?_
          refine r_aload_n h dX7_appeal_103 rfl ?_
          refine r_getI h kf_X7_41 dX7_appeal_104 rfl rfl (by decide) rfl ?_
          refine r_eqI rfl ?_
          obtain ⟨v21, q22, hoc⟩ := k_ob hoc
          refine r_callV h hMe (rest := []) (as := [k_i (k_I v14.2 0 (i0) (8))]) (oc := .inl (k_mU v21.1, v21.2)) (j_X4_cutAt la hla G _ (j17) (k_I v14.2 0 (i0) (8)) _ q22) kl_X7_263 dX7_appeal_107 rfl rfl rfl rfl rfl ⟨rfl, rfl, Nat.le_of_ble_eq_true rfl, Nat.le_of_ble_eq_true rfl, Nat.le_of_ble_eq_true rfl, Nat.le_of_ble_eq_true rfl, Nat.le_of_ble_eq_true rfl⟩ (fun E q => by cases q) (fun r s q => ?_)
          cases q
          show k_W X _ _ _ _ _ ([])
          refine r_aload_n h dX7_appeal_110 rfl ?_
          refine r_bipush (v := 101) h dX7_appeal_111 (by decide) ?_
          obtain ⟨v23, q24, hoc⟩ := k_ob hoc
          refine r_callV h hMe (rest := []) (as := [k_i (101)]) (oc := .inl (k_mI v23, v21.2)) (j_X7_reportsInState la hla G _ (i0) (101) _ q24) kl_X7_266 dX7_appeal_113 rfl rfl rfl rfl rfl ⟨rfl, rfl, Nat.le_of_ble_eq_true rfl, Nat.le_of_ble_eq_true rfl, Nat.le_of_ble_eq_true rfl, Nat.le_of_ble_eq_true rfl, Nat.le_of_ble_eq_true rfl⟩ (fun E q => by cases q) (fun r s q => ?_)
          cases q
          show k_W X _ _ _ _ _ ([k_i (v23)])
          cases hoc
          exact r_ireturn h hEn dX7_appeal_116 rfl rfl rfl (by decide) (by decide)
      · replace hoc := (if_neg c4).symm.trans hoc
        cases hoc
        exact r_throw h hEn hMe kt_X7_199_246 dX7_appeal_32 dX7_appeal_35 dX7_appeal_36 dX7_appeal_38 dX7_appeal_41 rfl (by decide) (by decide) (by decide)
    · replace hoc := (if_neg c3).symm.trans hoc
      cases hoc
      exact r_throw h hEn hMe kt_X7_86_240 dX7_appeal_15 dX7_appeal_18 dX7_appeal_19 dX7_appeal_21 dX7_appeal_24 rfl (by decide) (by decide) (by decide)
  · refine r_callV h hMe (rest := []) (as := [k_i (a1)]) (oc := .inr e25) (j_X7_reportAt la hla G _ (i0) (a1) _ q2) kl_X7_104 dX7_appeal_2 rfl rfl rfl rfl rfl ⟨rfl, rfl, Nat.le_of_ble_eq_true rfl, Nat.le_of_ble_eq_true rfl, Nat.le_of_ble_eq_true rfl, Nat.le_of_ble_eq_true rfl, Nat.le_of_ble_eq_true rfl⟩ (fun E q => ?_) (fun r s q => by cases q)
    cases q
    cases hoc
    exact k_T.out h hEn hMe rfl (by decide) (by decide)
