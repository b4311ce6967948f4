/-! ===== walks 5 (written by wip/whole/gen_walk.py, emit_walk.py) ===== -/
def f_X7_state (σ : k_S) (i0 : Nat) (a1 : Int32) : Option (Int32 ⊕ String) :=
  (k_bt (f_X7_reportAt σ (i0) (a1)) fun v1 => (if k_isC (k_I σ 5 (v1) (7)) = true then some (.inl (k_I σ 5 (v1) (7))) else none))
theorem j_X7_state (la : Launch) (hla : la.flags = flags0) (G : k_G) (σ : k_S) (i0 : Nat) (a1 : Int32) (x : (Int32 ⊕ String)) (hoc : f_X7_state σ i0 a1 = some x) : k_Ct la G yX7_state (k_ws yX7_state cX7_state 2 (Option.some ClassFile.FieldType.char)) { frames := 8, cells := 1, slots := 6, locals := 124 } [k_p 0 (i0), k_i (a1)] σ (k_tc k_mI σ x) 1 6 := by
  refine k_body hla (by decide +kernel) (k_wl rfl) (Nat.le_of_ble_eq_true rfl) (fun X h hEn hMe => ?_)
  show k_W X σ 0 0 0 [some (k_p 0 (i0)), some (k_i (a1))] []
  unfold f_X7_state at hoc
  refine r_aload_n h dX7_state_0 rfl ?_
  refine r_iload_n h dX7_state_1 rfl ?_
  rcases k_bt_ex hoc with ⟨v1, q2, hoc⟩ | ⟨e4, q2, hoc⟩
  · refine r_callV h hMe (rest := []) (as := [k_i (a1)]) (oc := .inl ((k_mR 5) v1, σ)) (j_X7_reportAt la hla G _ (i0) (a1) _ q2) kl_X7_104 dX7_state_2 rfl rfl rfl rfl rfl ⟨rfl, rfl, Nat.le_of_ble_eq_true rfl, Nat.le_of_ble_eq_true rfl, Nat.le_of_ble_eq_true rfl, Nat.le_of_ble_eq_true rfl, Nat.le_of_ble_eq_true rfl⟩ (fun E q => by cases q) (fun r s q => ?_)
    cases q
    show k_W X _ _ _ _ _ ([k_p 5 (v1)])
    refine r_getI h kf_X7_185 dX7_state_5 rfl rfl (by decide) rfl ?_
    obtain ⟨c3, hoc⟩ := k_gd hoc
    cases hoc
    exact r_ireturn h hEn dX7_state_8 rfl (k_nC c3) rfl (by decide) (by decide)
  · refine r_callV h hMe (rest := []) (as := [k_i (a1)]) (oc := .inr e4) (j_X7_reportAt la hla G _ (i0) (a1) _ q2) kl_X7_104 dX7_state_2 rfl rfl rfl rfl rfl ⟨rfl, rfl, Nat.le_of_ble_eq_true rfl, Nat.le_of_ble_eq_true rfl, Nat.le_of_ble_eq_true rfl, Nat.le_of_ble_eq_true rfl, Nat.le_of_ble_eq_true rfl⟩ (fun E q => ?_) (fun r s q => by cases q)
    cases q
    cases hoc
    exact k_T.out h hEn hMe rfl (by decide) (by decide)
def f_X7_requireUndecided (σ : k_S) (a1 : Nat) : Option (Unit ⊕ String) :=
  (if k_I σ 5 (a1) (7) = (100 : Int32) then some (.inr "java/lang/IllegalStateException") else some (.inl (())))
theorem j_X7_requireUndecided (la : Launch) (hla : la.flags = flags0) (G : k_G) (σ : k_S) (a1 : Nat) (x : (Unit ⊕ String)) (hoc : f_X7_requireUndecided σ a1 = some x) : k_Ct la G yX7_requireUndecided (k_ws yX7_requireUndecided cX7_requireUndecided 1 (Option.none : Option ClassFile.FieldType)) { frames := 6, cells := 1, slots := 6, locals := 82 } [k_p 5 (a1)] σ (k_tc k_mU σ x) 1 6 := by
  refine k_body hla (by decide +kernel) (k_wl rfl) (Nat.le_of_ble_eq_true rfl) (fun X h hEn hMe => ?_)
  show k_W X σ 0 0 0 [some (k_p 5 (a1))] []
  unfold f_X7_requireUndecided at hoc
  refine r_aload_n h dX7_requireUndecided_0 rfl ?_
  refine r_getI h kf_X7_185 dX7_requireUndecided_1 rfl rfl (by decide) rfl ?_
  refine r_bipush (v := 100) h dX7_requireUndecided_4 (by decide) ?_
  refine r_icmp_ne (tgt := 20) h dX7_requireUndecided_6 (by decide) (fun c1 => ?_) (fun c1 => ?_)
  · replace hoc := (if_neg c1).symm.trans hoc
    cases hoc
    exact r_return h hEn dX7_requireUndecided_20 rfl rfl (by decide) (by decide)
  · replace hoc := (if_pos c1).symm.trans hoc
    cases hoc
    exact r_throwW h hEn hMe kt_X7_86_318 dX7_requireUndecided_9 dX7_requireUndecided_12 dX7_requireUndecided_13 dX7_requireUndecided_16 dX7_requireUndecided_19 rfl (by decide) (by decide) (by decide)
def f_X7_vote (σ : k_S) (i0 : Nat) (a1 : Int32) (a2 : Int32) (a3 : Int32) : Option ((Int32 × k_S) ⊕ String) :=
  (k_bt (f_X7_reportAt σ (i0) (a1)) fun v1 => (k_bt (f_X7_userAt σ (i0) (a2)) fun v3 => (k_bt (f_X7_requireUndecided σ (v1)) fun v5 => ((k_P σ 5 (v1) (1)).bind fun j7 => (if v3 = j7 then some (.inr "java/lang/UnsupportedOperationException") else ((k_P σ 5 (v1) (2)).bind fun j10 => (if v3 = j10 then some (.inr "java/lang/UnsupportedOperationException") else ((f_X7_presentSanctions σ (i0) (v3)).bind fun v13 => (if v13 ≤ 0 then (if a3 = 0 then ((f_X2_enterVote σ (v1) (a2) ((-(k_I σ 3 (v3) (0))))).bind fun v17 => ((f_X2_sumFor v17.2 (v1)).bind fun v19 => ((f_X2_sumAgainst v17.2 (v1)).bind fun v21 => some (.inl ((v19 + v21), v17.2))))) else ((f_X2_enterVote σ (v1) (a2) (k_I σ 3 (v3) (0))).bind fun v23 => ((f_X2_sumFor v23.2 (v1)).bind fun v25 => ((f_X2_sumAgainst v23.2 (v1)).bind fun v27 => some (.inl ((v25 + v27), v23.2)))))) else some (.inr "java/lang/UnsupportedOperationException"))))))))))
theorem j_X7_vote (la : Launch) (hla : la.flags = flags0) (G : k_G) (σ : k_S) (i0 : Nat) (a1 : Int32) (a2 : Int32) (a3 : Int32) (x : ((Int32 × k_S) ⊕ String)) (hoc : f_X7_vote σ i0 a1 a2 a3 = some x) : k_Ct la G yX7_vote (k_ws yX7_vote cX7_vote 6 (Option.some ClassFile.FieldType.int)) { frames := 8, cells := 4, slots := 24, locals := 124 } [k_p 0 (i0), k_i (a1), k_i (a2), k_i (a3)] σ (k_mc k_mI x) 4 24 := by
  refine k_body hla (by decide +kernel) (k_wl rfl) (Nat.le_of_ble_eq_true rfl) (fun X h hEn hMe => ?_)
  show k_W X σ 0 0 0 [some (k_p 0 (i0)), some (k_i (a1)), some (k_i (a2)), some (k_i (a3)), none, none] []
  unfold f_X7_vote at hoc
  refine r_aload_n h dX7_vote_0 rfl ?_
  refine r_iload_n h dX7_vote_1 rfl ?_
  rcases k_bt_ex hoc with ⟨v1, q2, hoc⟩ | ⟨e31, q2, hoc⟩
  · refine r_callV h hMe (rest := []) (as := [k_i (a1)]) (oc := .inl ((k_mR 5) v1, σ)) (j_X7_reportAt la hla G _ (i0) (a1) _ q2) kl_X7_104 dX7_vote_2 rfl rfl rfl rfl rfl ⟨rfl, rfl, Nat.le_of_ble_eq_true rfl, Nat.le_of_ble_eq_true rfl, Nat.le_of_ble_eq_true rfl, Nat.le_of_ble_eq_true rfl, Nat.le_of_ble_eq_true rfl⟩ (fun E q => by cases q) (fun r s q => ?_)
    cases q
    show k_W X _ _ _ _ _ ([k_p 5 (v1)])
    refine r_astore (L' := [some (k_p 0 (i0)), some (k_i (a1)), some (k_i (a2)), some (k_i (a3)), some (k_p 5 (v1)), none]) h dX7_vote_5 (by decide) rfl ?_
    refine r_aload_n h dX7_vote_7 rfl ?_
    refine r_iload_n h dX7_vote_8 rfl ?_
    rcases k_bt_ex hoc with ⟨v3, q4, hoc⟩ | ⟨e30, q4, hoc⟩
    · refine r_callV h hMe (rest := []) (as := [k_i (a2)]) (oc := .inl ((k_mR 3) v3, σ)) (j_X7_userAt la hla G _ (i0) (a2) _ q4) kl_X7_130 dX7_vote_9 rfl rfl rfl rfl rfl ⟨rfl, rfl, Nat.le_of_ble_eq_true rfl, Nat.le_of_ble_eq_true rfl, Nat.le_of_ble_eq_true rfl, Nat.le_of_ble_eq_true rfl, Nat.le_of_ble_eq_true rfl⟩ (fun E q => by cases q) (fun r s q => ?_)
      cases q
      show k_W X _ _ _ _ _ ([k_p 3 (v3)])
      refine r_astore (L' := [some (k_p 0 (i0)), some (k_i (a1)), some (k_i (a2)), some (k_i (a3)), some (k_p 5 (v1)), some (k_p 3 (v3))]) h dX7_vote_12 (by decide) rfl ?_
      refine r_aload h dX7_vote_14 rfl ?_
      rcases k_bt_ex hoc with ⟨v5, q6, hoc⟩ | ⟨e29, q6, hoc⟩
      · refine r_callS h hMe (rest := []) (as := [k_p 5 (v1)]) (oc := .inl (k_mU v5, σ)) (j_X7_requireUndecided la hla G _ (v1) _ q6) kl_X7_189 dX7_vote_16 rfl rfl  ⟨rfl, rfl, Nat.le_of_ble_eq_true rfl, Nat.le_of_ble_eq_true rfl, Nat.le_of_ble_eq_true rfl, Nat.le_of_ble_eq_true rfl, Nat.le_of_ble_eq_true rfl⟩ (fun E q => by cases q) (fun r s q => ?_)
        cases q
        show k_W X _ _ _ _ _ ([])
        refine r_aload h dX7_vote_19 rfl ?_
        refine r_aload h dX7_vote_21 rfl ?_
        obtain ⟨j7, q8, hoc⟩ := k_ob hoc
        refine r_getR h kf_X7_193 dX7_vote_23 rfl rfl (by decide) rfl (Eq.trans rfl q8) ?_
        refine r_acmp_eq (tgt := 39) h dX7_vote_26 (by decide) (fun c9 => ?_) (fun c9 => ?_)
        · replace hoc := (if_pos c9).symm.trans hoc
          cases hoc
          exact r_throw h hEn hMe kt_X7_199_201 dX7_vote_39 dX7_vote_42 dX7_vote_43 dX7_vote_45 dX7_vote_48 rfl (by decide) (by decide) (by decide)
        · replace hoc := (if_neg c9).symm.trans hoc
          refine r_aload h dX7_vote_29 rfl ?_
          refine r_aload h dX7_vote_31 rfl ?_
          obtain ⟨j10, q11, hoc⟩ := k_ob hoc
          refine r_getR h kf_X7_196 dX7_vote_33 rfl rfl (by decide) rfl (Eq.trans rfl q11) ?_
          refine r_acmp_ne (tgt := 49) h dX7_vote_36 (by decide) (fun c12 => ?_) (fun c12 => ?_)
          · replace hoc := (if_neg c12).symm.trans hoc
            refine r_aload_n h dX7_vote_49 rfl ?_
            refine r_aload h dX7_vote_50 rfl ?_
            obtain ⟨v13, q14, hoc⟩ := k_ob hoc
            refine r_callV h hMe (rest := []) (as := [k_p 3 (v3)]) (oc := .inl (k_mI v13, σ)) (j_X7_presentSanctions la hla G _ (i0) (v3) _ q14) kl_X7_137 dX7_vote_52 rfl rfl rfl rfl rfl ⟨rfl, rfl, Nat.le_of_ble_eq_true rfl, Nat.le_of_ble_eq_true rfl, Nat.le_of_ble_eq_true rfl, Nat.le_of_ble_eq_true rfl, Nat.le_of_ble_eq_true rfl⟩ (fun E q => by cases q) (fun r s q => ?_)
            cases q
            show k_W X _ _ _ _ _ ([k_i (v13)])
            refine r_if_le (tgt := 68) h dX7_vote_55 (by decide) (fun c15 => ?_) (fun c15 => ?_)
            · replace hoc := (if_pos c15).symm.trans hoc
              refine r_aload h dX7_vote_68 rfl ?_
              refine r_iload_n h dX7_vote_70 rfl ?_
              refine r_iload_n h dX7_vote_71 rfl ?_
              refine r_if_eq (tgt := 83) h dX7_vote_72 (by decide) (fun c16 => ?_) (fun c16 => ?_)
              · replace hoc := (if_pos c16).symm.trans hoc
                refine r_aload h dX7_vote_83 rfl ?_
                refine r_getI h kf_X7_134 dX7_vote_85 rfl rfl (by decide) rfl ?_
                refine r_ineg h dX7_vote_88 ?_
                obtain ⟨v17, q18, hoc⟩ := k_ob hoc
                refine r_callV h hMe (rest := []) (as := [k_i (a2), k_i ((-(k_I σ 3 (v3) (0))))]) (oc := .inl (k_mU v17.1, v17.2)) (j_X2_enterVote la hla G _ (v1) (a2) ((-(k_I σ 3 (v3) (0)))) _ q18) kl_X7_206 dX7_vote_89 rfl rfl rfl rfl rfl ⟨rfl, rfl, Nat.le_of_ble_eq_true rfl, Nat.le_of_ble_eq_true rfl, Nat.le_of_ble_eq_true rfl, Nat.le_of_ble_eq_true rfl, Nat.le_of_ble_eq_true rfl⟩ (fun E q => by cases q) (fun r s q => ?_)
                cases q
                show k_W X _ _ _ _ _ ([])
                refine r_aload h dX7_vote_92 rfl ?_
                obtain ⟨v19, q20, hoc⟩ := k_ob hoc
                refine r_callV h hMe (rest := []) (as := []) (oc := .inl (k_mI v19, v17.2)) (j_X2_sumFor la hla G _ (v1) _ q20) kl_X7_209 dX7_vote_94 rfl rfl rfl rfl rfl ⟨rfl, rfl, Nat.le_of_ble_eq_true rfl, Nat.le_of_ble_eq_true rfl, Nat.le_of_ble_eq_true rfl, Nat.le_of_ble_eq_true rfl, Nat.le_of_ble_eq_true rfl⟩ (fun E q => by cases q) (fun r s q => ?_)
                cases q
                show k_W X _ _ _ _ _ ([k_i (v19)])
                refine r_aload h dX7_vote_97 rfl ?_
                obtain ⟨v21, q22, hoc⟩ := k_ob hoc
                refine r_callV h hMe (rest := [k_i (v19)]) (as := []) (oc := .inl (k_mI v21, v17.2)) (j_X2_sumAgainst la hla G _ (v1) _ q22) kl_X7_212 dX7_vote_99 rfl rfl rfl rfl rfl ⟨rfl, rfl, Nat.le_of_ble_eq_true rfl, Nat.le_of_ble_eq_true rfl, Nat.le_of_ble_eq_true rfl, Nat.le_of_ble_eq_true rfl, Nat.le_of_ble_eq_true rfl⟩ (fun E q => by cases q) (fun r s q => ?_)
                cases q
                show k_W X _ _ _ _ _ ([k_i (v21), k_i (v19)])
                refine r_iadd h dX7_vote_102 ?_
                cases hoc
                exact r_ireturn h hEn dX7_vote_103 rfl rfl rfl (by decide) (by decide)
              · replace hoc := (if_neg c16).symm.trans hoc
                refine r_aload h dX7_vote_75 rfl ?_
                refine r_getI h kf_X7_134 dX7_vote_77 rfl rfl (by decide) rfl ?_
                refine r_goto (tgt := 89) h dX7_vote_80 (by decide) ?_
                obtain ⟨v23, q24, hoc⟩ := k_ob hoc
                refine r_callV h hMe (rest := []) (as := [k_i (a2), k_i (k_I σ 3 (v3) (0))]) (oc := .inl (k_mU v23.1, v23.2)) (j_X2_enterVote la hla G _ (v1) (a2) (k_I σ 3 (v3) (0)) _ q24) kl_X7_206 dX7_vote_89 rfl rfl rfl rfl rfl ⟨rfl, rfl, Nat.le_of_ble_eq_true rfl, Nat.le_of_ble_eq_true rfl, Nat.le_of_ble_eq_true rfl, Nat.le_of_ble_eq_true rfl, Nat.le_of_ble_eq_true rfl⟩ (fun E q => by cases q) (fun r s q => ?_)
                cases q
                show k_W X _ _ _ _ _ ([])
                refine r_aload h dX7_vote_92 rfl ?_
                obtain ⟨v25, q26, hoc⟩ := k_ob hoc
                refine r_callV h hMe (rest := []) (as := []) (oc := .inl (k_mI v25, v23.2)) (j_X2_sumFor la hla G _ (v1) _ q26) kl_X7_209 dX7_vote_94 rfl rfl rfl rfl rfl ⟨rfl, rfl, Nat.le_of_ble_eq_true rfl, Nat.le_of_ble_eq_true rfl, Nat.le_of_ble_eq_true rfl, Nat.le_of_ble_eq_true rfl, Nat.le_of_ble_eq_true rfl⟩ (fun E q => by cases q) (fun r s q => ?_)
                cases q
                show k_W X _ _ _ _ _ ([k_i (v25)])
                refine r_aload h dX7_vote_97 rfl ?_
                obtain ⟨v27, q28, hoc⟩ := k_ob hoc
                refine r_callV h hMe (rest := [k_i (v25)]) (as := []) (oc := .inl (k_mI v27, v23.2)) (j_X2_sumAgainst la hla G _ (v1) _ q28) kl_X7_212 dX7_vote_99 rfl rfl rfl rfl rfl ⟨rfl, rfl, Nat.le_of_ble_eq_true rfl, Nat.le_of_ble_eq_true rfl, Nat.le_of_ble_eq_true rfl, Nat.le_of_ble_eq_true rfl, Nat.le_of_ble_eq_true rfl⟩ (fun E q => by cases q) (fun r s q => ?_)
                cases q
                show k_W X _ _ _ _ _ ([k_i (v27), k_i (v25)])
                refine r_iadd h dX7_vote_102 ?_
                cases hoc
                exact r_ireturn h hEn dX7_vote_103 rfl rfl rfl (by decide) (by decide)
            · replace hoc := (if_neg c15).symm.trans hoc
              cases hoc
              exact r_throw h hEn hMe kt_X7_199_204 dX7_vote_58 dX7_vote_61 dX7_vote_62 dX7_vote_64 dX7_vote_67 rfl (by decide) (by decide) (by decide)
          · replace hoc := (if_pos c12).symm.trans hoc
            cases hoc
            exact r_throw h hEn hMe kt_X7_199_201 dX7_vote_39 dX7_vote_42 dX7_vote_43 dX7_vote_45 dX7_vote_48 rfl (by decide) (by decide) (by decide)
      · refine r_callS h hMe (rest := []) (as := [k_p 5 (v1)]) (oc := .inr e29) (j_X7_requireUndecided la hla G _ (v1) _ q6) kl_X7_189 dX7_vote_16 rfl rfl  ⟨rfl, rfl, Nat.le_of_ble_eq_true rfl, Nat.le_of_ble_eq_true rfl, Nat.le_of_ble_eq_true rfl, Nat.le_of_ble_eq_true rfl, Nat.le_of_ble_eq_true rfl⟩ (fun E q => ?_) (fun r s q => by cases q)
        cases q
        cases hoc
        exact k_T.out h hEn hMe rfl (by decide) (by decide)
    · refine r_callV h hMe (rest := []) (as := [k_i (a2)]) (oc := .inr e30) (j_X7_userAt la hla G _ (i0) (a2) _ q4) kl_X7_130 dX7_vote_9 rfl rfl rfl rfl rfl ⟨rfl, rfl, Nat.le_of_ble_eq_true rfl, Nat.le_of_ble_eq_true rfl, Nat.le_of_ble_eq_true rfl, Nat.le_of_ble_eq_true rfl, Nat.le_of_ble_eq_true rfl⟩ (fun E q => ?_) (fun r s q => by cases q)
      cases q
      cases hoc
      exact k_T.out h hEn hMe rfl (by decide) (by decide)
  · refine r_callV h hMe (rest := []) (as := [k_i (a1)]) (oc := .inr e31) (j_X7_reportAt la hla G _ (i0) (a1) _ q2) kl_X7_104 dX7_vote_2 rfl rfl rfl rfl rfl ⟨rfl, rfl, Nat.le_of_ble_eq_true rfl, Nat.le_of_ble_eq_true rfl, Nat.le_of_ble_eq_true rfl, Nat.le_of_ble_eq_true rfl, Nat.le_of_ble_eq_true rfl⟩ (fun E q => ?_) (fun r s q => by cases q)
    cases q
    cases hoc
    exact k_T.out h hEn hMe rfl (by decide) (by decide)
def f_X7_weightFor (σ : k_S) (i0 : Nat) (a1 : Int32) : Option (Int32 ⊕ String) :=
  (k_bt (f_X7_reportAt σ (i0) (a1)) fun v1 => ((f_X2_sumFor σ (v1)).bind fun v3 => some (.inl (v3))))
theorem j_X7_weightFor (la : Launch) (hla : la.flags = flags0) (G : k_G) (σ : k_S) (i0 : Nat) (a1 : Int32) (x : (Int32 ⊕ String)) (hoc : f_X7_weightFor σ i0 a1 = some x) : k_Ct la G yX7_weightFor (k_ws yX7_weightFor cX7_weightFor 2 (Option.some ClassFile.FieldType.int)) { frames := 8, cells := 1, slots := 6, locals := 124 } [k_p 0 (i0), k_i (a1)] σ (k_tc k_mI σ x) 1 6 := by
  refine k_body hla (by decide +kernel) (k_wl rfl) (Nat.le_of_ble_eq_true rfl) (fun X h hEn hMe => ?_)
  show k_W X σ 0 0 0 [some (k_p 0 (i0)), some (k_i (a1))] []
  unfold f_X7_weightFor at hoc
  refine r_aload_n h dX7_weightFor_0 rfl ?_
  refine r_iload_n h dX7_weightFor_1 rfl ?_
  rcases k_bt_ex hoc with ⟨v1, q2, hoc⟩ | ⟨e5, q2, hoc⟩
  · refine r_callV h hMe (rest := []) (as := [k_i (a1)]) (oc := .inl ((k_mR 5) v1, σ)) (j_X7_reportAt la hla G _ (i0) (a1) _ q2) kl_X7_104 dX7_weightFor_2 rfl rfl rfl rfl rfl ⟨rfl, rfl, Nat.le_of_ble_eq_true rfl, Nat.le_of_ble_eq_true rfl, Nat.le_of_ble_eq_true rfl, Nat.le_of_ble_eq_true rfl, Nat.le_of_ble_eq_true rfl⟩ (fun E q => by cases q) (fun r s q => ?_)
    cases q
    show k_W X _ _ _ _ _ ([k_p 5 (v1)])
    obtain ⟨v3, q4, hoc⟩ := k_ob hoc
    refine r_callV h hMe (rest := []) (as := []) (oc := .inl (k_mI v3, σ)) (j_X2_sumFor la hla G _ (v1) _ q4) kl_X7_209 dX7_weightFor_5 rfl rfl rfl rfl rfl ⟨rfl, rfl, Nat.le_of_ble_eq_true rfl, Nat.le_of_ble_eq_true rfl, Nat.le_of_ble_eq_true rfl, Nat.le_of_ble_eq_true rfl, Nat.le_of_ble_eq_true rfl⟩ (fun E q => by cases q) (fun r s q => ?_)
    cases q
    show k_W X _ _ _ _ _ ([k_i (v3)])
    cases hoc
    exact r_ireturn h hEn dX7_weightFor_8 rfl rfl rfl (by decide) (by decide)
  · refine r_callV h hMe (rest := []) (as := [k_i (a1)]) (oc := .inr e5) (j_X7_reportAt la hla G _ (i0) (a1) _ q2) kl_X7_104 dX7_weightFor_2 rfl rfl rfl rfl rfl ⟨rfl, rfl, Nat.le_of_ble_eq_true rfl, Nat.le_of_ble_eq_true rfl, Nat.le_of_ble_eq_true rfl, Nat.le_of_ble_eq_true rfl, Nat.le_of_ble_eq_true rfl⟩ (fun E q => ?_) (fun r s q => by cases q)
    cases q
    cases hoc
    exact k_T.out h hEn hMe rfl (by decide) (by decide)
def f_X7_weightAgainst (σ : k_S) (i0 : Nat) (a1 : Int32) : Option (Int32 ⊕ String) :=
  (k_bt (f_X7_reportAt σ (i0) (a1)) fun v1 => ((f_X2_sumAgainst σ (v1)).bind fun v3 => some (.inl (v3))))
theorem j_X7_weightAgainst (la : Launch) (hla : la.flags = flags0) (G : k_G) (σ : k_S) (i0 : Nat) (a1 : Int32) (x : (Int32 ⊕ String)) (hoc : f_X7_weightAgainst σ i0 a1 = some x) : k_Ct la G yX7_weightAgainst (k_ws yX7_weightAgainst cX7_weightAgainst 2 (Option.some ClassFile.FieldType.int)) { frames := 8, cells := 1, slots := 6, locals := 124 } [k_p 0 (i0), k_i (a1)] σ (k_tc k_mI σ x) 1 6 := by
  refine k_body hla (by decide +kernel) (k_wl rfl) (Nat.le_of_ble_eq_true rfl) (fun X h hEn hMe => ?_)
  show k_W X σ 0 0 0 [some (k_p 0 (i0)), some (k_i (a1))] []
  unfold f_X7_weightAgainst at hoc
  refine r_aload_n h dX7_weightAgainst_0 rfl ?_
  refine r_iload_n h dX7_weightAgainst_1 rfl ?_
  rcases k_bt_ex hoc with ⟨v1, q2, hoc⟩ | ⟨e5, q2, hoc⟩
  · refine r_callV h hMe (rest := []) (as := [k_i (a1)]) (oc := .inl ((k_mR 5) v1, σ)) (j_X7_reportAt la hla G _ (i0) (a1) _ q2) kl_X7_104 dX7_weightAgainst_2 rfl rfl rfl rfl rfl ⟨rfl, rfl, Nat.le_of_ble_eq_true rfl, Nat.le_of_ble_eq_true rfl, Nat.le_of_ble_eq_true rfl, Nat.le_of_ble_eq_true rfl, Nat.le_of_ble_eq_true rfl⟩ (fun E q => by cases q) (fun r s q => ?_)
    cases q
    show k_W X _ _ _ _ _ ([k_p 5 (v1)])
    obtain ⟨v3, q4, hoc⟩ := k_ob hoc
    refine r_callV h hMe (rest := []) (as := []) (oc := .inl (k_mI v3, σ)) (j_X2_sumAgainst la hla G _ (v1) _ q4) kl_X7_212 dX7_weightAgainst_5 rfl rfl rfl rfl rfl ⟨rfl, rfl, Nat.le_of_ble_eq_true rfl, Nat.le_of_ble_eq_true rfl, Nat.le_of_ble_eq_true rfl, Nat.le_of_ble_eq_true rfl, Nat.le_of_ble_eq_true rfl⟩ (fun E q => by cases q) (fun r s q => ?_)
    cases q
    show k_W X _ _ _ _ _ ([k_i (v3)])
    cases hoc
    exact r_ireturn h hEn dX7_weightAgainst_8 rfl rfl rfl (by decide) (by decide)
  · refine r_callV h hMe (rest := []) (as := [k_i (a1)]) (oc := .inr e5) (j_X7_reportAt la hla G _ (i0) (a1) _ q2) kl_X7_104 dX7_weightAgainst_2 rfl rfl rfl rfl rfl ⟨rfl, rfl, Nat.le_of_ble_eq_true rfl, Nat.le_of_ble_eq_true rfl, Nat.le_of_ble_eq_true rfl, Nat.le_of_ble_eq_true rfl, Nat.le_of_ble_eq_true rfl⟩ (fun E q => ?_) (fun r s q => by cases q)
    cases q
    cases hoc
    exact k_T.out h hEn hMe rfl (by decide) (by decide)
def f_X7_setQuorum (σ : k_S) (i0 : Nat) (a1 : Int32) : Option ((Int32 × k_S) ⊕ String) :=
  (k_bt (f_X7_requireWithin σ (a1) (1) (50)) fun v1 => some (.inl (k_I σ 0 (i0) (9), (k_uI σ 0 (i0) (9) (a1)))))
theorem j_X7_setQuorum (la : Launch) (hla : la.flags = flags0) (G : k_G) (σ : k_S) (i0 : Nat) (a1 : Int32) (x : ((Int32 × k_S) ⊕ String)) (hoc : f_X7_setQuorum σ i0 a1 = some x) : k_Ct la G yX7_setQuorum (k_ws yX7_setQuorum cX7_setQuorum 3 (Option.some ClassFile.FieldType.int)) { frames := 7, cells := 1, slots := 6, locals := 104 } [k_p 0 (i0), k_i (a1)] σ (k_mc k_mI x) 1 6 := by
  refine k_body hla (by decide +kernel) (k_wl rfl) (Nat.le_of_ble_eq_true rfl) (fun X h hEn hMe => ?_)
  show k_W X σ 0 0 0 [some (k_p 0 (i0)), some (k_i (a1)), none] []
  unfold f_X7_setQuorum at hoc
  refine r_iload_n h dX7_setQuorum_0 rfl ?_
  refine r_iconst (v := 1) h dX7_setQuorum_1 (by decide) ?_
  refine r_bipush (v := 50) h dX7_setQuorum_2 (by decide) ?_
  rcases k_bt_ex hoc with ⟨v1, q2, hoc⟩ | ⟨e3, q2, hoc⟩
  · refine r_callS h hMe (rest := []) (as := [k_i (a1), k_i (1), k_i (50)]) (oc := .inl (k_mU v1, σ)) (j_X7_requireWithin la hla G _ (a1) (1) (50) _ q2) kl_X7_48 dX7_setQuorum_4 rfl rfl  ⟨rfl, rfl, Nat.le_of_ble_eq_true rfl, Nat.le_of_ble_eq_true rfl, Nat.le_of_ble_eq_true rfl, Nat.le_of_ble_eq_true rfl, Nat.le_of_ble_eq_true rfl⟩ (fun E q => by cases q) (fun r s q => ?_)
    cases q
    show k_W X _ _ _ _ _ ([])
    refine r_aload_n h dX7_setQuorum_7 rfl ?_
    refine r_getI h kf_X7_45 dX7_setQuorum_8 rfl rfl (by decide) rfl ?_
    refine r_istore_n (L' := [some (k_p 0 (i0)), some (k_i (a1)), some (k_i (k_I σ 0 (i0) (9)))]) h dX7_setQuorum_11 (by decide) rfl ?_
    refine r_aload_n h dX7_setQuorum_12 rfl ?_
    refine r_iload_n h dX7_setQuorum_13 rfl ?_
    refine r_putI (x := a1) h kp_X7_45 dX7_setQuorum_14 rfl rfl (by decide) rfl rfl (k_fit_int _) ?_
    refine r_iload_n h dX7_setQuorum_17 rfl ?_
    cases hoc
    exact r_ireturn h hEn dX7_setQuorum_18 rfl rfl rfl (by decide) (by decide)
  · refine r_callS h hMe (rest := []) (as := [k_i (a1), k_i (1), k_i (50)]) (oc := .inr e3) (j_X7_requireWithin la hla G _ (a1) (1) (50) _ q2) kl_X7_48 dX7_setQuorum_4 rfl rfl  ⟨rfl, rfl, Nat.le_of_ble_eq_true rfl, Nat.le_of_ble_eq_true rfl, Nat.le_of_ble_eq_true rfl, Nat.le_of_ble_eq_true rfl, Nat.le_of_ble_eq_true rfl⟩ (fun E q => ?_) (fun r s q => by cases q)
    cases q
    cases hoc
    exact k_T.out h hEn hMe rfl (by decide) (by decide)
def f_X7_closeAppeal (σ : k_S) (a1 : Nat) (a2 : Int32) : Option (Unit × k_S) :=
  (if a2 = k_I σ 5 (a1) (11) then (k_on (k_P σ 5 (a1) (8)) (some (((), (k_uI σ 5 (a1) (12) (0))))) (fun j2 => (if k_I σ 5 (a1) (11) = (103 : Int32) then ((f_X0_learn (k_uI σ 5 (a1) (12) (0)) (j2) (0)).bind fun v5 => some (((), v5.2))) else some (((), (k_uI σ 5 (a1) (12) (0))))))) else (k_on (k_P σ 5 (a1) (8)) (some (((), (k_uI σ 5 (a1) (12) (1))))) (fun j7 => (if k_I σ 5 (a1) (11) = (103 : Int32) then ((f_X0_learn (k_uI σ 5 (a1) (12) (1)) (j7) (1)).bind fun v10 => some (((), v10.2))) else some (((), (k_uI σ 5 (a1) (12) (1))))))))
theorem j_X7_closeAppeal (la : Launch) (hla : la.flags = flags0) (G : k_G) (σ : k_S) (a1 : Nat) (a2 : Int32) (x : (Unit × k_S)) (hoc : f_X7_closeAppeal σ a1 a2 = some x) : k_Ct la G yX7_closeAppeal (k_ws yX7_closeAppeal cX7_closeAppeal 2 (Option.none : Option ClassFile.FieldType)) { frames := 2, cells := 0, slots := 0, locals := 36 } [k_p 5 (a1), k_i (a2)] σ (.inl (k_mU x.1, x.2)) 0 0 := by
  refine k_body hla (by decide +kernel) (k_wl rfl) (Nat.le_of_ble_eq_true rfl) (fun X h hEn hMe => ?_)
  show k_W X σ 0 0 0 [some (k_p 5 (a1)), some (k_i (a2))] []
  unfold f_X7_closeAppeal at hoc
  refine r_aload_n h dX7_closeAppeal_0 rfl ?_
  refine r_iload_n h dX7_closeAppeal_1 rfl ?_
  refine r_aload_n h dX7_closeAppeal_2 rfl ?_
  refine r_getI h kf_X7_248 dX7_closeAppeal_3 rfl rfl (by decide) rfl ?_
  refine r_icmp_eq (tgt := 13) h dX7_closeAppeal_6 (by decide) (fun c1 => ?_) (fun c1 => ?_)
  · replace hoc := (if_pos c1).symm.trans hoc
    refine r_iconst (v := 0) h dX7_closeAppeal_13 (by decide) ?_
    refine r_putI (x := 0) h kp_X7_270 dX7_closeAppeal_14 rfl rfl (by decide) rfl rfl ⟨by decide, by decide⟩ ?_
    refine r_aload_n h dX7_closeAppeal_17 rfl ?_
    rcases q3 : k_P σ 5 (a1) (8) with _ | j2
    · replace hoc := (k_on_n q3).symm.trans hoc
      refine r_getN h kf_X7_177 dX7_closeAppeal_18 rfl rfl (by decide) rfl (Eq.trans rfl q3) ?_
      refine r_ifnullN (tgt := 44) h dX7_closeAppeal_21 (by decide) ?_
      cases hoc
      exact r_return h hEn dX7_closeAppeal_44 rfl rfl (by decide) (by decide)
    · replace hoc := (k_on_s q3).symm.trans hoc
      refine r_getR h kf_X7_177 dX7_closeAppeal_18 rfl rfl (by decide) rfl (Eq.trans rfl q3) ?_
      refine r_ifnull h dX7_closeAppeal_21 ?_
      refine r_aload_n h dX7_closeAppeal_24 rfl ?_
      refine r_getI h kf_X7_248 dX7_closeAppeal_25 rfl rfl (by decide) rfl ?_
      refine r_eqI (k_I_k (by decide)) ?_
      refine r_bipush (v := 103) h dX7_closeAppeal_28 (by decide) ?_
      refine r_icmp_ne (tgt := 44) h dX7_closeAppeal_30 (by decide) (fun c4 => ?_) (fun c4 => ?_)
      · replace hoc := (if_neg c4).symm.trans hoc
        cases hoc
        exact r_return h hEn dX7_closeAppeal_44 rfl rfl (by decide) (by decide)
      · replace hoc := (if_pos c4).symm.trans hoc
        refine r_aload_n h dX7_closeAppeal_33 rfl ?_
        refine r_getR h kf_X7_177 dX7_closeAppeal_34 rfl rfl (by decide) rfl (Eq.trans rfl q3) ?_
        refine r_aload_n h dX7_closeAppeal_37 rfl ?_
        refine r_getI h kf_X7_270 dX7_closeAppeal_38 rfl rfl (by decide) rfl ?_
        refine r_eqI k_I_s ?_
        obtain ⟨v5, q6, hoc⟩ := k_ob hoc
        refine r_callV h hMe (rest := []) (as := [k_i (0)]) (oc := .inl (k_mU v5.1, v5.2)) (j_X0_learn la hla G _ (j2) (0) _ q6) kl_X7_372 dX7_closeAppeal_41 rfl rfl rfl rfl rfl ⟨rfl, rfl, Nat.le_of_ble_eq_true rfl, Nat.le_of_ble_eq_true rfl, Nat.le_of_ble_eq_true rfl, Nat.le_of_ble_eq_true rfl, Nat.le_of_ble_eq_true rfl⟩ (fun E q => by cases q) (fun r s q => ?_)
        cases q
        show k_W X _ _ _ _ _ ([])
        cases hoc
        exact r_return h hEn dX7_closeAppeal_44 rfl rfl (by decide) (by decide)
  · replace hoc := (if_neg c1).symm.trans hoc
    refine r_iconst (v := 1) h dX7_closeAppeal_9 (by decide) ?_
    refine r_goto (tgt := 14) h dX7_closeAppeal_10 (by decide) ?_
    refine r_putI (x := 1) h kp_X7_270 dX7_closeAppeal_14 rfl rfl (by decide) rfl rfl ⟨by decide, by decide⟩ ?_
    refine r_aload_n h dX7_closeAppeal_17 rfl ?_
    rcases q8 : k_P σ 5 (a1) (8) with _ | j7
    · replace hoc := (k_on_n q8).symm.trans hoc
      refine r_getN h kf_X7_177 dX7_closeAppeal_18 rfl rfl (by decide) rfl (Eq.trans rfl q8) ?_
      refine r_ifnullN (tgt := 44) h dX7_closeAppeal_21 (by decide) ?_
      cases hoc
      exact r_return h hEn dX7_closeAppeal_44 rfl rfl (by decide) (by decide)
    · replace hoc := (k_on_s q8).symm.trans hoc
      refine r_getR h kf_X7_177 dX7_closeAppeal_18 rfl rfl (by decide) rfl (Eq.trans rfl q8) ?_
      refine r_ifnull h dX7_closeAppeal_21 ?_
      refine r_aload_n h dX7_closeAppeal_24 rfl ?_
      refine r_getI h kf_X7_248 dX7_closeAppeal_25 rfl rfl (by decide) rfl ?_
      refine r_eqI (k_I_k (by decide)) ?_
      refine r_bipush (v := 103) h dX7_closeAppeal_28 (by decide) ?_
      refine r_icmp_ne (tgt := 44) h dX7_closeAppeal_30 (by decide) (fun c9 => ?_) (fun c9 => ?_)
      · replace hoc := (if_neg c9).symm.trans hoc
        cases hoc
        exact r_return h hEn dX7_closeAppeal_44 rfl rfl (by decide) (by decide)
      · replace hoc := (if_pos c9).symm.trans hoc
        refine r_aload_n h dX7_closeAppeal_33 rfl ?_
        refine r_getR h kf_X7_177 dX7_closeAppeal_34 rfl rfl (by decide) rfl (Eq.trans rfl q8) ?_
        refine r_aload_n h dX7_closeAppeal_37 rfl ?_
        refine r_getI h kf_X7_270 dX7_closeAppeal_38 rfl rfl (by decide) rfl ?_
        refine r_eqI k_I_s ?_
        obtain ⟨v10, q11, hoc⟩ := k_ob hoc
        refine r_callV h hMe (rest := []) (as := [k_i (1)]) (oc := .inl (k_mU v10.1, v10.2)) (j_X0_learn la hla G _ (j7) (1) _ q11) kl_X7_372 dX7_closeAppeal_41 rfl rfl rfl rfl rfl ⟨rfl, rfl, Nat.le_of_ble_eq_true rfl, Nat.le_of_ble_eq_true rfl, Nat.le_of_ble_eq_true rfl, Nat.le_of_ble_eq_true rfl, Nat.le_of_ble_eq_true rfl⟩ (fun E q => by cases q) (fun r s q => ?_)
        cases q
        show k_W X _ _ _ _ _ ([])
        cases hoc
        exact r_return h hEn dX7_closeAppeal_44 rfl rfl (by decide) (by decide)
def f_X7_decide (σ : k_S) (i0 : Nat) (a1 : Int32) : Option ((Int32 × k_S) ⊕ String) :=
  (k_bt (f_X7_reportAt σ (i0) (a1)) fun v1 => (k_bt (f_X7_requireUndecided σ (v1)) fun v3 => ((f_X2_sumFor σ (v1)).bind fun v5 => ((f_X2_sumAgainst σ (v1)).bind fun v7 => (if k_I σ 0 (i0) (9) ≤ (v5 + v7) then (if k_I σ 5 (v1) (7) = (101 : Int32) then ((f_X7_settle σ (i0) (v1) (v5) (v7)).bind fun v18 => (if (1 : Int32) = 0 then (if k_isC (v18.1) = true then some (.inl (v18.1, v18.2)) else none) else ((f_X7_closeAppeal v18.2 (v1) (v18.1)).bind fun v22 => (if k_isC (v18.1) = true then some (.inl (v18.1, v22.2)) else none)))) else ((f_X7_settle σ (i0) (v1) (v5) (v7)).bind fun v11 => (if (0 : Int32) = 0 then (if k_isC (v11.1) = true then some (.inl (v11.1, v11.2)) else none) else ((f_X7_closeAppeal v11.2 (v1) (v11.1)).bind fun v15 => (if k_isC (v11.1) = true then some (.inl (v11.1, v15.2)) else none))))) else some (.inr "java/lang/UnsupportedOperationException"))))))
theorem j_X7_decide (la : Launch) (hla : la.flags = flags0) (G : k_G) (σ : k_S) (i0 : Nat) (a1 : Int32) (x : ((Int32 × k_S) ⊕ String)) (hoc : f_X7_decide σ i0 a1 = some x) : k_Ct la G yX7_decide (k_ws yX7_decide cX7_decide 7 (Option.some ClassFile.FieldType.char)) { frames := 9, cells := 6, slots := 619, locals := 278 } [k_p 0 (i0), k_i (a1)] σ (k_mc k_mI x) 6 619 := by
  refine k_body hla (by decide +kernel) (k_wl rfl) (Nat.le_of_ble_eq_true rfl) (fun X h hEn hMe => ?_)
  show k_W X σ 0 0 0 [some (k_p 0 (i0)), some (k_i (a1)), none, none, none, none, none] []
  unfold f_X7_decide at hoc
  refine r_aload_n h dX7_decide_0 rfl ?_
  refine r_iload_n h dX7_decide_1 rfl ?_
  rcases k_bt_ex hoc with ⟨v1, q2, hoc⟩ | ⟨e26, q2, hoc⟩
  · refine r_callV h hMe (rest := []) (as := [k_i (a1)]) (oc := .inl ((k_mR 5) v1, σ)) (j_X7_reportAt la hla G _ (i0) (a1) _ q2) kl_X7_104 dX7_decide_2 rfl rfl rfl rfl rfl ⟨rfl, rfl, Nat.le_of_ble_eq_true rfl, Nat.le_of_ble_eq_true rfl, Nat.le_of_ble_eq_true rfl, Nat.le_of_ble_eq_true rfl, Nat.le_of_ble_eq_true rfl⟩ (fun E q => by cases q) (fun r s q => ?_)
    cases q
    show k_W X _ _ _ _ _ ([k_p 5 (v1)])
    refine r_astore_n (L' := [some (k_p 0 (i0)), some (k_i (a1)), some (k_p 5 (v1)), none, none, none, none]) h dX7_decide_5 (by decide) rfl ?_
    refine r_aload_n h dX7_decide_6 rfl ?_
    rcases k_bt_ex hoc with ⟨v3, q4, hoc⟩ | ⟨e25, q4, hoc⟩
    · refine r_callS h hMe (rest := []) (as := [k_p 5 (v1)]) (oc := .inl (k_mU v3, σ)) (j_X7_requireUndecided la hla G _ (v1) _ q4) kl_X7_189 dX7_decide_7 rfl rfl  ⟨rfl, rfl, Nat.le_of_ble_eq_true rfl, Nat.le_of_ble_eq_true rfl, Nat.le_of_ble_eq_true rfl, Nat.le_of_ble_eq_true rfl, Nat.le_of_ble_eq_true rfl⟩ (fun E q => by cases q) (fun r s q => ?_)
      cases q
      show k_W X _ _ _ _ _ ([])
      refine r_aload_n h dX7_decide_10 rfl ?_
      obtain ⟨v5, q6, hoc⟩ := k_ob hoc
      refine r_callV h hMe (rest := []) (as := []) (oc := .inl (k_mI v5, σ)) (j_X2_sumFor la hla G _ (v1) _ q6) kl_X7_209 dX7_decide_11 rfl rfl rfl rfl rfl ⟨rfl, rfl, Nat.le_of_ble_eq_true rfl, Nat.le_of_ble_eq_true rfl, Nat.le_of_ble_eq_true rfl, Nat.le_of_ble_eq_true rfl, Nat.le_of_ble_eq_true rfl⟩ (fun E q => by cases q) (fun r s q => ?_)
      cases q
      show k_W X _ _ _ _ _ ([k_i (v5)])
      refine r_istore_n (L' := [some (k_p 0 (i0)), some (k_i (a1)), some (k_p 5 (v1)), some (k_i (v5)), none, none, none]) h dX7_decide_14 (by decide) rfl ?_
      refine r_aload_n h dX7_decide_15 rfl ?_
      obtain ⟨v7, q8, hoc⟩ := k_ob hoc
      refine r_callV h hMe (rest := []) (as := []) (oc := .inl (k_mI v7, σ)) (j_X2_sumAgainst la hla G _ (v1) _ q8) kl_X7_212 dX7_decide_16 rfl rfl rfl rfl rfl ⟨rfl, rfl, Nat.le_of_ble_eq_true rfl, Nat.le_of_ble_eq_true rfl, Nat.le_of_ble_eq_true rfl, Nat.le_of_ble_eq_true rfl, Nat.le_of_ble_eq_true rfl⟩ (fun E q => by cases q) (fun r s q => ?_)
      cases q
      show k_W X _ _ _ _ _ ([k_i (v7)])
      refine r_istore (L' := [some (k_p 0 (i0)), some (k_i (a1)), some (k_p 5 (v1)), some (k_i (v5)), some (k_i (v7)), none, none]) h dX7_decide_19 (by decide) rfl ?_
      refine r_iload_n h dX7_decide_21 rfl ?_
      refine r_iload h dX7_decide_22 rfl ?_
      refine r_iadd h dX7_decide_24 ?_
      refine r_aload_n h dX7_decide_25 rfl ?_
      refine r_getI h kf_X7_45 dX7_decide_26 rfl rfl (by decide) rfl ?_
      refine r_icmp_ge (tgt := 42) h dX7_decide_29 (by decide) (fun c9 => ?_) (fun c9 => ?_)
      · replace hoc := (if_pos c9).symm.trans hoc
        refine r_aload_n h dX7_decide_42 rfl ?_
        refine r_getI h kf_X7_185 dX7_decide_43 rfl rfl (by decide) rfl ?_
        refine r_bipush (v := 101) h dX7_decide_46 (by decide) ?_
        refine r_icmp_ne (tgt := 55) h dX7_decide_48 (by decide) (fun c10 => ?_) (fun c10 => ?_)
        · replace hoc := (if_neg c10).symm.trans hoc
          refine r_iconst (v := 0) h dX7_decide_55 (by decide) ?_
          refine r_istore (L' := [some (k_p 0 (i0)), some (k_i (a1)), some (k_p 5 (v1)), some (k_i (v5)), some (k_i (v7)), some (k_i (0)), none]) h dX7_decide_56 (by decide) rfl ?_
          refine r_aload_n h dX7_decide_58 rfl ?_
          refine r_aload_n h dX7_decide_59 rfl ?_
          refine r_iload_n h dX7_decide_60 rfl ?_
          refine r_iload h dX7_decide_61 rfl ?_
          obtain ⟨v11, q12, hoc⟩ := k_ob hoc
          refine r_callV h hMe (rest := []) (as := [k_p 5 (v1), k_i (v5), k_i (v7)]) (oc := .inl (k_mI v11.1, v11.2)) (j_X7_settle la hla G _ (i0) (v1) (v5) (v7) _ q12) kl_X7_181 dX7_decide_63 rfl rfl rfl rfl rfl ⟨rfl, rfl, Nat.le_of_ble_eq_true rfl, Nat.le_of_ble_eq_true rfl, Nat.le_of_ble_eq_true rfl, Nat.le_of_ble_eq_true rfl, Nat.le_of_ble_eq_true rfl⟩ (fun E q => by cases q) (fun r s q => ?_)
          cases q
          show k_W X _ _ _ _ _ ([k_i (v11.1)])
          refine r_istore (L' := [some (k_p 0 (i0)), some (k_i (a1)), some (k_p 5 (v1)), some (k_i (v5)), some (k_i (v7)), some (k_i (0)), some (k_i (v11.1))]) h dX7_decide_66 (by decide) rfl ?_
          refine r_iload h dX7_decide_68 rfl ?_
          refine r_if_eq (tgt := 79) h dX7_decide_70 (by decide) (fun c13 => ?_) (fun c13 => ?_)
          · replace hoc := (if_pos c13).symm.trans hoc
            refine r_iload h dX7_decide_79 rfl ?_
            obtain ⟨c14, hoc⟩ := k_gd hoc
            cases hoc
            exact r_ireturn h hEn dX7_decide_81 rfl (k_nC c14) rfl (by decide) (by decide)
          · replace hoc := (if_neg c13).symm.trans hoc
            refine r_aload_n h dX7_decide_73 rfl ?_
            refine r_iload h dX7_decide_74 rfl ?_
            obtain ⟨v15, q16, hoc⟩ := k_ob hoc
            refine r_callS h hMe (rest := []) (as := [k_p 5 (v1), k_i (v11.1)]) (oc := .inl (k_mU v15.1, v15.2)) (j_X7_closeAppeal la hla G _ (v1) (v11.1) _ q16) kl_X7_223 dX7_decide_76 rfl rfl  ⟨rfl, rfl, Nat.le_of_ble_eq_true rfl, Nat.le_of_ble_eq_true rfl, Nat.le_of_ble_eq_true rfl, Nat.le_of_ble_eq_true rfl, Nat.le_of_ble_eq_true rfl⟩ (fun E q => by cases q) (fun r s q => ?_)
            cases q
            show k_W X _ _ _ _ _ ([])
            refine r_iload h dX7_decide_79 rfl ?_
            obtain ⟨c17, hoc⟩ := k_gd hoc
            cases hoc
            exact r_ireturn h hEn dX7_decide_81 rfl (k_nC c17) rfl (by decide) (by decide)
        · replace hoc := (if_pos c10).symm.trans hoc
          refine r_iconst (v := 1) h dX7_decide_51 (by decide) ?_
          refine r_goto (tgt := 56) h dX7_decide_52 (by decide) ?_
          refine r_istore (L' := [some (k_p 0 (i0)), some (k_i (a1)), some (k_p 5 (v1)), some (k_i (v5)), some (k_i (v7)), some (k_i (1)), none]) h dX7_decide_56 (by decide) rfl ?_
          refine r_aload_n h dX7_decide_58 rfl ?_
          refine r_aload_n h dX7_decide_59 rfl ?_
          refine r_iload_n h dX7_decide_60 rfl ?_
          refine r_iload h dX7_decide_61 rfl ?_
          obtain ⟨v18, q19, hoc⟩ := k_ob hoc
          refine r_callV h hMe (rest := []) (as := [k_p 5 (v1), k_i (v5), k_i (v7)]) (oc := .inl (k_mI v18.1, v18.2)) (j_X7_settle la hla G _ (i0) (v1) (v5) (v7) _ q19) kl_X7_181 dX7_decide_63 rfl rfl rfl rfl rfl ⟨rfl, rfl, Nat.le_of_ble_eq_true rfl, Nat.le_of_ble_eq_true rfl, Nat.le_of_ble_eq_true rfl, Nat.le_of_ble_eq_true rfl, Nat.le_of_ble_eq_true rfl⟩ (fun E q => by cases q) (fun r s q => ?_)
          cases q
          show k_W X _ _ _ _ _ ([k_i (v18.1)])
          refine r_istore (L' := [some (k_p 0 (i0)), some (k_i (a1)), some (k_p 5 (v1)), some (k_i (v5)), some (k_i (v7)), some (k_i (1)), some (k_i (v18.1))]) h dX7_decide_66 (by decide) rfl ?_
          refine r_iload h dX7_decide_68 rfl ?_
          refine r_if_eq (tgt := 79) h dX7_decide_70 (by decide) (fun c20 => ?_) (fun c20 => ?_)
          · replace hoc := (if_pos c20).symm.trans hoc
            refine r_iload h dX7_decide_79 rfl ?_
            obtain ⟨c21, hoc⟩ := k_gd hoc
            cases hoc
            exact r_ireturn h hEn dX7_decide_81 rfl (k_nC c21) rfl (by decide) (by decide)
          · replace hoc := (if_neg c20).symm.trans hoc
            refine r_aload_n h dX7_decide_73 rfl ?_
            refine r_iload h dX7_decide_74 rfl ?_
            obtain ⟨v22, q23, hoc⟩ := k_ob hoc
            refine r_callS h hMe (rest := []) (as := [k_p 5 (v1), k_i (v18.1)]) (oc := .inl (k_mU v22.1, v22.2)) (j_X7_closeAppeal la hla G _ (v1) (v18.1) _ q23) kl_X7_223 dX7_decide_76 rfl rfl  ⟨rfl, rfl, Nat.le_of_ble_eq_true rfl, Nat.le_of_ble_eq_true rfl, Nat.le_of_ble_eq_true rfl, Nat.le_of_ble_eq_true rfl, Nat.le_of_ble_eq_true rfl⟩ (fun E q => by cases q) (fun r s q => ?_)
            cases q
            show k_W X _ _ _ _ _ ([])
            refine r_iload h dX7_decide_79 rfl ?_
            obtain ⟨c24, hoc⟩ := k_gd hoc
            cases hoc
            exact r_ireturn h hEn dX7_decide_81 rfl (k_nC c24) rfl (by decide) (by decide)
      · replace hoc := (if_neg c9).symm.trans hoc
        cases hoc
        exact r_throw h hEn hMe kt_X7_199_221 dX7_decide_32 dX7_decide_35 dX7_decide_36 dX7_decide_38 dX7_decide_41 rfl (by decide) (by decide) (by decide)
    · refine r_callS h hMe (rest := []) (as := [k_p 5 (v1)]) (oc := .inr e25) (j_X7_requireUndecided la hla G _ (v1) _ q4) kl_X7_189 dX7_decide_7 rfl rfl  ⟨rfl, rfl, Nat.le_of_ble_eq_true rfl, Nat.le_of_ble_eq_true rfl, Nat.le_of_ble_eq_true rfl, Nat.le_of_ble_eq_true rfl, Nat.le_of_ble_eq_true rfl⟩ (fun E q => ?_) (fun r s q => by cases q)
      cases q
      cases hoc
      exact k_T.out h hEn hMe rfl (by decide) (by decide)
  · refine r_callV h hMe (rest := []) (as := [k_i (a1)]) (oc := .inr e26) (j_X7_reportAt la hla G _ (i0) (a1) _ q2) kl_X7_104 dX7_decide_2 rfl rfl rfl rfl rfl ⟨rfl, rfl, Nat.le_of_ble_eq_true rfl, Nat.le_of_ble_eq_true rfl, Nat.le_of_ble_eq_true rfl, Nat.le_of_ble_eq_true rfl, Nat.le_of_ble_eq_true rfl⟩ (fun E q => ?_) (fun r s q => by cases q)
    cases q
    cases hoc
    exact k_T.out h hEn hMe rfl (by decide) (by decide)
def f_X7_settleAllAnew_l1 (t : Nat) (i0 : Nat) (σ : k_S) (x1 : Int32) : Option (Int32 × k_S) := match t with
  | 0 => none
  | t + 1 => (if k_P σ 0 (i0) (5) = some 0 then (if (nI (k_Z σ 17)) ≤ x1 then some ((x1, σ)) else (if 0 ≤ x1 ∧ (x1 : Int32).toNatClampNeg < k_Z σ 17 ∧ k_Z σ 17 ≤ 200 then ((k_P σ 17 (0) ((x1 : Int32).toNatClampNeg)).bind fun j9 => ((k_P σ 7 (j9) (0)).bind fun j11 => (if k_I σ 7 (j9) (1) = 0 then ((k_P σ 0 (i0) (7)).bind fun j14 => ((f_X7_findOutcome σ (i0) (j11) (k_I σ 7 (j9) (2)) (k_I σ 7 (j9) (3)) (j14)).bind fun v16 => ((f_X5_enter σ (j14) (k_I σ 5 (j11) (0)) (v16)).bind fun v18 => f_X7_settleAllAnew_l1 t i0 v18.2 ((x1 + 1))))) else ((k_P σ 0 (i0) (7)).bind fun j20 => ((f_X5_lift σ (j20) (k_I σ 5 (j11) (0))).bind fun v22 => f_X7_settleAllAnew_l1 t i0 v22.2 ((x1 + 1))))))) else none)) else none)
theorem j_X7_settleAllAnew_l1 (la : Launch) (hla : la.flags = flags0) (G : k_G) (X : k_X) (σ0 : k_S) (h : k_Ok X RX7 cX7_settleAllAnew 4) (hMe : k_Me X la G σ0 { frames := 5, cells := 0, slots := 0, locals := 125 } "settleAllAnew") (i0 : Nat) : ∀ (t : Nat) (σ : k_S) (x1 : Int32) (e : (Int32 × k_S)), f_X7_settleAllAnew_l1 t i0 σ x1 = some e → k_W X e.2 0 0 92 [some (k_p 0 (i0)), some (k_i (e.1)), none, none] [] → k_W X σ 0 0 9 [some (k_p 0 (i0)), some (k_i (x1)), none, none] [] := by
  intro t
  induction t with
  | zero =>
    intro σ x1 e hoc kk
    cases hoc
  | succ t ih =>
    intro σ x1 e hoc kk
    rw [f_X7_settleAllAnew_l1] at hoc
    refine r_iload_n h dX7_settleAllAnew_9 rfl ?_
    refine r_aload_n h dX7_settleAllAnew_10 rfl ?_
    obtain ⟨q6, hoc⟩ := k_gd hoc
    refine r_getR h kf_X7_28 dX7_settleAllAnew_11 rfl rfl (by decide) rfl (Eq.trans rfl q6) ?_
    refine r_callL h hMe (rest := [k_i (x1)]) (as := []) (j_size la hla G _ 17 rfl) kl_X7_52 dX7_settleAllAnew_14 rfl rfl rfl rfl ⟨rfl, rfl, Nat.le_of_ble_eq_true rfl, Nat.le_of_ble_eq_true rfl, Nat.le_of_ble_eq_true rfl, Nat.le_of_ble_eq_true rfl, Nat.le_of_ble_eq_true rfl⟩ (fun E q => by cases q) (fun r s q => ?_)
    cases q
    refine r_icmp_ge (tgt := 92) h dX7_settleAllAnew_17 (by decide) (fun c7 => ?_) (fun c7 => ?_)
    · replace hoc := (if_pos c7).symm.trans hoc
      cases hoc
      exact kk
    · replace hoc := (if_neg c7).symm.trans hoc
      refine r_aload_n h dX7_settleAllAnew_20 rfl ?_
      refine r_getR h kf_X7_28 dX7_settleAllAnew_21 rfl rfl (by decide) rfl (Eq.trans rfl q6) ?_
      refine r_iload_n h dX7_settleAllAnew_24 rfl ?_
      obtain ⟨c8, hoc⟩ := k_gd hoc
      obtain ⟨j9, q10, hoc⟩ := k_ob hoc
      refine r_lget h hla hMe (rest := []) c8 (Eq.trans rfl q10) rfl kl_X7_117 dX7_settleAllAnew_25 ⟨Nat.le_of_ble_eq_true rfl, Nat.le_of_ble_eq_true rfl, Nat.le_of_ble_eq_true rfl, Nat.le_of_ble_eq_true rfl, Nat.le_of_ble_eq_true rfl⟩ ?_
      refine r_cast1 h dX7_settleAllAnew_28 wd_166 rfl rfl rfl ?_
      refine r_astore_n (L' := [some (k_p 0 (i0)), some (k_i (x1)), some (k_p 7 (j9)), none]) h dX7_settleAllAnew_31 (by decide) rfl ?_
      refine r_aload_n h dX7_settleAllAnew_32 rfl ?_
      obtain ⟨j11, q12, hoc⟩ := k_ob hoc
      refine r_getR h kf_X7_379 dX7_settleAllAnew_33 rfl rfl (by decide) rfl (Eq.trans rfl q12) ?_
      refine r_astore_n (L' := [some (k_p 0 (i0)), some (k_i (x1)), some (k_p 7 (j9)), some (k_p 5 (j11))]) h dX7_settleAllAnew_36 (by decide) rfl ?_
      refine r_aload_n h dX7_settleAllAnew_37 rfl ?_
      refine r_getI h kf_X7_383 dX7_settleAllAnew_38 rfl rfl (by decide) rfl ?_
      refine r_if_eq (tgt := 58) h dX7_settleAllAnew_41 (by decide) (fun c13 => ?_) (fun c13 => ?_)
      · replace hoc := (if_pos c13).symm.trans hoc
        refine r_aload_n h dX7_settleAllAnew_58 rfl ?_
        obtain ⟨j14, q15, hoc⟩ := k_ob hoc
        refine r_getR h kf_X7_38 dX7_settleAllAnew_59 rfl rfl (by decide) rfl (Eq.trans rfl q15) ?_
        refine r_aload_n h dX7_settleAllAnew_62 rfl ?_
        refine r_getI h kf_X7_346 dX7_settleAllAnew_63 rfl rfl (by decide) rfl ?_
        refine r_aload_n h dX7_settleAllAnew_66 rfl ?_
        refine r_aload_n h dX7_settleAllAnew_67 rfl ?_
        refine r_aload_n h dX7_settleAllAnew_68 rfl ?_
        refine r_getI h kf_X7_386 dX7_settleAllAnew_69 rfl rfl (by decide) rfl ?_
        refine r_aload_n h dX7_settleAllAnew_72 rfl ?_
        refine r_getI h kf_X7_388 dX7_settleAllAnew_73 rfl rfl (by decide) rfl ?_
        refine r_aload_n h dX7_settleAllAnew_76 rfl ?_
        refine r_getR h kf_X7_38 dX7_settleAllAnew_77 rfl rfl (by decide) rfl (Eq.trans rfl q15) ?_
        obtain ⟨v16, q17, hoc⟩ := k_ob hoc
        refine r_callV h hMe (rest := [k_i (k_I σ 5 (j11) (0)), k_p 8 (j14)]) (as := [k_p 5 (j11), k_i (k_I σ 7 (j9) (2)), k_i (k_I σ 7 (j9) (3)), k_p 8 (j14)]) (oc := .inl (k_mI v16, σ)) (j_X7_findOutcome la hla G _ (i0) (j11) (k_I σ 7 (j9) (2)) (k_I σ 7 (j9) (3)) (j14) _ q17) kl_X7_355 dX7_settleAllAnew_80 rfl rfl rfl rfl rfl ⟨rfl, rfl, Nat.le_of_ble_eq_true rfl, Nat.le_of_ble_eq_true rfl, Nat.le_of_ble_eq_true rfl, Nat.le_of_ble_eq_true rfl, Nat.le_of_ble_eq_true rfl⟩ (fun E q => by cases q) (fun r s q => ?_)
        cases q
        show k_W X _ _ _ _ _ ([k_i (v16), k_i (k_I σ 5 (j11) (0)), k_p 8 (j14)])
        obtain ⟨v18, q19, hoc⟩ := k_ob hoc
        refine r_callV h hMe (rest := []) (as := [k_i (k_I σ 5 (j11) (0)), k_i (v16)]) (oc := .inl (k_mU v18.1, v18.2)) (j_X5_enter la hla G _ (j14) (k_I σ 5 (j11) (0)) (v16) _ q19) kl_X7_359 dX7_settleAllAnew_83 rfl rfl rfl rfl rfl ⟨rfl, rfl, Nat.le_of_ble_eq_true rfl, Nat.le_of_ble_eq_true rfl, Nat.le_of_ble_eq_true rfl, Nat.le_of_ble_eq_true rfl, Nat.le_of_ble_eq_true rfl⟩ (fun E q => by cases q) (fun r s q => ?_)
        cases q
        show k_W X _ _ _ _ _ ([])
        refine r_iinc (v := (x1 + 1)) (L' := [some (k_p 0 (i0)), some (k_i ((x1 + 1))), some (k_p 7 (j9)), some (k_p 5 (j11))]) h dX7_settleAllAnew_86 rfl rfl (by decide) rfl ?_
        refine r_goto (tgt := 9) h dX7_settleAllAnew_89 (by decide) ?_
        exact r_forget (L' := [some (k_p 0 (i0)), some (k_i ((x1 + 1))), none, none]) (k_le_ok ⟨rfl, ⟨rfl, trivial⟩⟩) (ih v18.2 ((x1 + 1)) _ hoc kk)
      · replace hoc := (if_neg c13).symm.trans hoc
        refine r_aload_n h dX7_settleAllAnew_44 rfl ?_
        obtain ⟨j20, q21, hoc⟩ := k_ob hoc
        refine r_getR h kf_X7_38 dX7_settleAllAnew_45 rfl rfl (by decide) rfl (Eq.trans rfl q21) ?_
        refine r_aload_n h dX7_settleAllAnew_48 rfl ?_
        refine r_getI h kf_X7_346 dX7_settleAllAnew_49 rfl rfl (by decide) rfl ?_
        obtain ⟨v22, q23, hoc⟩ := k_ob hoc
        refine r_callV h hMe (rest := []) (as := [k_i (k_I σ 5 (j11) (0))]) (oc := .inl (k_mU v22.1, v22.2)) (j_X5_lift la hla G _ (j20) (k_I σ 5 (j11) (0)) _ q23) kl_X7_251 dX7_settleAllAnew_52 rfl rfl rfl rfl rfl ⟨rfl, rfl, Nat.le_of_ble_eq_true rfl, Nat.le_of_ble_eq_true rfl, Nat.le_of_ble_eq_true rfl, Nat.le_of_ble_eq_true rfl, Nat.le_of_ble_eq_true rfl⟩ (fun E q => by cases q) (fun r s q => ?_)
        cases q
        show k_W X _ _ _ _ _ ([])
        refine r_goto (tgt := 86) h dX7_settleAllAnew_55 (by decide) ?_
        refine r_iinc (v := (x1 + 1)) (L' := [some (k_p 0 (i0)), some (k_i ((x1 + 1))), some (k_p 7 (j9)), some (k_p 5 (j11))]) h dX7_settleAllAnew_86 rfl rfl (by decide) rfl ?_
        refine r_goto (tgt := 9) h dX7_settleAllAnew_89 (by decide) ?_
        exact r_forget (L' := [some (k_p 0 (i0)), some (k_i ((x1 + 1))), none, none]) (k_le_ok ⟨rfl, ⟨rfl, trivial⟩⟩) (ih v22.2 ((x1 + 1)) _ hoc kk)
def f_X7_settleAllAnew (σ : k_S) (i0 : Nat) : Option (Unit × k_S) :=
  ((k_P σ 0 (i0) (7)).bind fun j1 => ((f_X5_wipe σ (j1)).bind fun v3 => ((f_X7_settleAllAnew_l1 200 i0 v3.2 (0)).bind fun v24 => some (((), v24.2)))))
theorem j_X7_settleAllAnew (la : Launch) (hla : la.flags = flags0) (G : k_G) (σ : k_S) (i0 : Nat) (x : (Unit × k_S)) (hoc : f_X7_settleAllAnew σ i0 = some x) : k_Ct la G yX7_settleAllAnew (k_ws yX7_settleAllAnew cX7_settleAllAnew 4 (Option.none : Option ClassFile.FieldType)) { frames := 5, cells := 0, slots := 0, locals := 125 } [k_p 0 (i0)] σ (.inl (k_mU x.1, x.2)) 0 0 := by
  refine k_body hla (by decide +kernel) (k_wl rfl) (Nat.le_of_ble_eq_true rfl) (fun X h hEn hMe => ?_)
  show k_W X σ 0 0 0 [some (k_p 0 (i0)), none, none, none] []
  unfold f_X7_settleAllAnew at hoc
  refine r_aload_n h dX7_settleAllAnew_0 rfl ?_
  obtain ⟨j1, q2, hoc⟩ := k_ob hoc
  refine r_getR h kf_X7_38 dX7_settleAllAnew_1 rfl rfl (by decide) rfl (Eq.trans rfl q2) ?_
  obtain ⟨v3, q4, hoc⟩ := k_ob hoc
  refine r_callV h hMe (rest := []) (as := []) (oc := .inl (k_mU v3.1, v3.2)) (j_X5_wipe la hla G _ (j1) _ q4) kl_X7_376 dX7_settleAllAnew_4 rfl rfl rfl rfl rfl ⟨rfl, rfl, Nat.le_of_ble_eq_true rfl, Nat.le_of_ble_eq_true rfl, Nat.le_of_ble_eq_true rfl, Nat.le_of_ble_eq_true rfl, Nat.le_of_ble_eq_true rfl⟩ (fun E q => by cases q) (fun r s q => ?_)
  cases q
  show k_W X _ _ _ _ _ ([])
  refine r_iconst (v := 0) h dX7_settleAllAnew_7 (by decide) ?_
  refine r_istore_n (L' := [some (k_p 0 (i0)), some (k_i (0)), none, none]) h dX7_settleAllAnew_8 (by decide) rfl ?_
  obtain ⟨v24, q25, hoc⟩ := k_ob hoc
  refine j_X7_settleAllAnew_l1 la hla G X σ h hMe i0 200 v3.2 (0) _ q25 ?_
  cases hoc
  exact r_return h hEn dX7_settleAllAnew_92 rfl rfl (by decide) (by decide)
