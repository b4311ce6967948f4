/-! ===== walks 14 (written by wip/whole/gen_walk.py, emit_walk.py) ===== -/
def f_X8_vote (σ : k_S) (i0 : Nat) (a1 : Int32) (a2 : Int32) (a3 : Int32) : Option (Int32 × k_S) :=
  ((f_X8_isReport (k_uI σ 1 (i0) (0) (0)) (i0) (a1)).bind fun v1 => (if v1 = 0 then ((f_X8_fails (k_uI σ 1 (i0) (0) (0)) (i0) (1)).bind fun v4 => some ((v4.1, v4.2))) else ((f_X8_isUser (k_uI σ 1 (i0) (0) (0)) (i0) (a2)).bind fun v6 => (if v6 = 0 then ((f_X8_fails (k_uI σ 1 (i0) (0) (0)) (i0) (1)).bind fun v54 => some ((v54.1, v54.2))) else ((k_P σ 1 (i0) (24)).bind fun j9 => (if 0 ≤ a1 ∧ (a1).toNatClampNeg < 20 then (if k_I σ 38 (j9) ((a1).toNatClampNeg) = (100 : Int32) then ((f_X8_fails (k_uI σ 1 (i0) (0) (0)) (i0) (2)).bind fun v52 => some ((v52.1, v52.2))) else ((k_P σ 1 (i0) (15)).bind fun j13 => (if 0 ≤ a1 ∧ (a1).toNatClampNeg < 20 then (if a2 = k_I σ 29 (j13) ((a1).toNatClampNeg) then ((f_X8_fails (k_uI σ 1 (i0) (0) (0)) (i0) (3)).bind fun v17 => some ((v17.1, v17.2))) else ((k_P σ 1 (i0) (16)).bind fun j19 => (if 0 ≤ a1 ∧ (a1).toNatClampNeg < 20 then (if a2 = k_I σ 30 (j19) ((a1).toNatClampNeg) then ((f_X8_fails (k_uI σ 1 (i0) (0) (0)) (i0) (3)).bind fun v23 => some ((v23.1, v23.2))) else ((f_X8_sanctionsOf (k_uI σ 1 (i0) (0) (0)) (i0) (a2)).bind fun v25 => (if v25 ≤ 0 then ((k_P σ 1 (i0) (27)).bind fun j28 => (if 0 ≤ a1 ∧ (a1).toNatClampNeg < 20 then ((k_P σ 41 (j28) ((a1).toNatClampNeg)).bind fun j31 => (if a3 = 0 then ((k_P σ 1 (i0) (6)).bind fun j34 => (if 0 ≤ a2 ∧ (a2).toNatClampNeg < 8 then (if 0 ≤ a2 ∧ (a2).toNatClampNeg < 8 then ((f_X8_weight (k_uI (k_uI σ 1 (i0) (0) (0)) 42 (j31) ((a2).toNatClampNeg) ((-(k_I σ 25 (j34) ((a2).toNatClampNeg))))) (i0) (a1) (1)).bind fun v38 => ((f_X8_weight (k_uI (k_uI σ 1 (i0) (0) (0)) 42 (j31) ((a2).toNatClampNeg) ((-(k_I σ 25 (j34) ((a2).toNatClampNeg))))) (i0) (a1) (-1)).bind fun v40 => some (((v38 + v40), (k_uI (k_uI σ 1 (i0) (0) (0)) 42 (j31) ((a2).toNatClampNeg) ((-(k_I σ 25 (j34) ((a2).toNatClampNeg))))))))) else none) else none)) else ((k_P σ 1 (i0) (6)).bind fun j42 => (if 0 ≤ a2 ∧ (a2).toNatClampNeg < 8 then (if 0 ≤ a2 ∧ (a2).toNatClampNeg < 8 then ((f_X8_weight (k_uI (k_uI σ 1 (i0) (0) (0)) 42 (j31) ((a2).toNatClampNeg) (k_I σ 25 (j42) ((a2).toNatClampNeg))) (i0) (a1) (1)).bind fun v46 => ((f_X8_weight (k_uI (k_uI σ 1 (i0) (0) (0)) 42 (j31) ((a2).toNatClampNeg) (k_I σ 25 (j42) ((a2).toNatClampNeg))) (i0) (a1) (-1)).bind fun v48 => some (((v46 + v48), (k_uI (k_uI σ 1 (i0) (0) (0)) 42 (j31) ((a2).toNatClampNeg) (k_I σ 25 (j42) ((a2).toNatClampNeg))))))) else none) else none)))) else none)) else ((f_X8_fails (k_uI σ 1 (i0) (0) (0)) (i0) (3)).bind fun v50 => some ((v50.1, v50.2)))))) else none))) else none))) else none))))))
theorem j_X8_vote (la : Launch) (hla : la.flags = flags0) (G : k_G) (σ : k_S) (i0 : Nat) (a1 : Int32) (a2 : Int32) (a3 : Int32) (x : (Int32 × k_S)) (hoc : f_X8_vote σ i0 a1 a2 a3 = some x) : k_Ct la G yX8_vote (k_ws yX8_vote cX8_vote 4 (Option.some ClassFile.FieldType.int)) { frames := 3, cells := 0, slots := 0, locals := 68 } [k_p 1 (i0), k_i (a1), k_i (a2), k_i (a3)] σ (.inl (k_mI x.1, x.2)) 0 0 := by
  refine k_body hla (by decide +kernel) (k_wl rfl) (Nat.le_of_ble_eq_true rfl) (fun X h hEn hMe => ?_)
  show k_W X σ 0 0 0 [some (k_p 1 (i0)), some (k_i (a1)), some (k_i (a2)), some (k_i (a3))] []
  unfold f_X8_vote at hoc
  refine r_aload_n h dX8_vote_0 rfl ?_
  refine r_iconst (v := 0) h dX8_vote_1 (by decide) ?_
  refine r_putI (x := 0) h kp_X8_84 dX8_vote_2 rfl rfl (by decide) rfl rfl (k_fit_int _) ?_
  refine r_aload_n h dX8_vote_5 rfl ?_
  refine r_iload_n h dX8_vote_6 rfl ?_
  obtain ⟨v1, q2, hoc⟩ := k_ob hoc
  refine r_callV h hMe (rest := []) (as := [k_i (a1)]) (oc := .inl (k_mI v1, (k_uI σ 1 (i0) (0) (0)))) (j_X8_isReport la hla G _ (i0) (a1) _ q2) kl_X8_124 dX8_vote_7 rfl rfl rfl rfl rfl ⟨rfl, rfl, Nat.le_of_ble_eq_true rfl, Nat.le_of_ble_eq_true rfl, Nat.le_of_ble_eq_true rfl, Nat.le_of_ble_eq_true rfl, Nat.le_of_ble_eq_true rfl⟩ (fun E q => by cases q) (fun r s q => ?_)
  cases q
  show k_W X _ _ _ _ _ ([k_i (v1)])
  refine r_if_eq (tgt := 21) h dX8_vote_10 (by decide) (fun c3 => ?_) (fun c3 => ?_)
  · replace hoc := (if_pos c3).symm.trans hoc
    refine r_aload_n h dX8_vote_21 rfl ?_
    refine r_iconst (v := 1) h dX8_vote_22 (by decide) ?_
    obtain ⟨v4, q5, hoc⟩ := k_ob hoc
    refine r_callV h hMe (rest := []) (as := [k_i (1)]) (oc := .inl (k_mI v4.1, v4.2)) (j_X8_fails la hla G _ (i0) (1) _ q5) kl_X8_103 dX8_vote_23 rfl rfl rfl rfl rfl ⟨rfl, rfl, Nat.le_of_ble_eq_true rfl, Nat.le_of_ble_eq_true rfl, Nat.le_of_ble_eq_true rfl, Nat.le_of_ble_eq_true rfl, Nat.le_of_ble_eq_true rfl⟩ (fun E q => by cases q) (fun r s q => ?_)
    cases q
    show k_W X _ _ _ _ _ ([k_i (v4.1)])
    cases hoc
    exact r_ireturn h hEn dX8_vote_26 rfl rfl rfl (by decide) (by decide)
  · replace hoc := (if_neg c3).symm.trans hoc
    refine r_aload_n h dX8_vote_13 rfl ?_
    refine r_iload_n h dX8_vote_14 rfl ?_
    obtain ⟨v6, q7, hoc⟩ := k_ob hoc
    refine r_callV h hMe (rest := []) (as := [k_i (a2)]) (oc := .inl (k_mI v6, (k_uI σ 1 (i0) (0) (0)))) (j_X8_isUser la hla G _ (i0) (a2) _ q7) kl_X8_130 dX8_vote_15 rfl rfl rfl rfl rfl ⟨rfl, rfl, Nat.le_of_ble_eq_true rfl, Nat.le_of_ble_eq_true rfl, Nat.le_of_ble_eq_true rfl, Nat.le_of_ble_eq_true rfl, Nat.le_of_ble_eq_true rfl⟩ (fun E q => by cases q) (fun r s q => ?_)
    cases q
    show k_W X _ _ _ _ _ ([k_i (v6)])
    refine r_if_ne (tgt := 27) h dX8_vote_18 (by decide) (fun c8 => ?_) (fun c8 => ?_)
    · replace hoc := (if_neg c8).symm.trans hoc
      refine r_aload_n h dX8_vote_27 rfl ?_
      obtain ⟨j9, q10, hoc⟩ := k_ob hoc
      refine r_getR h kf_X8_69 dX8_vote_28 rfl rfl (by decide) rfl (Eq.trans rfl q10) ?_
      refine r_iload_n h dX8_vote_31 rfl ?_
      obtain ⟨c11, hoc⟩ := k_gd hoc
      refine r_caload (y := (a1).toNatClampNeg) (t := 0) h dX8_vote_32 rfl rfl rfl (k_xx c11.1) c11.2 (by decide) ?_
      refine r_eqI (k_I_l (by decide)) ?_
      refine r_bipush (v := 100) h dX8_vote_33 (by decide) ?_
      refine r_icmp_ne (tgt := 44) h dX8_vote_35 (by decide) (fun c12 => ?_) (fun c12 => ?_)
      · replace hoc := (if_neg c12).symm.trans hoc
        refine r_iload_n h dX8_vote_44 rfl ?_
        refine r_aload_n h dX8_vote_45 rfl ?_
        obtain ⟨j13, q14, hoc⟩ := k_ob hoc
        refine r_getR h kf_X8_42 dX8_vote_46 rfl rfl (by decide) rfl (Eq.trans rfl q14) ?_
        refine r_iload_n h dX8_vote_49 rfl ?_
        obtain ⟨c15, hoc⟩ := k_gd hoc
        refine r_iaload (y := (a1).toNatClampNeg) (t := 0) h dX8_vote_50 rfl rfl rfl (k_xx c15.1) c15.2 (by decide) ?_
        refine r_eqI (k_I_l (by decide)) ?_
        refine r_icmp_eq (tgt := 72) h dX8_vote_51 (by decide) (fun c16 => ?_) (fun c16 => ?_)
        · replace hoc := (if_pos c16).symm.trans hoc
          refine r_aload_n h dX8_vote_72 rfl ?_
          refine r_iconst (v := 3) h dX8_vote_73 (by decide) ?_
          obtain ⟨v17, q18, hoc⟩ := k_ob hoc
          refine r_callV h hMe (rest := []) (as := [k_i (3)]) (oc := .inl (k_mI v17.1, v17.2)) (j_X8_fails la hla G _ (i0) (3) _ q18) kl_X8_103 dX8_vote_74 rfl rfl rfl rfl rfl ⟨rfl, rfl, Nat.le_of_ble_eq_true rfl, Nat.le_of_ble_eq_true rfl, Nat.le_of_ble_eq_true rfl, Nat.le_of_ble_eq_true rfl, Nat.le_of_ble_eq_true rfl⟩ (fun E q => by cases q) (fun r s q => ?_)
          cases q
          show k_W X _ _ _ _ _ ([k_i (v17.1)])
          cases hoc
          exact r_ireturn h hEn dX8_vote_77 rfl rfl rfl (by decide) (by decide)
        · replace hoc := (if_neg c16).symm.trans hoc
          refine r_iload_n h dX8_vote_54 rfl ?_
          refine r_aload_n h dX8_vote_55 rfl ?_
          obtain ⟨j19, q20, hoc⟩ := k_ob hoc
          refine r_getR h kf_X8_45 dX8_vote_56 rfl rfl (by decide) rfl (Eq.trans rfl q20) ?_
          refine r_iload_n h dX8_vote_59 rfl ?_
          obtain ⟨c21, hoc⟩ := k_gd hoc
          refine r_iaload (y := (a1).toNatClampNeg) (t := 0) h dX8_vote_60 rfl rfl rfl (k_xx c21.1) c21.2 (by decide) ?_
          refine r_eqI (k_I_l (by decide)) ?_
          refine r_icmp_eq (tgt := 72) h dX8_vote_61 (by decide) (fun c22 => ?_) (fun c22 => ?_)
          · replace hoc := (if_pos c22).symm.trans hoc
            refine r_aload_n h dX8_vote_72 rfl ?_
            refine r_iconst (v := 3) h dX8_vote_73 (by decide) ?_
            obtain ⟨v23, q24, hoc⟩ := k_ob hoc
            refine r_callV h hMe (rest := []) (as := [k_i (3)]) (oc := .inl (k_mI v23.1, v23.2)) (j_X8_fails la hla G _ (i0) (3) _ q24) kl_X8_103 dX8_vote_74 rfl rfl rfl rfl rfl ⟨rfl, rfl, Nat.le_of_ble_eq_true rfl, Nat.le_of_ble_eq_true rfl, Nat.le_of_ble_eq_true rfl, Nat.le_of_ble_eq_true rfl, Nat.le_of_ble_eq_true rfl⟩ (fun E q => by cases q) (fun r s q => ?_)
            cases q
            show k_W X _ _ _ _ _ ([k_i (v23.1)])
            cases hoc
            exact r_ireturn h hEn dX8_vote_77 rfl rfl rfl (by decide) (by decide)
          · replace hoc := (if_neg c22).symm.trans hoc
            refine r_aload_n h dX8_vote_64 rfl ?_
            refine r_iload_n h dX8_vote_65 rfl ?_
            obtain ⟨v25, q26, hoc⟩ := k_ob hoc
            refine r_callV h hMe (rest := []) (as := [k_i (a2)]) (oc := .inl (k_mI v25, (k_uI σ 1 (i0) (0) (0)))) (j_X8_sanctionsOf la hla G _ (i0) (a2) _ q26) kl_X8_140 dX8_vote_66 rfl rfl rfl rfl rfl ⟨rfl, rfl, Nat.le_of_ble_eq_true rfl, Nat.le_of_ble_eq_true rfl, Nat.le_of_ble_eq_true rfl, Nat.le_of_ble_eq_true rfl, Nat.le_of_ble_eq_true rfl⟩ (fun E q => by cases q) (fun r s q => ?_)
            cases q
            show k_W X _ _ _ _ _ ([k_i (v25)])
            refine r_if_le (tgt := 78) h dX8_vote_69 (by decide) (fun c27 => ?_) (fun c27 => ?_)
            · replace hoc := (if_pos c27).symm.trans hoc
              refine r_aload_n h dX8_vote_78 rfl ?_
              obtain ⟨j28, q29, hoc⟩ := k_ob hoc
              refine r_getR h kf_X8_81 dX8_vote_79 rfl rfl (by decide) rfl (Eq.trans rfl q29) ?_
              refine r_iload_n h dX8_vote_82 rfl ?_
              obtain ⟨c30, hoc⟩ := k_gd hoc
              obtain ⟨j31, q32, hoc⟩ := k_ob hoc
              refine r_aaload (y := (a1).toNatClampNeg) (t := 0) h dX8_vote_83 rfl rfl rfl (Eq.trans rfl q32) (k_xx c30.1) c30.2 (by decide) ?_
              refine r_iload_n h dX8_vote_84 rfl ?_
              refine r_iload_n h dX8_vote_85 rfl ?_
              refine r_if_eq (tgt := 98) h dX8_vote_86 (by decide) (fun c33 => ?_) (fun c33 => ?_)
              · replace hoc := (if_pos c33).symm.trans hoc
                refine r_aload_n h dX8_vote_98 rfl ?_
                obtain ⟨j34, q35, hoc⟩ := k_ob hoc
                refine r_getR h kf_X8_25 dX8_vote_99 rfl rfl (by decide) rfl (Eq.trans rfl q35) ?_
                refine r_iload_n h dX8_vote_102 rfl ?_
                obtain ⟨c36, hoc⟩ := k_gd hoc
                refine r_iaload (y := (a2).toNatClampNeg) (t := 0) h dX8_vote_103 rfl rfl rfl (k_xx c36.1) c36.2 (by decide) ?_
                refine r_eqI (k_I_l (by decide)) ?_
                refine r_ineg h dX8_vote_104 ?_
                obtain ⟨c37, hoc⟩ := k_gd hoc
                refine r_iastore (y := (a2).toNatClampNeg) (t := 0) (x := (-(k_I σ 25 (j34) ((a2).toNatClampNeg)))) h dX8_vote_105 rfl rfl rfl rfl (k_fit_int _) (k_xx c37.1) c37.2 (by decide) ?_
                refine r_aload_n h dX8_vote_106 rfl ?_
                refine r_iload_n h dX8_vote_107 rfl ?_
                refine r_iconst (v := 1) h dX8_vote_108 (by decide) ?_
                obtain ⟨v38, q39, hoc⟩ := k_ob hoc
                refine r_callV h hMe (rest := []) (as := [k_i (a1), k_i (1)]) (oc := .inl (k_mI v38, (k_uI (k_uI σ 1 (i0) (0) (0)) 42 (j31) ((a2).toNatClampNeg) ((-(k_I σ 25 (j34) ((a2).toNatClampNeg))))))) (j_X8_weight la hla G _ (i0) (a1) (1) _ q39) kl_X8_166 dX8_vote_109 rfl rfl rfl rfl rfl ⟨rfl, rfl, Nat.le_of_ble_eq_true rfl, Nat.le_of_ble_eq_true rfl, Nat.le_of_ble_eq_true rfl, Nat.le_of_ble_eq_true rfl, Nat.le_of_ble_eq_true rfl⟩ (fun E q => by cases q) (fun r s q => ?_)
                cases q
                show k_W X _ _ _ _ _ ([k_i (v38)])
                refine r_aload_n h dX8_vote_112 rfl ?_
                refine r_iload_n h dX8_vote_113 rfl ?_
                refine r_iconst (v := -1) h dX8_vote_114 (by decide) ?_
                obtain ⟨v40, q41, hoc⟩ := k_ob hoc
                refine r_callV h hMe (rest := [k_i (v38)]) (as := [k_i (a1), k_i (-1)]) (oc := .inl (k_mI v40, (k_uI (k_uI σ 1 (i0) (0) (0)) 42 (j31) ((a2).toNatClampNeg) ((-(k_I σ 25 (j34) ((a2).toNatClampNeg))))))) (j_X8_weight la hla G _ (i0) (a1) (-1) _ q41) kl_X8_166 dX8_vote_115 rfl rfl rfl rfl rfl ⟨rfl, rfl, Nat.le_of_ble_eq_true rfl, Nat.le_of_ble_eq_true rfl, Nat.le_of_ble_eq_true rfl, Nat.le_of_ble_eq_true rfl, Nat.le_of_ble_eq_true rfl⟩ (fun E q => by cases q) (fun r s q => ?_)
                cases q
                show k_W X _ _ _ _ _ ([k_i (v40), k_i (v38)])
                refine r_iadd h dX8_vote_118 ?_
                cases hoc
                exact r_ireturn h hEn dX8_vote_119 rfl rfl rfl (by decide) (by decide)
              · replace hoc := (if_neg c33).symm.trans hoc
                refine r_aload_n h dX8_vote_89 rfl ?_
                obtain ⟨j42, q43, hoc⟩ := k_ob hoc
                refine r_getR h kf_X8_25 dX8_vote_90 rfl rfl (by decide) rfl (Eq.trans rfl q43) ?_
                refine r_iload_n h dX8_vote_93 rfl ?_
                obtain ⟨c44, hoc⟩ := k_gd hoc
                refine r_iaload (y := (a2).toNatClampNeg) (t := 0) h dX8_vote_94 rfl rfl rfl (k_xx c44.1) c44.2 (by decide) ?_
                refine r_eqI (k_I_l (by decide)) ?_
                refine r_goto (tgt := 105) h dX8_vote_95 (by decide) ?_
                obtain ⟨c45, hoc⟩ := k_gd hoc
                refine r_iastore (y := (a2).toNatClampNeg) (t := 0) (x := k_I σ 25 (j42) ((a2).toNatClampNeg)) h dX8_vote_105 rfl rfl rfl rfl (k_fit_int _) (k_xx c45.1) c45.2 (by decide) ?_
                refine r_aload_n h dX8_vote_106 rfl ?_
                refine r_iload_n h dX8_vote_107 rfl ?_
                refine r_iconst (v := 1) h dX8_vote_108 (by decide) ?_
                obtain ⟨v46, q47, hoc⟩ := k_ob hoc
                refine r_callV h hMe (rest := []) (as := [k_i (a1), k_i (1)]) (oc := .inl (k_mI v46, (k_uI (k_uI σ 1 (i0) (0) (0)) 42 (j31) ((a2).toNatClampNeg) (k_I σ 25 (j42) ((a2).toNatClampNeg))))) (j_X8_weight la hla G _ (i0) (a1) (1) _ q47) kl_X8_166 dX8_vote_109 rfl rfl rfl rfl rfl ⟨rfl, rfl, Nat.le_of_ble_eq_true rfl, Nat.le_of_ble_eq_true rfl, Nat.le_of_ble_eq_true rfl, Nat.le_of_ble_eq_true rfl, Nat.le_of_ble_eq_true rfl⟩ (fun E q => by cases q) (fun r s q => ?_)
                cases q
                show k_W X _ _ _ _ _ ([k_i (v46)])
                refine r_aload_n h dX8_vote_112 rfl ?_
                refine r_iload_n h dX8_vote_113 rfl ?_
                refine r_iconst (v := -1) h dX8_vote_114 (by decide) ?_
                obtain ⟨v48, q49, hoc⟩ := k_ob hoc
                refine r_callV h hMe (rest := [k_i (v46)]) (as := [k_i (a1), k_i (-1)]) (oc := .inl (k_mI v48, (k_uI (k_uI σ 1 (i0) (0) (0)) 42 (j31) ((a2).toNatClampNeg) (k_I σ 25 (j42) ((a2).toNatClampNeg))))) (j_X8_weight la hla G _ (i0) (a1) (-1) _ q49) kl_X8_166 dX8_vote_115 rfl rfl rfl rfl rfl ⟨rfl, rfl, Nat.le_of_ble_eq_true rfl, Nat.le_of_ble_eq_true rfl, Nat.le_of_ble_eq_true rfl, Nat.le_of_ble_eq_true rfl, Nat.le_of_ble_eq_true rfl⟩ (fun E q => by cases q) (fun r s q => ?_)
                cases q
                show k_W X _ _ _ _ _ ([k_i (v48), k_i (v46)])
                refine r_iadd h dX8_vote_118 ?_
                cases hoc
                exact r_ireturn h hEn dX8_vote_119 rfl rfl rfl (by decide) (by decide)
            · replace hoc := (if_neg c27).symm.trans hoc
              refine r_aload_n h dX8_vote_72 rfl ?_
              refine r_iconst (v := 3) h dX8_vote_73 (by decide) ?_
              obtain ⟨v50, q51, hoc⟩ := k_ob hoc
              refine r_callV h hMe (rest := []) (as := [k_i (3)]) (oc := .inl (k_mI v50.1, v50.2)) (j_X8_fails la hla G _ (i0) (3) _ q51) kl_X8_103 dX8_vote_74 rfl rfl rfl rfl rfl ⟨rfl, rfl, Nat.le_of_ble_eq_true rfl, Nat.le_of_ble_eq_true rfl, Nat.le_of_ble_eq_true rfl, Nat.le_of_ble_eq_true rfl, Nat.le_of_ble_eq_true rfl⟩ (fun E q => by cases q) (fun r s q => ?_)
              cases q
              show k_W X _ _ _ _ _ ([k_i (v50.1)])
              cases hoc
              exact r_ireturn h hEn dX8_vote_77 rfl rfl rfl (by decide) (by decide)
      · replace hoc := (if_pos c12).symm.trans hoc
        refine r_aload_n h dX8_vote_38 rfl ?_
        refine r_iconst (v := 2) h dX8_vote_39 (by decide) ?_
        obtain ⟨v52, q53, hoc⟩ := k_ob hoc
        refine r_callV h hMe (rest := []) (as := [k_i (2)]) (oc := .inl (k_mI v52.1, v52.2)) (j_X8_fails la hla G _ (i0) (2) _ q53) kl_X8_103 dX8_vote_40 rfl rfl rfl rfl rfl ⟨rfl, rfl, Nat.le_of_ble_eq_true rfl, Nat.le_of_ble_eq_true rfl, Nat.le_of_ble_eq_true rfl, Nat.le_of_ble_eq_true rfl, Nat.le_of_ble_eq_true rfl⟩ (fun E q => by cases q) (fun r s q => ?_)
        cases q
        show k_W X _ _ _ _ _ ([k_i (v52.1)])
        cases hoc
        exact r_ireturn h hEn dX8_vote_43 rfl rfl rfl (by decide) (by decide)
    · replace hoc := (if_pos c8).symm.trans hoc
      refine r_aload_n h dX8_vote_21 rfl ?_
      refine r_iconst (v := 1) h dX8_vote_22 (by decide) ?_
      obtain ⟨v54, q55, hoc⟩ := k_ob hoc
      refine r_callV h hMe (rest := []) (as := [k_i (1)]) (oc := .inl (k_mI v54.1, v54.2)) (j_X8_fails la hla G _ (i0) (1) _ q55) kl_X8_103 dX8_vote_23 rfl rfl rfl rfl rfl ⟨rfl, rfl, Nat.le_of_ble_eq_true rfl, Nat.le_of_ble_eq_true rfl, Nat.le_of_ble_eq_true rfl, Nat.le_of_ble_eq_true rfl, Nat.le_of_ble_eq_true rfl⟩ (fun E q => by cases q) (fun r s q => ?_)
      cases q
      show k_W X _ _ _ _ _ ([k_i (v54.1)])
      cases hoc
      exact r_ireturn h hEn dX8_vote_26 rfl rfl rfl (by decide) (by decide)
def f_X8_isNone (σ : k_S) (i0 : Nat) (a1 : Int32) : Option (Int32 × k_S) :=
  ((f_X8_isReport σ (i0) (a1)).bind fun v1 => (if v1 = 0 then (if (1 : Int32) ≤ 0 then some ((0, (k_uI σ 1 (i0) (0) (1)))) else some ((1, (k_uI σ 1 (i0) (0) (1))))) else (if (0 : Int32) ≤ 0 then some ((0, (k_uI σ 1 (i0) (0) (0)))) else some ((1, (k_uI σ 1 (i0) (0) (0)))))))
theorem j_X8_isNone (la : Launch) (hla : la.flags = flags0) (G : k_G) (σ : k_S) (i0 : Nat) (a1 : Int32) (x : (Int32 × k_S)) (hoc : f_X8_isNone σ i0 a1 = some x) : k_Ct la G yX8_isNone (k_ws yX8_isNone cX8_isNone 2 (Option.some ClassFile.FieldType.boolean)) { frames := 2, cells := 0, slots := 0, locals := 44 } [k_p 1 (i0), k_i (a1)] σ (.inl (k_mI x.1, x.2)) 0 0 := by
  refine k_body hla (by decide +kernel) (k_wl rfl) (Nat.le_of_ble_eq_true rfl) (fun X h hEn hMe => ?_)
  show k_W X σ 0 0 0 [some (k_p 1 (i0)), some (k_i (a1))] []
  unfold f_X8_isNone at hoc
  refine r_aload_n h dX8_isNone_0 rfl ?_
  refine r_aload_n h dX8_isNone_1 rfl ?_
  refine r_iload_n h dX8_isNone_2 rfl ?_
  obtain ⟨v1, q2, hoc⟩ := k_ob hoc
  refine r_callV h hMe (rest := [k_p 1 (i0)]) (as := [k_i (a1)]) (oc := .inl (k_mI v1, σ)) (j_X8_isReport la hla G _ (i0) (a1) _ q2) kl_X8_124 dX8_isNone_3 rfl rfl rfl rfl rfl ⟨rfl, rfl, Nat.le_of_ble_eq_true rfl, Nat.le_of_ble_eq_true rfl, Nat.le_of_ble_eq_true rfl, Nat.le_of_ble_eq_true rfl, Nat.le_of_ble_eq_true rfl⟩ (fun E q => by cases q) (fun r s q => ?_)
  cases q
  show k_W X _ _ _ _ _ ([k_i (v1), k_p 1 (i0)])
  refine r_if_eq (tgt := 13) h dX8_isNone_6 (by decide) (fun c3 => ?_) (fun c3 => ?_)
  · replace hoc := (if_pos c3).symm.trans hoc
    refine r_iconst (v := 1) h dX8_isNone_13 (by decide) ?_
    refine r_putI (x := 1) h kp_X8_84 dX8_isNone_14 rfl rfl (by decide) rfl rfl (k_fit_int _) ?_
    refine r_aload_n h dX8_isNone_17 rfl ?_
    refine r_getI h kf_X8_84 dX8_isNone_18 rfl rfl (by decide) rfl ?_
    refine r_eqI k_I_s ?_
    refine r_if_le (tgt := 28) h dX8_isNone_21 (by decide) (fun c4 => ?_) (fun c4 => ?_)
    · replace hoc := (if_pos c4).symm.trans hoc
      refine r_iconst (v := 0) h dX8_isNone_28 (by decide) ?_
      cases hoc
      exact r_ireturn h hEn dX8_isNone_29 rfl (by decide) rfl (by decide) (by decide)
    · replace hoc := (if_neg c4).symm.trans hoc
      refine r_iconst (v := 1) h dX8_isNone_24 (by decide) ?_
      refine r_goto (tgt := 29) h dX8_isNone_25 (by decide) ?_
      cases hoc
      exact r_ireturn h hEn dX8_isNone_29 rfl (by decide) rfl (by decide) (by decide)
  · replace hoc := (if_neg c3).symm.trans hoc
    refine r_iconst (v := 0) h dX8_isNone_9 (by decide) ?_
    refine r_goto (tgt := 14) h dX8_isNone_10 (by decide) ?_
    refine r_putI (x := 0) h kp_X8_84 dX8_isNone_14 rfl rfl (by decide) rfl rfl (k_fit_int _) ?_
    refine r_aload_n h dX8_isNone_17 rfl ?_
    refine r_getI h kf_X8_84 dX8_isNone_18 rfl rfl (by decide) rfl ?_
    refine r_eqI k_I_s ?_
    refine r_if_le (tgt := 28) h dX8_isNone_21 (by decide) (fun c5 => ?_) (fun c5 => ?_)
    · replace hoc := (if_pos c5).symm.trans hoc
      refine r_iconst (v := 0) h dX8_isNone_28 (by decide) ?_
      cases hoc
      exact r_ireturn h hEn dX8_isNone_29 rfl (by decide) rfl (by decide) (by decide)
    · replace hoc := (if_neg c5).symm.trans hoc
      refine r_iconst (v := 1) h dX8_isNone_24 (by decide) ?_
      refine r_goto (tgt := 29) h dX8_isNone_25 (by decide) ?_
      cases hoc
      exact r_ireturn h hEn dX8_isNone_29 rfl (by decide) rfl (by decide) (by decide)
def f_X8_weightFor (σ : k_S) (i0 : Nat) (a1 : Int32) : Option (Int32 × k_S) :=
  ((f_X8_isNone σ (i0) (a1)).bind fun v1 => (if v1.1 = 0 then ((f_X8_weight v1.2 (i0) (a1) (1)).bind fun v4 => some ((v4, v1.2))) else some ((0, v1.2))))
theorem j_X8_weightFor (la : Launch) (hla : la.flags = flags0) (G : k_G) (σ : k_S) (i0 : Nat) (a1 : Int32) (x : (Int32 × k_S)) (hoc : f_X8_weightFor σ i0 a1 = some x) : k_Ct la G yX8_weightFor (k_ws yX8_weightFor cX8_weightFor 2 (Option.some ClassFile.FieldType.int)) { frames := 3, cells := 0, slots := 0, locals := 65 } [k_p 1 (i0), k_i (a1)] σ (.inl (k_mI x.1, x.2)) 0 0 := by
  refine k_body hla (by decide +kernel) (k_wl rfl) (Nat.le_of_ble_eq_true rfl) (fun X h hEn hMe => ?_)
  show k_W X σ 0 0 0 [some (k_p 1 (i0)), some (k_i (a1))] []
  unfold f_X8_weightFor at hoc
  refine r_aload_n h dX8_weightFor_0 rfl ?_
  refine r_iload_n h dX8_weightFor_1 rfl ?_
  obtain ⟨v1, q2, hoc⟩ := k_ob hoc
  refine r_callV h hMe (rest := []) (as := [k_i (a1)]) (oc := .inl (k_mI v1.1, v1.2)) (j_X8_isNone la hla G _ (i0) (a1) _ q2) kl_X8_169 dX8_weightFor_2 rfl rfl rfl rfl rfl ⟨rfl, rfl, Nat.le_of_ble_eq_true rfl, Nat.le_of_ble_eq_true rfl, Nat.le_of_ble_eq_true rfl, Nat.le_of_ble_eq_true rfl, Nat.le_of_ble_eq_true rfl⟩ (fun E q => by cases q) (fun r s q => ?_)
  cases q
  show k_W X _ _ _ _ _ ([k_i (v1.1)])
  refine r_if_eq (tgt := 12) h dX8_weightFor_5 (by decide) (fun c3 => ?_) (fun c3 => ?_)
  · replace hoc := (if_pos c3).symm.trans hoc
    refine r_aload_n h dX8_weightFor_12 rfl ?_
    refine r_iload_n h dX8_weightFor_13 rfl ?_
    refine r_iconst (v := 1) h dX8_weightFor_14 (by decide) ?_
    obtain ⟨v4, q5, hoc⟩ := k_ob hoc
    refine r_callV h hMe (rest := []) (as := [k_i (a1), k_i (1)]) (oc := .inl (k_mI v4, v1.2)) (j_X8_weight la hla G _ (i0) (a1) (1) _ q5) kl_X8_166 dX8_weightFor_15 rfl rfl rfl rfl rfl ⟨rfl, rfl, Nat.le_of_ble_eq_true rfl, Nat.le_of_ble_eq_true rfl, Nat.le_of_ble_eq_true rfl, Nat.le_of_ble_eq_true rfl, Nat.le_of_ble_eq_true rfl⟩ (fun E q => by cases q) (fun r s q => ?_)
    cases q
    show k_W X _ _ _ _ _ ([k_i (v4)])
    cases hoc
    exact r_ireturn h hEn dX8_weightFor_18 rfl rfl rfl (by decide) (by decide)
  · replace hoc := (if_neg c3).symm.trans hoc
    refine r_iconst (v := 0) h dX8_weightFor_8 (by decide) ?_
    refine r_goto (tgt := 18) h dX8_weightFor_9 (by decide) ?_
    cases hoc
    exact r_ireturn h hEn dX8_weightFor_18 rfl rfl rfl (by decide) (by decide)
def f_X8_weightAgainst (σ : k_S) (i0 : Nat) (a1 : Int32) : Option (Int32 × k_S) :=
  ((f_X8_isNone σ (i0) (a1)).bind fun v1 => (if v1.1 = 0 then ((f_X8_weight v1.2 (i0) (a1) (-1)).bind fun v4 => some ((v4, v1.2))) else some ((0, v1.2))))
theorem j_X8_weightAgainst (la : Launch) (hla : la.flags = flags0) (G : k_G) (σ : k_S) (i0 : Nat) (a1 : Int32) (x : (Int32 × k_S)) (hoc : f_X8_weightAgainst σ i0 a1 = some x) : k_Ct la G yX8_weightAgainst (k_ws yX8_weightAgainst cX8_weightAgainst 2 (Option.some ClassFile.FieldType.int)) { frames := 3, cells := 0, slots := 0, locals := 65 } [k_p 1 (i0), k_i (a1)] σ (.inl (k_mI x.1, x.2)) 0 0 := by
  refine k_body hla (by decide +kernel) (k_wl rfl) (Nat.le_of_ble_eq_true rfl) (fun X h hEn hMe => ?_)
  show k_W X σ 0 0 0 [some (k_p 1 (i0)), some (k_i (a1))] []
  unfold f_X8_weightAgainst at hoc
  refine r_aload_n h dX8_weightAgainst_0 rfl ?_
  refine r_iload_n h dX8_weightAgainst_1 rfl ?_
  obtain ⟨v1, q2, hoc⟩ := k_ob hoc
  refine r_callV h hMe (rest := []) (as := [k_i (a1)]) (oc := .inl (k_mI v1.1, v1.2)) (j_X8_isNone la hla G _ (i0) (a1) _ q2) kl_X8_169 dX8_weightAgainst_2 rfl rfl rfl rfl rfl ⟨rfl, rfl, Nat.le_of_ble_eq_true rfl, Nat.le_of_ble_eq_true rfl, Nat.le_of_ble_eq_true rfl, Nat.le_of_ble_eq_true rfl, Nat.le_of_ble_eq_true rfl⟩ (fun E q => by cases q) (fun r s q => ?_)
  cases q
  show k_W X _ _ _ _ _ ([k_i (v1.1)])
  refine r_if_eq (tgt := 12) h dX8_weightAgainst_5 (by decide) (fun c3 => ?_) (fun c3 => ?_)
  · replace hoc := (if_pos c3).symm.trans hoc
    refine r_aload_n h dX8_weightAgainst_12 rfl ?_
    refine r_iload_n h dX8_weightAgainst_13 rfl ?_
    refine r_iconst (v := -1) h dX8_weightAgainst_14 (by decide) ?_
    obtain ⟨v4, q5, hoc⟩ := k_ob hoc
    refine r_callV h hMe (rest := []) (as := [k_i (a1), k_i (-1)]) (oc := .inl (k_mI v4, v1.2)) (j_X8_weight la hla G _ (i0) (a1) (-1) _ q5) kl_X8_166 dX8_weightAgainst_15 rfl rfl rfl rfl rfl ⟨rfl, rfl, Nat.le_of_ble_eq_true rfl, Nat.le_of_ble_eq_true rfl, Nat.le_of_ble_eq_true rfl, Nat.le_of_ble_eq_true rfl, Nat.le_of_ble_eq_true rfl⟩ (fun E q => by cases q) (fun r s q => ?_)
    cases q
    show k_W X _ _ _ _ _ ([k_i (v4)])
    cases hoc
    exact r_ireturn h hEn dX8_weightAgainst_18 rfl rfl rfl (by decide) (by decide)
  · replace hoc := (if_neg c3).symm.trans hoc
    refine r_iconst (v := 0) h dX8_weightAgainst_8 (by decide) ?_
    refine r_goto (tgt := 18) h dX8_weightAgainst_9 (by decide) ?_
    cases hoc
    exact r_ireturn h hEn dX8_weightAgainst_18 rfl rfl rfl (by decide) (by decide)
def f_X8_setQuorum (σ : k_S) (i0 : Nat) (a1 : Int32) : Option (Int32 × k_S) :=
  ((f_X8_isBetween (k_uI σ 1 (i0) (0) (0)) (a1) (1) (50)).bind fun v1 => (if v1 = 0 then ((f_X8_fails (k_uI σ 1 (i0) (0) (0)) (i0) (1)).bind fun v4 => some ((v4.1, v4.2))) else some ((k_I σ 1 (i0) (13), (k_uI (k_uI σ 1 (i0) (0) (0)) 1 (i0) (13) (a1))))))
theorem j_X8_setQuorum (la : Launch) (hla : la.flags = flags0) (G : k_G) (σ : k_S) (i0 : Nat) (a1 : Int32) (x : (Int32 × k_S)) (hoc : f_X8_setQuorum σ i0 a1 = some x) : k_Ct la G yX8_setQuorum (k_ws yX8_setQuorum cX8_setQuorum 3 (Option.some ClassFile.FieldType.int)) { frames := 1, cells := 0, slots := 0, locals := 23 } [k_p 1 (i0), k_i (a1)] σ (.inl (k_mI x.1, x.2)) 0 0 := by
  refine k_body hla (by decide +kernel) (k_wl rfl) (Nat.le_of_ble_eq_true rfl) (fun X h hEn hMe => ?_)
  show k_W X σ 0 0 0 [some (k_p 1 (i0)), some (k_i (a1)), none] []
  unfold f_X8_setQuorum at hoc
  refine r_aload_n h dX8_setQuorum_0 rfl ?_
  refine r_iconst (v := 0) h dX8_setQuorum_1 (by decide) ?_
  refine r_putI (x := 0) h kp_X8_84 dX8_setQuorum_2 rfl rfl (by decide) rfl rfl (k_fit_int _) ?_
  refine r_iload_n h dX8_setQuorum_5 rfl ?_
  refine r_iconst (v := 1) h dX8_setQuorum_6 (by decide) ?_
  refine r_bipush (v := 50) h dX8_setQuorum_7 (by decide) ?_
  obtain ⟨v1, q2, hoc⟩ := k_ob hoc
  refine r_callS h hMe (rest := []) (as := [k_i (a1), k_i (1), k_i (50)]) (oc := .inl (k_mI v1, (k_uI σ 1 (i0) (0) (0)))) (j_X8_isBetween la hla G _ (a1) (1) (50) _ q2) kl_X8_90 dX8_setQuorum_9 rfl rfl  ⟨rfl, rfl, Nat.le_of_ble_eq_true rfl, Nat.le_of_ble_eq_true rfl, Nat.le_of_ble_eq_true rfl, Nat.le_of_ble_eq_true rfl, Nat.le_of_ble_eq_true rfl⟩ (fun E q => by cases q) (fun r s q => ?_)
  cases q
  show k_W X _ _ _ _ _ ([k_i (v1)])
  refine r_if_ne (tgt := 21) h dX8_setQuorum_12 (by decide) (fun c3 => ?_) (fun c3 => ?_)
  · replace hoc := (if_neg c3).symm.trans hoc
    refine r_aload_n h dX8_setQuorum_21 rfl ?_
    refine r_getI h kf_X8_38 dX8_setQuorum_22 rfl rfl (by decide) rfl ?_
    refine r_eqI (k_I_k (by decide)) ?_
    refine r_istore_n (L' := [some (k_p 1 (i0)), some (k_i (a1)), some (k_i (k_I σ 1 (i0) (13)))]) h dX8_setQuorum_25 (by decide) rfl ?_
    refine r_aload_n h dX8_setQuorum_26 rfl ?_
    refine r_iload_n h dX8_setQuorum_27 rfl ?_
    refine r_putI (x := a1) h kp_X8_38 dX8_setQuorum_28 rfl rfl (by decide) rfl rfl (k_fit_int _) ?_
    refine r_iload_n h dX8_setQuorum_31 rfl ?_
    cases hoc
    exact r_ireturn h hEn dX8_setQuorum_32 rfl rfl rfl (by decide) (by decide)
  · replace hoc := (if_pos c3).symm.trans hoc
    refine r_aload_n h dX8_setQuorum_15 rfl ?_
    refine r_iconst (v := 1) h dX8_setQuorum_16 (by decide) ?_
    obtain ⟨v4, q5, hoc⟩ := k_ob hoc
    refine r_callV h hMe (rest := []) (as := [k_i (1)]) (oc := .inl (k_mI v4.1, v4.2)) (j_X8_fails la hla G _ (i0) (1) _ q5) kl_X8_103 dX8_setQuorum_17 rfl rfl rfl rfl rfl ⟨rfl, rfl, Nat.le_of_ble_eq_true rfl, Nat.le_of_ble_eq_true rfl, Nat.le_of_ble_eq_true rfl, Nat.le_of_ble_eq_true rfl, Nat.le_of_ble_eq_true rfl⟩ (fun E q => by cases q) (fun r s q => ?_)
    cases q
    show k_W X _ _ _ _ _ ([k_i (v4.1)])
    cases hoc
    exact r_ireturn h hEn dX8_setQuorum_20 rfl rfl rfl (by decide) (by decide)
def f_X8_precedent (σ : k_S) (i0 : Nat) (a1 : Int32) : Option (Int32 × k_S) :=
  ((f_X8_isNone σ (i0) (a1)).bind fun v1 => (if v1.1 = 0 then ((f_X8_precedentOf v1.2 (i0) (a1)).bind fun v4 => (if 0 ≤ v4 then ((f_X8_precedentOf v1.2 (i0) (a1)).bind fun v7 => some ((v7, v1.2))) else ((f_X8_fails v1.2 (i0) (2)).bind fun v9 => some ((v9.1, v9.2))))) else some ((0, v1.2))))
theorem j_X8_precedent (la : Launch) (hla : la.flags = flags0) (G : k_G) (σ : k_S) (i0 : Nat) (a1 : Int32) (x : (Int32 × k_S)) (hoc : f_X8_precedent σ i0 a1 = some x) : k_Ct la G yX8_precedent (k_ws yX8_precedent cX8_precedent 2 (Option.some ClassFile.FieldType.int)) { frames := 3, cells := 0, slots := 0, locals := 66 } [k_p 1 (i0), k_i (a1)] σ (.inl (k_mI x.1, x.2)) 0 0 := by
  refine k_body hla (by decide +kernel) (k_wl rfl) (Nat.le_of_ble_eq_true rfl) (fun X h hEn hMe => ?_)
  show k_W X σ 0 0 0 [some (k_p 1 (i0)), some (k_i (a1))] []
  unfold f_X8_precedent at hoc
  refine r_aload_n h dX8_precedent_0 rfl ?_
  refine r_iload_n h dX8_precedent_1 rfl ?_
  obtain ⟨v1, q2, hoc⟩ := k_ob hoc
  refine r_callV h hMe (rest := []) (as := [k_i (a1)]) (oc := .inl (k_mI v1.1, v1.2)) (j_X8_isNone la hla G _ (i0) (a1) _ q2) kl_X8_169 dX8_precedent_2 rfl rfl rfl rfl rfl ⟨rfl, rfl, Nat.le_of_ble_eq_true rfl, Nat.le_of_ble_eq_true rfl, Nat.le_of_ble_eq_true rfl, Nat.le_of_ble_eq_true rfl, Nat.le_of_ble_eq_true rfl⟩ (fun E q => by cases q) (fun r s q => ?_)
  cases q
  show k_W X _ _ _ _ _ ([k_i (v1.1)])
  refine r_if_eq (tgt := 10) h dX8_precedent_5 (by decide) (fun c3 => ?_) (fun c3 => ?_)
  · replace hoc := (if_pos c3).symm.trans hoc
    refine r_aload_n h dX8_precedent_10 rfl ?_
    refine r_iload_n h dX8_precedent_11 rfl ?_
    obtain ⟨v4, q5, hoc⟩ := k_ob hoc
    refine r_callV h hMe (rest := []) (as := [k_i (a1)]) (oc := .inl (k_mI v4, v1.2)) (j_X8_precedentOf la hla G _ (i0) (a1) _ q5) kl_X8_152 dX8_precedent_12 rfl rfl rfl rfl rfl ⟨rfl, rfl, Nat.le_of_ble_eq_true rfl, Nat.le_of_ble_eq_true rfl, Nat.le_of_ble_eq_true rfl, Nat.le_of_ble_eq_true rfl, Nat.le_of_ble_eq_true rfl⟩ (fun E q => by cases q) (fun r s q => ?_)
    cases q
    show k_W X _ _ _ _ _ ([k_i (v4)])
    refine r_if_ge (tgt := 26) h dX8_precedent_15 (by decide) (fun c6 => ?_) (fun c6 => ?_)
    · replace hoc := (if_pos c6).symm.trans hoc
      refine r_aload_n h dX8_precedent_26 rfl ?_
      refine r_iload_n h dX8_precedent_27 rfl ?_
      obtain ⟨v7, q8, hoc⟩ := k_ob hoc
      refine r_callV h hMe (rest := []) (as := [k_i (a1)]) (oc := .inl (k_mI v7, v1.2)) (j_X8_precedentOf la hla G _ (i0) (a1) _ q8) kl_X8_152 dX8_precedent_28 rfl rfl rfl rfl rfl ⟨rfl, rfl, Nat.le_of_ble_eq_true rfl, Nat.le_of_ble_eq_true rfl, Nat.le_of_ble_eq_true rfl, Nat.le_of_ble_eq_true rfl, Nat.le_of_ble_eq_true rfl⟩ (fun E q => by cases q) (fun r s q => ?_)
      cases q
      show k_W X _ _ _ _ _ ([k_i (v7)])
      cases hoc
      exact r_ireturn h hEn dX8_precedent_31 rfl rfl rfl (by decide) (by decide)
    · replace hoc := (if_neg c6).symm.trans hoc
      refine r_aload_n h dX8_precedent_18 rfl ?_
      refine r_iconst (v := 2) h dX8_precedent_19 (by decide) ?_
      obtain ⟨v9, q10, hoc⟩ := k_ob hoc
      refine r_callV h hMe (rest := []) (as := [k_i (2)]) (oc := .inl (k_mI v9.1, v9.2)) (j_X8_fails la hla G _ (i0) (2) _ q10) kl_X8_103 dX8_precedent_20 rfl rfl rfl rfl rfl ⟨rfl, rfl, Nat.le_of_ble_eq_true rfl, Nat.le_of_ble_eq_true rfl, Nat.le_of_ble_eq_true rfl, Nat.le_of_ble_eq_true rfl, Nat.le_of_ble_eq_true rfl⟩ (fun E q => by cases q) (fun r s q => ?_)
      cases q
      show k_W X _ _ _ _ _ ([k_i (v9.1)])
      refine r_goto (tgt := 31) h dX8_precedent_23 (by decide) ?_
      cases hoc
      exact r_ireturn h hEn dX8_precedent_31 rfl rfl rfl (by decide) (by decide)
  · replace hoc := (if_neg c3).symm.trans hoc
    refine r_iconst (v := 0) h dX8_precedent_8 (by decide) ?_
    cases hoc
    exact r_ireturn h hEn dX8_precedent_9 rfl rfl rfl (by decide) (by decide)
def f_X8_decide (σ : k_S) (i0 : Nat) (a1 : Int32) : Option (Int32 × k_S) :=
  ((f_X8_isNone σ (i0) (a1)).bind fun v1 => (if v1.1 = 0 then ((k_P v1.2 1 (i0) (24)).bind fun j4 => (if 0 ≤ a1 ∧ (a1).toNatClampNeg < 20 then (if k_I v1.2 38 (j4) ((a1).toNatClampNeg) = (100 : Int32) then ((f_X8_fails v1.2 (i0) (2)).bind fun v208 => (if k_isC ((((v208.1) : Int32).toUInt32 % 65536).toInt32) = true then some (((((v208.1) : Int32).toUInt32 % 65536).toInt32, v208.2)) else none)) else ((f_X8_weight v1.2 (i0) (a1) (1)).bind fun v8 => ((f_X8_weight v1.2 (i0) (a1) (-1)).bind fun v10 => (if k_I v1.2 1 (i0) (13) ≤ (v8 + v10) then (if 0 ≤ a1 ∧ (a1).toNatClampNeg < 20 then (if k_I v1.2 38 (j4) ((a1).toNatClampNeg) = (101 : Int32) then ((k_P v1.2 1 (i0) (21)).bind fun j110 => (if 0 ≤ a1 ∧ (a1).toNatClampNeg < 20 then ((f_X8_weight v1.2 (i0) (a1) (1)).bind fun v113 => ((f_X8_weight v1.2 (i0) (a1) (-1)).bind fun v115 => ((f_X8_decides v1.2 (i0) (a1) (v113) (v115) (-1)).bind fun v117 => (if (1 : Int32) = 0 then ((k_P v117.2 1 (i0) (25)).bind fun j201 => (if 0 ≤ a1 ∧ (a1).toNatClampNeg < 20 then (if k_isC (k_I v117.2 39 (j201) ((a1).toNatClampNeg)) = true then some ((k_I v117.2 39 (j201) ((a1).toNatClampNeg), v117.2)) else none) else none)) else ((k_P v117.2 1 (i0) (25)).bind fun j120 => (if 0 ≤ a1 ∧ (a1).toNatClampNeg < 20 then ((k_P v117.2 1 (i0) (26)).bind fun j123 => (if 0 ≤ a1 ∧ (a1).toNatClampNeg < 20 then (if k_I v117.2 39 (j120) ((a1).toNatClampNeg) = k_I v117.2 40 (j123) ((a1).toNatClampNeg) then (if (0 : Int32) = 0 then (if k_I v1.2 35 (j110) ((a1).toNatClampNeg) < 0 then (if 0 ≤ a1 ∧ (a1).toNatClampNeg < 20 then (if k_isC (k_I v117.2 39 (j120) ((a1).toNatClampNeg)) = true then some ((k_I v117.2 39 (j120) ((a1).toNatClampNeg), (k_uI (k_uI v117.2 1 (i0) (30) ((k_I v117.2 1 (i0) (30) + 1))) 1 (i0) (31) ((k_I v117.2 1 (i0) (31) + 0))))) else none) else none) else (if 0 ≤ a1 ∧ (a1).toNatClampNeg < 20 then (if k_I v117.2 40 (j123) ((a1).toNatClampNeg) = (103 : Int32) then ((k_P v117.2 1 (i0) (8)).bind fun j135 => (if (0 : Int32) = 0 then (if 0 ≤ k_I v1.2 35 (j110) ((a1).toNatClampNeg) ∧ (k_I v1.2 35 (j110) ((a1).toNatClampNeg)).toNatClampNeg < 4 then (if 0 ≤ k_I v1.2 35 (j110) ((a1).toNatClampNeg) ∧ (k_I v1.2 35 (j110) ((a1).toNatClampNeg)).toNatClampNeg < 4 then (if 0 ≤ a1 ∧ (a1).toNatClampNeg < 20 then (if k_isC (k_I v117.2 39 (j120) ((a1).toNatClampNeg)) = true then some ((k_I v117.2 39 (j120) ((a1).toNatClampNeg), (k_uI (k_uI (k_uI v117.2 1 (i0) (30) ((k_I v117.2 1 (i0) (30) + 1))) 1 (i0) (31) ((k_I v117.2 1 (i0) (31) + 0))) 27 (j135) ((k_I v1.2 35 (j110) ((a1).toNatClampNeg)).toNatClampNeg) ((if (50 : Int32) < (k_I v117.2 27 (j135) ((k_I v1.2 35 (j110) ((a1).toNatClampNeg)).toNatClampNeg) - 1) then (k_I v117.2 27 (j135) ((k_I v1.2 35 (j110) ((a1).toNatClampNeg)).toNatClampNeg) - 1) else (50 : Int32)))))) else none) else none) else none) else none) else (if 0 ≤ k_I v1.2 35 (j110) ((a1).toNatClampNeg) ∧ (k_I v1.2 35 (j110) ((a1).toNatClampNeg)).toNatClampNeg < 4 then (if 0 ≤ k_I v1.2 35 (j110) ((a1).toNatClampNeg) ∧ (k_I v1.2 35 (j110) ((a1).toNatClampNeg)).toNatClampNeg < 4 then (if 0 ≤ a1 ∧ (a1).toNatClampNeg < 20 then (if k_isC (k_I v117.2 39 (j120) ((a1).toNatClampNeg)) = true then some ((k_I v117.2 39 (j120) ((a1).toNatClampNeg), (k_uI (k_uI (k_uI v117.2 1 (i0) (30) ((k_I v117.2 1 (i0) (30) + 1))) 1 (i0) (31) ((k_I v117.2 1 (i0) (31) + 0))) 27 (j135) ((k_I v1.2 35 (j110) ((a1).toNatClampNeg)).toNatClampNeg) ((if (k_I v117.2 27 (j135) ((k_I v1.2 35 (j110) ((a1).toNatClampNeg)).toNatClampNeg) + 5) < (100 : Int32) then (k_I v117.2 27 (j135) ((k_I v1.2 35 (j110) ((a1).toNatClampNeg)).toNatClampNeg) + 5) else (100 : Int32)))))) else none) else none) else none) else none))) else (if 0 ≤ a1 ∧ (a1).toNatClampNeg < 20 then (if k_isC (k_I v117.2 39 (j120) ((a1).toNatClampNeg)) = true then some ((k_I v117.2 39 (j120) ((a1).toNatClampNeg), (k_uI (k_uI v117.2 1 (i0) (30) ((k_I v117.2 1 (i0) (30) + 1))) 1 (i0) (31) ((k_I v117.2 1 (i0) (31) + 0))))) else none) else none)) else none)) else (if k_I v1.2 35 (j110) ((a1).toNatClampNeg) < 0 then (if 0 ≤ a1 ∧ (a1).toNatClampNeg < 20 then (if k_isC (k_I v117.2 39 (j120) ((a1).toNatClampNeg)) = true then some ((k_I v117.2 39 (j120) ((a1).toNatClampNeg), (k_uI (k_uI v117.2 1 (i0) (30) ((k_I v117.2 1 (i0) (30) + 1))) 1 (i0) (31) ((k_I v117.2 1 (i0) (31) + 1))))) else none) else none) else (if 0 ≤ a1 ∧ (a1).toNatClampNeg < 20 then (if k_I v117.2 40 (j123) ((a1).toNatClampNeg) = (103 : Int32) then ((k_P v117.2 1 (i0) (8)).bind fun j153 => (if (0 : Int32) = 0 then (if 0 ≤ k_I v1.2 35 (j110) ((a1).toNatClampNeg) ∧ (k_I v1.2 35 (j110) ((a1).toNatClampNeg)).toNatClampNeg < 4 then (if 0 ≤ k_I v1.2 35 (j110) ((a1).toNatClampNeg) ∧ (k_I v1.2 35 (j110) ((a1).toNatClampNeg)).toNatClampNeg < 4 then (if 0 ≤ a1 ∧ (a1).toNatClampNeg < 20 then (if k_isC (k_I v117.2 39 (j120) ((a1).toNatClampNeg)) = true then some ((k_I v117.2 39 (j120) ((a1).toNatClampNeg), (k_uI (k_uI (k_uI v117.2 1 (i0) (30) ((k_I v117.2 1 (i0) (30) + 1))) 1 (i0) (31) ((k_I v117.2 1 (i0) (31) + 1))) 27 (j153) ((k_I v1.2 35 (j110) ((a1).toNatClampNeg)).toNatClampNeg) ((if (50 : Int32) < (k_I v117.2 27 (j153) ((k_I v1.2 35 (j110) ((a1).toNatClampNeg)).toNatClampNeg) - 1) then (k_I v117.2 27 (j153) ((k_I v1.2 35 (j110) ((a1).toNatClampNeg)).toNatClampNeg) - 1) else (50 : Int32)))))) else none) else none) else none) else none) else (if 0 ≤ k_I v1.2 35 (j110) ((a1).toNatClampNeg) ∧ (k_I v1.2 35 (j110) ((a1).toNatClampNeg)).toNatClampNeg < 4 then (if 0 ≤ k_I v1.2 35 (j110) ((a1).toNatClampNeg) ∧ (k_I v1.2 35 (j110) ((a1).toNatClampNeg)).toNatClampNeg < 4 then (if 0 ≤ a1 ∧ (a1).toNatClampNeg < 20 then (if k_isC (k_I v117.2 39 (j120) ((a1).toNatClampNeg)) = true then some ((k_I v117.2 39 (j120) ((a1).toNatClampNeg), (k_uI (k_uI (k_uI v117.2 1 (i0) (30) ((k_I v117.2 1 (i0) (30) + 1))) 1 (i0) (31) ((k_I v117.2 1 (i0) (31) + 1))) 27 (j153) ((k_I v1.2 35 (j110) ((a1).toNatClampNeg)).toNatClampNeg) ((if (k_I v117.2 27 (j153) ((k_I v1.2 35 (j110) ((a1).toNatClampNeg)).toNatClampNeg) + 5) < (100 : Int32) then (k_I v117.2 27 (j153) ((k_I v1.2 35 (j110) ((a1).toNatClampNeg)).toNatClampNeg) + 5) else (100 : Int32)))))) else none) else none) else none) else none))) else (if 0 ≤ a1 ∧ (a1).toNatClampNeg < 20 then (if k_isC (k_I v117.2 39 (j120) ((a1).toNatClampNeg)) = true then some ((k_I v117.2 39 (j120) ((a1).toNatClampNeg), (k_uI (k_uI v117.2 1 (i0) (30) ((k_I v117.2 1 (i0) (30) + 1))) 1 (i0) (31) ((k_I v117.2 1 (i0) (31) + 1))))) else none) else none)) else none))) else (if (1 : Int32) = 0 then (if k_I v1.2 35 (j110) ((a1).toNatClampNeg) < 0 then (if 0 ≤ a1 ∧ (a1).toNatClampNeg < 20 then (if k_isC (k_I v117.2 39 (j120) ((a1).toNatClampNeg)) = true then some ((k_I v117.2 39 (j120) ((a1).toNatClampNeg), (k_uI (k_uI v117.2 1 (i0) (30) ((k_I v117.2 1 (i0) (30) + 1))) 1 (i0) (31) ((k_I v117.2 1 (i0) (31) + 0))))) else none) else none) else (if 0 ≤ a1 ∧ (a1).toNatClampNeg < 20 then (if k_I v117.2 40 (j123) ((a1).toNatClampNeg) = (103 : Int32) then ((k_P v117.2 1 (i0) (8)).bind fun j172 => (if (1 : Int32) = 0 then (if 0 ≤ k_I v1.2 35 (j110) ((a1).toNatClampNeg) ∧ (k_I v1.2 35 (j110) ((a1).toNatClampNeg)).toNatClampNeg < 4 then (if 0 ≤ k_I v1.2 35 (j110) ((a1).toNatClampNeg) ∧ (k_I v1.2 35 (j110) ((a1).toNatClampNeg)).toNatClampNeg < 4 then (if 0 ≤ a1 ∧ (a1).toNatClampNeg < 20 then (if k_isC (k_I v117.2 39 (j120) ((a1).toNatClampNeg)) = true then some ((k_I v117.2 39 (j120) ((a1).toNatClampNeg), (k_uI (k_uI (k_uI v117.2 1 (i0) (30) ((k_I v117.2 1 (i0) (30) + 1))) 1 (i0) (31) ((k_I v117.2 1 (i0) (31) + 0))) 27 (j172) ((k_I v1.2 35 (j110) ((a1).toNatClampNeg)).toNatClampNeg) ((if (50 : Int32) < (k_I v117.2 27 (j172) ((k_I v1.2 35 (j110) ((a1).toNatClampNeg)).toNatClampNeg) - 1) then (k_I v117.2 27 (j172) ((k_I v1.2 35 (j110) ((a1).toNatClampNeg)).toNatClampNeg) - 1) else (50 : Int32)))))) else none) else none) else none) else none) else (if 0 ≤ k_I v1.2 35 (j110) ((a1).toNatClampNeg) ∧ (k_I v1.2 35 (j110) ((a1).toNatClampNeg)).toNatClampNeg < 4 then (if 0 ≤ k_I v1.2 35 (j110) ((a1).toNatClampNeg) ∧ (k_I v1.2 35 (j110) ((a1).toNatClampNeg)).toNatClampNeg < 4 then (if 0 ≤ a1 ∧ (a1).toNatClampNeg < 20 then (if k_isC (k_I v117.2 39 (j120) ((a1).toNatClampNeg)) = true then some ((k_I v117.2 39 (j120) ((a1).toNatClampNeg), (k_uI (k_uI (k_uI v117.2 1 (i0) (30) ((k_I v117.2 1 (i0) (30) + 1))) 1 (i0) (31) ((k_I v117.2 1 (i0) (31) + 0))) 27 (j172) ((k_I v1.2 35 (j110) ((a1).toNatClampNeg)).toNatClampNeg) ((if (k_I v117.2 27 (j172) ((k_I v1.2 35 (j110) ((a1).toNatClampNeg)).toNatClampNeg) + 5) < (100 : Int32) then (k_I v117.2 27 (j172) ((k_I v1.2 35 (j110) ((a1).toNatClampNeg)).toNatClampNeg) + 5) else (100 : Int32)))))) else none) else none) else none) else none))) else (if 0 ≤ a1 ∧ (a1).toNatClampNeg < 20 then (if k_isC (k_I v117.2 39 (j120) ((a1).toNatClampNeg)) = true then some ((k_I v117.2 39 (j120) ((a1).toNatClampNeg), (k_uI (k_uI v117.2 1 (i0) (30) ((k_I v117.2 1 (i0) (30) + 1))) 1 (i0) (31) ((k_I v117.2 1 (i0) (31) + 0))))) else none) else none)) else none)) else (if k_I v1.2 35 (j110) ((a1).toNatClampNeg) < 0 then (if 0 ≤ a1 ∧ (a1).toNatClampNeg < 20 then (if k_isC (k_I v117.2 39 (j120) ((a1).toNatClampNeg)) = true then some ((k_I v117.2 39 (j120) ((a1).toNatClampNeg), (k_uI (k_uI v117.2 1 (i0) (30) ((k_I v117.2 1 (i0) (30) + 1))) 1 (i0) (31) ((k_I v117.2 1 (i0) (31) + 1))))) else none) else none) else (if 0 ≤ a1 ∧ (a1).toNatClampNeg < 20 then (if k_I v117.2 40 (j123) ((a1).toNatClampNeg) = (103 : Int32) then ((k_P v117.2 1 (i0) (8)).bind fun j190 => (if (1 : Int32) = 0 then (if 0 ≤ k_I v1.2 35 (j110) ((a1).toNatClampNeg) ∧ (k_I v1.2 35 (j110) ((a1).toNatClampNeg)).toNatClampNeg < 4 then (if 0 ≤ k_I v1.2 35 (j110) ((a1).toNatClampNeg) ∧ (k_I v1.2 35 (j110) ((a1).toNatClampNeg)).toNatClampNeg < 4 then (if 0 ≤ a1 ∧ (a1).toNatClampNeg < 20 then (if k_isC (k_I v117.2 39 (j120) ((a1).toNatClampNeg)) = true then some ((k_I v117.2 39 (j120) ((a1).toNatClampNeg), (k_uI (k_uI (k_uI v117.2 1 (i0) (30) ((k_I v117.2 1 (i0) (30) + 1))) 1 (i0) (31) ((k_I v117.2 1 (i0) (31) + 1))) 27 (j190) ((k_I v1.2 35 (j110) ((a1).toNatClampNeg)).toNatClampNeg) ((if (50 : Int32) < (k_I v117.2 27 (j190) ((k_I v1.2 35 (j110) ((a1).toNatClampNeg)).toNatClampNeg) - 1) then (k_I v117.2 27 (j190) ((k_I v1.2 35 (j110) ((a1).toNatClampNeg)).toNatClampNeg) - 1) else (50 : Int32)))))) else none) else none) else none) else none) else (if 0 ≤ k_I v1.2 35 (j110) ((a1).toNatClampNeg) ∧ (k_I v1.2 35 (j110) ((a1).toNatClampNeg)).toNatClampNeg < 4 then (if 0 ≤ k_I v1.2 35 (j110) ((a1).toNatClampNeg) ∧ (k_I v1.2 35 (j110) ((a1).toNatClampNeg)).toNatClampNeg < 4 then (if 0 ≤ a1 ∧ (a1).toNatClampNeg < 20 then (if k_isC (k_I v117.2 39 (j120) ((a1).toNatClampNeg)) = true then some ((k_I v117.2 39 (j120) ((a1).toNatClampNeg), (k_uI (k_uI (k_uI v117.2 1 (i0) (30) ((k_I v117.2 1 (i0) (30) + 1))) 1 (i0) (31) ((k_I v117.2 1 (i0) (31) + 1))) 27 (j190) ((k_I v1.2 35 (j110) ((a1).toNatClampNeg)).toNatClampNeg) ((if (k_I v117.2 27 (j190) ((k_I v1.2 35 (j110) ((a1).toNatClampNeg)).toNatClampNeg) + 5) < (100 : Int32) then (k_I v117.2 27 (j190) ((k_I v1.2 35 (j110) ((a1).toNatClampNeg)).toNatClampNeg) + 5) else (100 : Int32)))))) else none) else none) else none) else none))) else (if 0 ≤ a1 ∧ (a1).toNatClampNeg < 20 then (if k_isC (k_I v117.2 39 (j120) ((a1).toNatClampNeg)) = true then some ((k_I v117.2 39 (j120) ((a1).toNatClampNeg), (k_uI (k_uI v117.2 1 (i0) (30) ((k_I v117.2 1 (i0) (30) + 1))) 1 (i0) (31) ((k_I v117.2 1 (i0) (31) + 1))))) else none) else none)) else none)))) else none)) else none)))))) else none)) else ((k_P v1.2 1 (i0) (21)).bind fun j15 => (if 0 ≤ a1 ∧ (a1).toNatClampNeg < 20 then ((f_X8_weight v1.2 (i0) (a1) (1)).bind fun v18 => ((f_X8_weight v1.2 (i0) (a1) (-1)).bind fun v20 => ((f_X8_decides v1.2 (i0) (a1) (v18) (v20) (-1)).bind fun v22 => (if (0 : Int32) = 0 then ((k_P v22.2 1 (i0) (25)).bind fun j106 => (if 0 ≤ a1 ∧ (a1).toNatClampNeg < 20 then (if k_isC (k_I v22.2 39 (j106) ((a1).toNatClampNeg)) = true then some ((k_I v22.2 39 (j106) ((a1).toNatClampNeg), v22.2)) else none) else none)) else ((k_P v22.2 1 (i0) (25)).bind fun j25 => (if 0 ≤ a1 ∧ (a1).toNatClampNeg < 20 then ((k_P v22.2 1 (i0) (26)).bind fun j28 => (if 0 ≤ a1 ∧ (a1).toNatClampNeg < 20 then (if k_I v22.2 39 (j25) ((a1).toNatClampNeg) = k_I v22.2 40 (j28) ((a1).toNatClampNeg) then (if (0 : Int32) = 0 then (if k_I v1.2 35 (j15) ((a1).toNatClampNeg) < 0 then (if 0 ≤ a1 ∧ (a1).toNatClampNeg < 20 then (if k_isC (k_I v22.2 39 (j25) ((a1).toNatClampNeg)) = true then some ((k_I v22.2 39 (j25) ((a1).toNatClampNeg), (k_uI (k_uI v22.2 1 (i0) (30) ((k_I v22.2 1 (i0) (30) + 1))) 1 (i0) (31) ((k_I v22.2 1 (i0) (31) + 0))))) else none) else none) else (if 0 ≤ a1 ∧ (a1).toNatClampNeg < 20 then (if k_I v22.2 40 (j28) ((a1).toNatClampNeg) = (103 : Int32) then ((k_P v22.2 1 (i0) (8)).bind fun j40 => (if (0 : Int32) = 0 then (if 0 ≤ k_I v1.2 35 (j15) ((a1).toNatClampNeg) ∧ (k_I v1.2 35 (j15) ((a1).toNatClampNeg)).toNatClampNeg < 4 then (if 0 ≤ k_I v1.2 35 (j15) ((a1).toNatClampNeg) ∧ (k_I v1.2 35 (j15) ((a1).toNatClampNeg)).toNatClampNeg < 4 then (if 0 ≤ a1 ∧ (a1).toNatClampNeg < 20 then (if k_isC (k_I v22.2 39 (j25) ((a1).toNatClampNeg)) = true then some ((k_I v22.2 39 (j25) ((a1).toNatClampNeg), (k_uI (k_uI (k_uI v22.2 1 (i0) (30) ((k_I v22.2 1 (i0) (30) + 1))) 1 (i0) (31) ((k_I v22.2 1 (i0) (31) + 0))) 27 (j40) ((k_I v1.2 35 (j15) ((a1).toNatClampNeg)).toNatClampNeg) ((if (50 : Int32) < (k_I v22.2 27 (j40) ((k_I v1.2 35 (j15) ((a1).toNatClampNeg)).toNatClampNeg) - 1) then (k_I v22.2 27 (j40) ((k_I v1.2 35 (j15) ((a1).toNatClampNeg)).toNatClampNeg) - 1) else (50 : Int32)))))) else none) else none) else none) else none) else (if 0 ≤ k_I v1.2 35 (j15) ((a1).toNatClampNeg) ∧ (k_I v1.2 35 (j15) ((a1).toNatClampNeg)).toNatClampNeg < 4 then (if 0 ≤ k_I v1.2 35 (j15) ((a1).toNatClampNeg) ∧ (k_I v1.2 35 (j15) ((a1).toNatClampNeg)).toNatClampNeg < 4 then (if 0 ≤ a1 ∧ (a1).toNatClampNeg < 20 then (if k_isC (k_I v22.2 39 (j25) ((a1).toNatClampNeg)) = true then some ((k_I v22.2 39 (j25) ((a1).toNatClampNeg), (k_uI (k_uI (k_uI v22.2 1 (i0) (30) ((k_I v22.2 1 (i0) (30) + 1))) 1 (i0) (31) ((k_I v22.2 1 (i0) (31) + 0))) 27 (j40) ((k_I v1.2 35 (j15) ((a1).toNatClampNeg)).toNatClampNeg) ((if (k_I v22.2 27 (j40) ((k_I v1.2 35 (j15) ((a1).toNatClampNeg)).toNatClampNeg) + 5) < (100 : Int32) then (k_I v22.2 27 (j40) ((k_I v1.2 35 (j15) ((a1).toNatClampNeg)).toNatClampNeg) + 5) else (100 : Int32)))))) else none) else none) else none) else none))) else (if 0 ≤ a1 ∧ (a1).toNatClampNeg < 20 then (if k_isC (k_I v22.2 39 (j25) ((a1).toNatClampNeg)) = true then some ((k_I v22.2 39 (j25) ((a1).toNatClampNeg), (k_uI (k_uI v22.2 1 (i0) (30) ((k_I v22.2 1 (i0) (30) + 1))) 1 (i0) (31) ((k_I v22.2 1 (i0) (31) + 0))))) else none) else none)) else none)) else (if k_I v1.2 35 (j15) ((a1).toNatClampNeg) < 0 then (if 0 ≤ a1 ∧ (a1).toNatClampNeg < 20 then (if k_isC (k_I v22.2 39 (j25) ((a1).toNatClampNeg)) = true then some ((k_I v22.2 39 (j25) ((a1).toNatClampNeg), (k_uI (k_uI v22.2 1 (i0) (30) ((k_I v22.2 1 (i0) (30) + 1))) 1 (i0) (31) ((k_I v22.2 1 (i0) (31) + 1))))) else none) else none) else (if 0 ≤ a1 ∧ (a1).toNatClampNeg < 20 then (if k_I v22.2 40 (j28) ((a1).toNatClampNeg) = (103 : Int32) then ((k_P v22.2 1 (i0) (8)).bind fun j58 => (if (0 : Int32) = 0 then (if 0 ≤ k_I v1.2 35 (j15) ((a1).toNatClampNeg) ∧ (k_I v1.2 35 (j15) ((a1).toNatClampNeg)).toNatClampNeg < 4 then (if 0 ≤ k_I v1.2 35 (j15) ((a1).toNatClampNeg) ∧ (k_I v1.2 35 (j15) ((a1).toNatClampNeg)).toNatClampNeg < 4 then (if 0 ≤ a1 ∧ (a1).toNatClampNeg < 20 then (if k_isC (k_I v22.2 39 (j25) ((a1).toNatClampNeg)) = true then some ((k_I v22.2 39 (j25) ((a1).toNatClampNeg), (k_uI (k_uI (k_uI v22.2 1 (i0) (30) ((k_I v22.2 1 (i0) (30) + 1))) 1 (i0) (31) ((k_I v22.2 1 (i0) (31) + 1))) 27 (j58) ((k_I v1.2 35 (j15) ((a1).toNatClampNeg)).toNatClampNeg) ((if (50 : Int32) < (k_I v22.2 27 (j58) ((k_I v1.2 35 (j15) ((a1).toNatClampNeg)).toNatClampNeg) - 1) then (k_I v22.2 27 (j58) ((k_I v1.2 35 (j15) ((a1).toNatClampNeg)).toNatClampNeg) - 1) else (50 : Int32)))))) else none) else none) else none) else none) else (if 0 ≤ k_I v1.2 35 (j15) ((a1).toNatClampNeg) ∧ (k_I v1.2 35 (j15) ((a1).toNatClampNeg)).toNatClampNeg < 4 then (if 0 ≤ k_I v1.2 35 (j15) ((a1).toNatClampNeg) ∧ (k_I v1.2 35 (j15) ((a1).toNatClampNeg)).toNatClampNeg < 4 then (if 0 ≤ a1 ∧ (a1).toNatClampNeg < 20 then (if k_isC (k_I v22.2 39 (j25) ((a1).toNatClampNeg)) = true then some ((k_I v22.2 39 (j25) ((a1).toNatClampNeg), (k_uI (k_uI (k_uI v22.2 1 (i0) (30) ((k_I v22.2 1 (i0) (30) + 1))) 1 (i0) (31) ((k_I v22.2 1 (i0) (31) + 1))) 27 (j58) ((k_I v1.2 35 (j15) ((a1).toNatClampNeg)).toNatClampNeg) ((if (k_I v22.2 27 (j58) ((k_I v1.2 35 (j15) ((a1).toNatClampNeg)).toNatClampNeg) + 5) < (100 : Int32) then (k_I v22.2 27 (j58) ((k_I v1.2 35 (j15) ((a1).toNatClampNeg)).toNatClampNeg) + 5) else (100 : Int32)))))) else none) else none) else none) else none))) else (if 0 ≤ a1 ∧ (a1).toNatClampNeg < 20 then (if k_isC (k_I v22.2 39 (j25) ((a1).toNatClampNeg)) = true then some ((k_I v22.2 39 (j25) ((a1).toNatClampNeg), (k_uI (k_uI v22.2 1 (i0) (30) ((k_I v22.2 1 (i0) (30) + 1))) 1 (i0) (31) ((k_I v22.2 1 (i0) (31) + 1))))) else none) else none)) else none))) else (if (1 : Int32) = 0 then (if k_I v1.2 35 (j15) ((a1).toNatClampNeg) < 0 then (if 0 ≤ a1 ∧ (a1).toNatClampNeg < 20 then (if k_isC (k_I v22.2 39 (j25) ((a1).toNatClampNeg)) = true then some ((k_I v22.2 39 (j25) ((a1).toNatClampNeg), (k_uI (k_uI v22.2 1 (i0) (30) ((k_I v22.2 1 (i0) (30) + 1))) 1 (i0) (31) ((k_I v22.2 1 (i0) (31) + 0))))) else none) else none) else (if 0 ≤ a1 ∧ (a1).toNatClampNeg < 20 then (if k_I v22.2 40 (j28) ((a1).toNatClampNeg) = (103 : Int32) then ((k_P v22.2 1 (i0) (8)).bind fun j77 => (if (1 : Int32) = 0 then (if 0 ≤ k_I v1.2 35 (j15) ((a1).toNatClampNeg) ∧ (k_I v1.2 35 (j15) ((a1).toNatClampNeg)).toNatClampNeg < 4 then (if 0 ≤ k_I v1.2 35 (j15) ((a1).toNatClampNeg) ∧ (k_I v1.2 35 (j15) ((a1).toNatClampNeg)).toNatClampNeg < 4 then (if 0 ≤ a1 ∧ (a1).toNatClampNeg < 20 then (if k_isC (k_I v22.2 39 (j25) ((a1).toNatClampNeg)) = true then some ((k_I v22.2 39 (j25) ((a1).toNatClampNeg), (k_uI (k_uI (k_uI v22.2 1 (i0) (30) ((k_I v22.2 1 (i0) (30) + 1))) 1 (i0) (31) ((k_I v22.2 1 (i0) (31) + 0))) 27 (j77) ((k_I v1.2 35 (j15) ((a1).toNatClampNeg)).toNatClampNeg) ((if (50 : Int32) < (k_I v22.2 27 (j77) ((k_I v1.2 35 (j15) ((a1).toNatClampNeg)).toNatClampNeg) - 1) then (k_I v22.2 27 (j77) ((k_I v1.2 35 (j15) ((a1).toNatClampNeg)).toNatClampNeg) - 1) else (50 : Int32)))))) else none) else none) else none) else none) else (if 0 ≤ k_I v1.2 35 (j15) ((a1).toNatClampNeg) ∧ (k_I v1.2 35 (j15) ((a1).toNatClampNeg)).toNatClampNeg < 4 then (if 0 ≤ k_I v1.2 35 (j15) ((a1).toNatClampNeg) ∧ (k_I v1.2 35 (j15) ((a1).toNatClampNeg)).toNatClampNeg < 4 then (if 0 ≤ a1 ∧ (a1).toNatClampNeg < 20 then (if k_isC (k_I v22.2 39 (j25) ((a1).toNatClampNeg)) = true then some ((k_I v22.2 39 (j25) ((a1).toNatClampNeg), (k_uI (k_uI (k_uI v22.2 1 (i0) (30) ((k_I v22.2 1 (i0) (30) + 1))) 1 (i0) (31) ((k_I v22.2 1 (i0) (31) + 0))) 27 (j77) ((k_I v1.2 35 (j15) ((a1).toNatClampNeg)).toNatClampNeg) ((if (k_I v22.2 27 (j77) ((k_I v1.2 35 (j15) ((a1).toNatClampNeg)).toNatClampNeg) + 5) < (100 : Int32) then (k_I v22.2 27 (j77) ((k_I v1.2 35 (j15) ((a1).toNatClampNeg)).toNatClampNeg) + 5) else (100 : Int32)))))) else none) else none) else none) else none))) else (if 0 ≤ a1 ∧ (a1).toNatClampNeg < 20 then (if k_isC (k_I v22.2 39 (j25) ((a1).toNatClampNeg)) = true then some ((k_I v22.2 39 (j25) ((a1).toNatClampNeg), (k_uI (k_uI v22.2 1 (i0) (30) ((k_I v22.2 1 (i0) (30) + 1))) 1 (i0) (31) ((k_I v22.2 1 (i0) (31) + 0))))) else none) else none)) else none)) else (if k_I v1.2 35 (j15) ((a1).toNatClampNeg) < 0 then (if 0 ≤ a1 ∧ (a1).toNatClampNeg < 20 then (if k_isC (k_I v22.2 39 (j25) ((a1).toNatClampNeg)) = true then some ((k_I v22.2 39 (j25) ((a1).toNatClampNeg), (k_uI (k_uI v22.2 1 (i0) (30) ((k_I v22.2 1 (i0) (30) + 1))) 1 (i0) (31) ((k_I v22.2 1 (i0) (31) + 1))))) else none) else none) else (if 0 ≤ a1 ∧ (a1).toNatClampNeg < 20 then (if k_I v22.2 40 (j28) ((a1).toNatClampNeg) = (103 : Int32) then ((k_P v22.2 1 (i0) (8)).bind fun j95 => (if (1 : Int32) = 0 then (if 0 ≤ k_I v1.2 35 (j15) ((a1).toNatClampNeg) ∧ (k_I v1.2 35 (j15) ((a1).toNatClampNeg)).toNatClampNeg < 4 then (if 0 ≤ k_I v1.2 35 (j15) ((a1).toNatClampNeg) ∧ (k_I v1.2 35 (j15) ((a1).toNatClampNeg)).toNatClampNeg < 4 then (if 0 ≤ a1 ∧ (a1).toNatClampNeg < 20 then (if k_isC (k_I v22.2 39 (j25) ((a1).toNatClampNeg)) = true then some ((k_I v22.2 39 (j25) ((a1).toNatClampNeg), (k_uI (k_uI (k_uI v22.2 1 (i0) (30) ((k_I v22.2 1 (i0) (30) + 1))) 1 (i0) (31) ((k_I v22.2 1 (i0) (31) + 1))) 27 (j95) ((k_I v1.2 35 (j15) ((a1).toNatClampNeg)).toNatClampNeg) ((if (50 : Int32) < (k_I v22.2 27 (j95) ((k_I v1.2 35 (j15) ((a1).toNatClampNeg)).toNatClampNeg) - 1) then (k_I v22.2 27 (j95) ((k_I v1.2 35 (j15) ((a1).toNatClampNeg)).toNatClampNeg) - 1) else (50 : Int32)))))) else none) else none) else none) else none) else (if 0 ≤ k_I v1.2 35 (j15) ((a1).toNatClampNeg) ∧ (k_I v1.2 35 (j15) ((a1).toNatClampNeg)).toNatClampNeg < 4 then (if 0 ≤ k_I v1.2 35 (j15) ((a1).toNatClampNeg) ∧ (k_I v1.2 35 (j15) ((a1).toNatClampNeg)).toNatClampNeg < 4 then (if 0 ≤ a1 ∧ (a1).toNatClampNeg < 20 then (if k_isC (k_I v22.2 39 (j25) ((a1).toNatClampNeg)) = true then some ((k_I v22.2 39 (j25) ((a1).toNatClampNeg), (k_uI (k_uI (k_uI v22.2 1 (i0) (30) ((k_I v22.2 1 (i0) (30) + 1))) 1 (i0) (31) ((k_I v22.2 1 (i0) (31) + 1))) 27 (j95) ((k_I v1.2 35 (j15) ((a1).toNatClampNeg)).toNatClampNeg) ((if (k_I v22.2 27 (j95) ((k_I v1.2 35 (j15) ((a1).toNatClampNeg)).toNatClampNeg) + 5) < (100 : Int32) then (k_I v22.2 27 (j95) ((k_I v1.2 35 (j15) ((a1).toNatClampNeg)).toNatClampNeg) + 5) else (100 : Int32)))))) else none) else none) else none) else none))) else (if 0 ≤ a1 ∧ (a1).toNatClampNeg < 20 then (if k_isC (k_I v22.2 39 (j25) ((a1).toNatClampNeg)) = true then some ((k_I v22.2 39 (j25) ((a1).toNatClampNeg), (k_uI (k_uI v22.2 1 (i0) (30) ((k_I v22.2 1 (i0) (30) + 1))) 1 (i0) (31) ((k_I v22.2 1 (i0) (31) + 1))))) else none) else none)) else none)))) else none)) else none)))))) else none))) else none) else ((f_X8_fails v1.2 (i0) (3)).bind fun v205 => (if k_isC ((((v205.1) : Int32).toUInt32 % 65536).toInt32) = true then some (((((v205.1) : Int32).toUInt32 % 65536).toInt32, v205.2)) else none)))))) else none)) else some ((0, v1.2))))
theorem j_X8_decide (la : Launch) (hla : la.flags = flags0) (G : k_G) (σ : k_S) (i0 : Nat) (a1 : Int32) (x : (Int32 × k_S)) (hoc : f_X8_decide σ i0 a1 = some x) : k_Ct la G yX8_decide (k_ws yX8_decide cX8_decide 5 (Option.some ClassFile.FieldType.char)) { frames := 5, cells := 0, slots := 0, locals := 117 } [k_p 1 (i0), k_i (a1)] σ (.inl (k_mI x.1, x.2)) 0 0 := by
  refine k_body hla (by decide +kernel) (k_wl rfl) (Nat.le_of_ble_eq_true rfl) (fun X h hEn hMe => ?_)
  show k_W X σ 0 0 0 [some (k_p 1 (i0)), some (k_i (a1)), none, none, none] []
  unfold f_X8_decide at hoc
  refine r_aload_n h dX8_decide_0 rfl ?_
  refine r_iload_n h dX8_decide_1 rfl ?_
  obtain ⟨v1, q2, hoc⟩ := k_ob hoc
  refine r_callV h hMe (rest := []) (as := [k_i (a1)]) (oc := .inl (k_mI v1.1, v1.2)) (j_X8_isNone la hla G _ (i0) (a1) _ q2) kl_X8_169 dX8_decide_2 rfl rfl rfl rfl rfl ⟨rfl, rfl, Nat.le_of_ble_eq_true rfl, Nat.le_of_ble_eq_true rfl, Nat.le_of_ble_eq_true rfl, Nat.le_of_ble_eq_true rfl, Nat.le_of_ble_eq_true rfl⟩ (fun E q => by cases q) (fun r s q => ?_)
  cases q
  show k_W X _ _ _ _ _ ([k_i (v1.1)])
  refine r_if_eq (tgt := 10) h dX8_decide_5 (by decide) (fun c3 => ?_) (fun c3 => ?_)
  · replace hoc := (if_pos c3).symm.trans hoc
    refine r_aload_n h dX8_decide_10 rfl ?_
    obtain ⟨j4, q5, hoc⟩ := k_ob hoc
    refine r_getR h kf_X8_69 dX8_decide_11 rfl rfl (by decide) rfl (Eq.trans rfl q5) ?_
    refine r_iload_n h dX8_decide_14 rfl ?_
    obtain ⟨c6, hoc⟩ := k_gd hoc
    refine r_caload (y := (a1).toNatClampNeg) (t := 0) h dX8_decide_15 rfl rfl rfl (k_xx c6.1) c6.2 (by decide) ?_
    refine r_bipush (v := 100) h dX8_decide_16 (by decide) ?_
    refine r_icmp_ne (tgt := 28) h dX8_decide_18 (by decide) (fun c7 => ?_) (fun c7 => ?_)
    · replace hoc := (if_neg c7).symm.trans hoc
      refine r_aload_n h dX8_decide_28 rfl ?_
      refine r_iload_n h dX8_decide_29 rfl ?_
      refine r_iconst (v := 1) h dX8_decide_30 (by decide) ?_
      obtain ⟨v8, q9, hoc⟩ := k_ob hoc
      refine r_callV h hMe (rest := []) (as := [k_i (a1), k_i (1)]) (oc := .inl (k_mI v8, v1.2)) (j_X8_weight la hla G _ (i0) (a1) (1) _ q9) kl_X8_166 dX8_decide_31 rfl rfl rfl rfl rfl ⟨rfl, rfl, Nat.le_of_ble_eq_true rfl, Nat.le_of_ble_eq_true rfl, Nat.le_of_ble_eq_true rfl, Nat.le_of_ble_eq_true rfl, Nat.le_of_ble_eq_true rfl⟩ (fun E q => by cases q) (fun r s q => ?_)
      cases q
      show k_W X _ _ _ _ _ ([k_i (v8)])
      refine r_aload_n h dX8_decide_34 rfl ?_
      refine r_iload_n h dX8_decide_35 rfl ?_
      refine r_iconst (v := -1) h dX8_decide_36 (by decide) ?_
      obtain ⟨v10, q11, hoc⟩ := k_ob hoc
      refine r_callV h hMe (rest := [k_i (v8)]) (as := [k_i (a1), k_i (-1)]) (oc := .inl (k_mI v10, v1.2)) (j_X8_weight la hla G _ (i0) (a1) (-1) _ q11) kl_X8_166 dX8_decide_37 rfl rfl rfl rfl rfl ⟨rfl, rfl, Nat.le_of_ble_eq_true rfl, Nat.le_of_ble_eq_true rfl, Nat.le_of_ble_eq_true rfl, Nat.le_of_ble_eq_true rfl, Nat.le_of_ble_eq_true rfl⟩ (fun E q => by cases q) (fun r s q => ?_)
      cases q
      show k_W X _ _ _ _ _ ([k_i (v10), k_i (v8)])
      refine r_iadd h dX8_decide_40 ?_
      refine r_aload_n h dX8_decide_41 rfl ?_
      refine r_getI h kf_X8_38 dX8_decide_42 rfl rfl (by decide) rfl ?_
      refine r_icmp_ge (tgt := 55) h dX8_decide_45 (by decide) (fun c12 => ?_) (fun c12 => ?_)
      · replace hoc := (if_pos c12).symm.trans hoc
        refine r_aload_n h dX8_decide_55 rfl ?_
        refine r_getR h kf_X8_69 dX8_decide_56 rfl rfl (by decide) rfl (Eq.trans rfl q5) ?_
        refine r_iload_n h dX8_decide_59 rfl ?_
        obtain ⟨c13, hoc⟩ := k_gd hoc
        refine r_caload (y := (a1).toNatClampNeg) (t := 0) h dX8_decide_60 rfl rfl rfl (k_xx c13.1) c13.2 (by decide) ?_
        refine r_bipush (v := 101) h dX8_decide_61 (by decide) ?_
        refine r_icmp_ne (tgt := 70) h dX8_decide_63 (by decide) (fun c14 => ?_) (fun c14 => ?_)
        · replace hoc := (if_neg c14).symm.trans hoc
          refine r_iconst (v := 0) h dX8_decide_70 (by decide) ?_
          refine r_istore_n (L' := [some (k_p 1 (i0)), some (k_i (a1)), some (k_i (0)), none, none]) h dX8_decide_71 (by decide) rfl ?_
          refine r_aload_n h dX8_decide_72 rfl ?_
          obtain ⟨j15, q16, hoc⟩ := k_ob hoc
          refine r_getR h kf_X8_60 dX8_decide_73 rfl rfl (by decide) rfl (Eq.trans rfl q16) ?_
          refine r_iload_n h dX8_decide_76 rfl ?_
          obtain ⟨c17, hoc⟩ := k_gd hoc
          refine r_iaload (y := (a1).toNatClampNeg) (t := 0) h dX8_decide_77 rfl rfl rfl (k_xx c17.1) c17.2 (by decide) ?_
          refine r_istore_n (L' := [some (k_p 1 (i0)), some (k_i (a1)), some (k_i (0)), some (k_i (k_I v1.2 35 (j15) ((a1).toNatClampNeg))), none]) h dX8_decide_78 (by decide) rfl ?_
          refine r_aload_n h dX8_decide_79 rfl ?_
          refine r_iload_n h dX8_decide_80 rfl ?_
          refine r_aload_n h dX8_decide_81 rfl ?_
          refine r_iload_n h dX8_decide_82 rfl ?_
          refine r_iconst (v := 1) h dX8_decide_83 (by decide) ?_
          obtain ⟨v18, q19, hoc⟩ := k_ob hoc
          refine r_callV h hMe (rest := [k_i (a1), k_p 1 (i0)]) (as := [k_i (a1), k_i (1)]) (oc := .inl (k_mI v18, v1.2)) (j_X8_weight la hla G _ (i0) (a1) (1) _ q19) kl_X8_166 dX8_decide_84 rfl rfl rfl rfl rfl ⟨rfl, rfl, Nat.le_of_ble_eq_true rfl, Nat.le_of_ble_eq_true rfl, Nat.le_of_ble_eq_true rfl, Nat.le_of_ble_eq_true rfl, Nat.le_of_ble_eq_true rfl⟩ (fun E q => by cases q) (fun r s q => ?_)
          cases q
          show k_W X _ _ _ _ _ ([k_i (v18), k_i (a1), k_p 1 (i0)])
          refine r_aload_n h dX8_decide_87 rfl ?_
          refine r_iload_n h dX8_decide_88 rfl ?_
          refine r_iconst (v := -1) h dX8_decide_89 (by decide) ?_
          obtain ⟨v20, q21, hoc⟩ := k_ob hoc
          refine r_callV h hMe (rest := [k_i (v18), k_i (a1), k_p 1 (i0)]) (as := [k_i (a1), k_i (-1)]) (oc := .inl (k_mI v20, v1.2)) (j_X8_weight la hla G _ (i0) (a1) (-1) _ q21) kl_X8_166 dX8_decide_90 rfl rfl rfl rfl rfl ⟨rfl, rfl, Nat.le_of_ble_eq_true rfl, Nat.le_of_ble_eq_true rfl, Nat.le_of_ble_eq_true rfl, Nat.le_of_ble_eq_true rfl, Nat.le_of_ble_eq_true rfl⟩ (fun E q => by cases q) (fun r s q => ?_)
          cases q
          show k_W X _ _ _ _ _ ([k_i (v20), k_i (v18), k_i (a1), k_p 1 (i0)])
          refine r_iconst (v := -1) h dX8_decide_93 (by decide) ?_
          obtain ⟨v22, q23, hoc⟩ := k_ob hoc
          refine r_callV h hMe (rest := []) (as := [k_i (a1), k_i (v18), k_i (v20), k_i (-1)]) (oc := .inl (k_mU v22.1, v22.2)) (j_X8_decides la hla G _ (i0) (a1) (v18) (v20) (-1) _ q23) kl_X8_162 dX8_decide_94 rfl rfl rfl rfl rfl ⟨rfl, rfl, Nat.le_of_ble_eq_true rfl, Nat.le_of_ble_eq_true rfl, Nat.le_of_ble_eq_true rfl, Nat.le_of_ble_eq_true rfl, Nat.le_of_ble_eq_true rfl⟩ (fun E q => by cases q) (fun r s q => ?_)
          cases q
          show k_W X _ _ _ _ _ ([])
          refine r_iload_n h dX8_decide_97 rfl ?_
          refine r_if_ne (tgt := 108) h dX8_decide_98 (by decide) (fun c24 => ?_) (fun c24 => ?_)
          · replace hoc := (if_neg c24).symm.trans hoc
            refine r_aload_n h dX8_decide_108 rfl ?_
            refine r_dup h dX8_decide_109 rfl ?_
            refine r_getI h kf_X8_172 dX8_decide_110 rfl rfl (by decide) rfl ?_
            refine r_iconst (v := 1) h dX8_decide_113 (by decide) ?_
            refine r_iadd h dX8_decide_114 ?_
            refine r_putI (x := (k_I v22.2 1 (i0) (30) + 1)) h kp_X8_172 dX8_decide_115 rfl rfl (by decide) rfl rfl (k_fit_int _) ?_
            refine r_aload_n h dX8_decide_118 rfl ?_
            obtain ⟨j25, q26, hoc⟩ := k_ob hoc
            refine r_getR h kf_X8_73 dX8_decide_119 rfl rfl (by decide) rfl (Eq.trans rfl q26) ?_
            refine r_iload_n h dX8_decide_122 rfl ?_
            obtain ⟨c27, hoc⟩ := k_gd hoc
            refine r_caload (y := (a1).toNatClampNeg) (t := 0) h dX8_decide_123 rfl rfl rfl (k_xx c27.1) c27.2 (by decide) ?_
            refine r_eqI (k_I_l (by decide)) ?_
            refine r_aload_n h dX8_decide_124 rfl ?_
            obtain ⟨j28, q29, hoc⟩ := k_ob hoc
            refine r_getR h kf_X8_76 dX8_decide_125 rfl rfl (by decide) rfl (Eq.trans rfl q29) ?_
            refine r_iload_n h dX8_decide_128 rfl ?_
            obtain ⟨c30, hoc⟩ := k_gd hoc
            refine r_caload (y := (a1).toNatClampNeg) (t := 0) h dX8_decide_129 rfl rfl rfl (k_xx c30.1) c30.2 (by decide) ?_
            refine r_eqI (k_I_l (by decide)) ?_
            refine r_icmp_eq (tgt := 137) h dX8_decide_130 (by decide) (fun c31 => ?_) (fun c31 => ?_)
            · replace hoc := (if_pos c31).symm.trans hoc
              refine r_iconst (v := 0) h dX8_decide_137 (by decide) ?_
              refine r_istore (L' := [some (k_p 1 (i0)), some (k_i (a1)), some (k_i (0)), some (k_i (k_I v1.2 35 (j15) ((a1).toNatClampNeg))), some (k_i (0))]) h dX8_decide_138 (by decide) rfl ?_
              refine r_aload_n h dX8_decide_140 rfl ?_
              refine r_dup h dX8_decide_141 rfl ?_
              refine r_getI h kf_X8_175 dX8_decide_142 rfl rfl (by decide) rfl ?_
              refine r_eqI (k_I_k (by decide)) ?_
              refine r_iload h dX8_decide_145 rfl ?_
              refine r_if_eq (tgt := 154) h dX8_decide_147 (by decide) (fun c32 => ?_) (fun c32 => ?_)
              · replace hoc := (if_pos c32).symm.trans hoc
                refine r_iconst (v := 0) h dX8_decide_154 (by decide) ?_
                refine r_iadd h dX8_decide_155 ?_
                refine r_putI (x := (k_I v22.2 1 (i0) (31) + 0)) h kp_X8_175 dX8_decide_156 rfl rfl (by decide) rfl rfl (k_fit_int _) ?_
                refine r_iload_n h dX8_decide_159 rfl ?_
                refine r_if_lt (tgt := 214) h dX8_decide_160 (by decide) (fun c33 => ?_) (fun c33 => ?_)
                · replace hoc := (if_pos c33).symm.trans hoc
                  refine r_aload_n h dX8_decide_214 rfl ?_
                  refine r_getR h kf_X8_73 dX8_decide_215 rfl rfl (by decide) rfl (Eq.trans rfl q26) ?_
                  refine r_iload_n h dX8_decide_218 rfl ?_
                  obtain ⟨c34, hoc⟩ := k_gd hoc
                  refine r_caload (y := (a1).toNatClampNeg) (t := 0) h dX8_decide_219 rfl rfl rfl (k_xx c34.1) c34.2 (by decide) ?_
                  refine r_eqI (Eq.trans (k_I_l (by decide)) (k_I_l (by decide))) ?_
                  obtain ⟨c35, hoc⟩ := k_gd hoc
                  cases hoc
                  exact r_ireturn h hEn dX8_decide_220 rfl (k_nC c35) rfl (by decide) (by decide)
                · replace hoc := (if_neg c33).symm.trans hoc
                  refine r_aload_n h dX8_decide_163 rfl ?_
                  refine r_getR h kf_X8_76 dX8_decide_164 rfl rfl (by decide) rfl (Eq.trans rfl q29) ?_
                  refine r_iload_n h dX8_decide_167 rfl ?_
                  obtain ⟨c36, hoc⟩ := k_gd hoc
                  refine r_caload (y := (a1).toNatClampNeg) (t := 0) h dX8_decide_168 rfl rfl rfl (k_xx c36.1) c36.2 (by decide) ?_
                  refine r_eqI (Eq.trans (k_I_l (by decide)) (k_I_l (by decide))) ?_
                  refine r_bipush (v := 103) h dX8_decide_169 (by decide) ?_
                  refine r_icmp_ne (tgt := 214) h dX8_decide_171 (by decide) (fun c37 => ?_) (fun c37 => ?_)
                  · replace hoc := (if_neg c37).symm.trans hoc
                    refine r_aload_n h dX8_decide_214 rfl ?_
                    refine r_getR h kf_X8_73 dX8_decide_215 rfl rfl (by decide) rfl (Eq.trans rfl q26) ?_
                    refine r_iload_n h dX8_decide_218 rfl ?_
                    obtain ⟨c38, hoc⟩ := k_gd hoc
                    refine r_caload (y := (a1).toNatClampNeg) (t := 0) h dX8_decide_219 rfl rfl rfl (k_xx c38.1) c38.2 (by decide) ?_
                    refine r_eqI (Eq.trans (k_I_l (by decide)) (k_I_l (by decide))) ?_
                    obtain ⟨c39, hoc⟩ := k_gd hoc
                    cases hoc
                    exact r_ireturn h hEn dX8_decide_220 rfl (k_nC c39) rfl (by decide) (by decide)
                  · replace hoc := (if_pos c37).symm.trans hoc
                    refine r_aload_n h dX8_decide_174 rfl ?_
                    obtain ⟨j40, q41, hoc⟩ := k_ob hoc
                    refine r_getR h kf_X8_31 dX8_decide_175 rfl rfl (by decide) rfl (Eq.trans rfl q41) ?_
                    refine r_iload_n h dX8_decide_178 rfl ?_
                    refine r_iload h dX8_decide_179 rfl ?_
                    refine r_if_eq (tgt := 200) h dX8_decide_181 (by decide) (fun c42 => ?_) (fun c42 => ?_)
                    · replace hoc := (if_pos c42).symm.trans hoc
                      refine r_bipush (v := 50) h dX8_decide_200 (by decide) ?_
                      refine r_aload_n h dX8_decide_202 rfl ?_
                      refine r_getR h kf_X8_31 dX8_decide_203 rfl rfl (by decide) rfl (Eq.trans rfl q41) ?_
                      refine r_iload_n h dX8_decide_206 rfl ?_
                      obtain ⟨c43, hoc⟩ := k_gd hoc
                      refine r_iaload (y := (k_I v1.2 35 (j15) ((a1).toNatClampNeg)).toNatClampNeg) (t := 0) h dX8_decide_207 rfl rfl rfl (k_xx c43.1) c43.2 (by decide) ?_
                      refine r_eqI (Eq.trans (k_I_l (by decide)) (k_I_l (by decide))) ?_
                      refine r_iconst (v := 1) h dX8_decide_208 (by decide) ?_
                      refine r_isub h dX8_decide_209 ?_
                      refine r_max h hMe ⟨kl_X8_114.1.1, kl_X8_114.2, kl_X8_114.1.2.1, kl_X8_114.1.2.2.1⟩ dX8_decide_210 ⟨Nat.le_of_ble_eq_true rfl, Nat.le_of_ble_eq_true rfl, Nat.le_of_ble_eq_true rfl, Nat.le_of_ble_eq_true rfl⟩ ?_
                      obtain ⟨c44, hoc⟩ := k_gd hoc
                      refine r_iastore (y := (k_I v1.2 35 (j15) ((a1).toNatClampNeg)).toNatClampNeg) (t := 0) (x := (if (50 : Int32) < (k_I v22.2 27 (j40) ((k_I v1.2 35 (j15) ((a1).toNatClampNeg)).toNatClampNeg) - 1) then (k_I v22.2 27 (j40) ((k_I v1.2 35 (j15) ((a1).toNatClampNeg)).toNatClampNeg) - 1) else (50 : Int32))) h dX8_decide_213 rfl rfl rfl rfl (k_fit_int _) (k_xx c44.1) c44.2 (by decide) ?_
                      refine r_aload_n h dX8_decide_214 rfl ?_
                      refine r_getR h kf_X8_73 dX8_decide_215 rfl rfl (by decide) rfl (Eq.trans rfl q26) ?_
                      refine r_iload_n h dX8_decide_218 rfl ?_
                      obtain ⟨c45, hoc⟩ := k_gd hoc
                      refine r_caload (y := (a1).toNatClampNeg) (t := 0) h dX8_decide_219 rfl rfl rfl (k_xx c45.1) c45.2 (by decide) ?_
                      refine r_eqI (Eq.trans (k_I_l (by decide)) (Eq.trans (k_I_l (by decide)) (k_I_l (by decide)))) ?_
                      obtain ⟨c46, hoc⟩ := k_gd hoc
                      cases hoc
                      exact r_ireturn h hEn dX8_decide_220 rfl (k_nC c46) rfl (by decide) (by decide)
                    · replace hoc := (if_neg c42).symm.trans hoc
                      refine r_bipush (v := 100) h dX8_decide_184 (by decide) ?_
                      refine r_aload_n h dX8_decide_186 rfl ?_
                      refine r_getR h kf_X8_31 dX8_decide_187 rfl rfl (by decide) rfl (Eq.trans rfl q41) ?_
                      refine r_iload_n h dX8_decide_190 rfl ?_
                      obtain ⟨c47, hoc⟩ := k_gd hoc
                      refine r_iaload (y := (k_I v1.2 35 (j15) ((a1).toNatClampNeg)).toNatClampNeg) (t := 0) h dX8_decide_191 rfl rfl rfl (k_xx c47.1) c47.2 (by decide) ?_
                      refine r_eqI (Eq.trans (k_I_l (by decide)) (k_I_l (by decide))) ?_
                      refine r_iconst (v := 5) h dX8_decide_192 (by decide) ?_
                      refine r_iadd h dX8_decide_193 ?_
                      refine r_min h hMe ⟨kl_X8_178.1.1, kl_X8_178.2, kl_X8_178.1.2.1, kl_X8_178.1.2.2.1⟩ dX8_decide_194 ⟨Nat.le_of_ble_eq_true rfl, Nat.le_of_ble_eq_true rfl, Nat.le_of_ble_eq_true rfl, Nat.le_of_ble_eq_true rfl⟩ ?_
                      refine r_goto (tgt := 213) h dX8_decide_197 (by decide) ?_
                      obtain ⟨c48, hoc⟩ := k_gd hoc
                      refine r_iastore (y := (k_I v1.2 35 (j15) ((a1).toNatClampNeg)).toNatClampNeg) (t := 0) (x := (if (k_I v22.2 27 (j40) ((k_I v1.2 35 (j15) ((a1).toNatClampNeg)).toNatClampNeg) + 5) < (100 : Int32) then (k_I v22.2 27 (j40) ((k_I v1.2 35 (j15) ((a1).toNatClampNeg)).toNatClampNeg) + 5) else (100 : Int32))) h dX8_decide_213 rfl rfl rfl rfl (k_fit_int _) (k_xx c48.1) c48.2 (by decide) ?_
                      refine r_aload_n h dX8_decide_214 rfl ?_
                      refine r_getR h kf_X8_73 dX8_decide_215 rfl rfl (by decide) rfl (Eq.trans rfl q26) ?_
                      refine r_iload_n h dX8_decide_218 rfl ?_
                      obtain ⟨c49, hoc⟩ := k_gd hoc
                      refine r_caload (y := (a1).toNatClampNeg) (t := 0) h dX8_decide_219 rfl rfl rfl (k_xx c49.1) c49.2 (by decide) ?_
                      refine r_eqI (Eq.trans (k_I_l (by decide)) (Eq.trans (k_I_l (by decide)) (k_I_l (by decide)))) ?_
                      obtain ⟨c50, hoc⟩ := k_gd hoc
                      cases hoc
                      exact r_ireturn h hEn dX8_decide_220 rfl (k_nC c50) rfl (by decide) (by decide)
              · replace hoc := (if_neg c32).symm.trans hoc
                refine r_iconst (v := 1) h dX8_decide_150 (by decide) ?_
                refine r_goto (tgt := 155) h dX8_decide_151 (by decide) ?_
                refine r_iadd h dX8_decide_155 ?_
                refine r_putI (x := (k_I v22.2 1 (i0) (31) + 1)) h kp_X8_175 dX8_decide_156 rfl rfl (by decide) rfl rfl (k_fit_int _) ?_
                refine r_iload_n h dX8_decide_159 rfl ?_
                refine r_if_lt (tgt := 214) h dX8_decide_160 (by decide) (fun c51 => ?_) (fun c51 => ?_)
                · replace hoc := (if_pos c51).symm.trans hoc
                  refine r_aload_n h dX8_decide_214 rfl ?_
                  refine r_getR h kf_X8_73 dX8_decide_215 rfl rfl (by decide) rfl (Eq.trans rfl q26) ?_
                  refine r_iload_n h dX8_decide_218 rfl ?_
                  obtain ⟨c52, hoc⟩ := k_gd hoc
                  refine r_caload (y := (a1).toNatClampNeg) (t := 0) h dX8_decide_219 rfl rfl rfl (k_xx c52.1) c52.2 (by decide) ?_
                  refine r_eqI (Eq.trans (k_I_l (by decide)) (k_I_l (by decide))) ?_
                  obtain ⟨c53, hoc⟩ := k_gd hoc
                  cases hoc
                  exact r_ireturn h hEn dX8_decide_220 rfl (k_nC c53) rfl (by decide) (by decide)
                · replace hoc := (if_neg c51).symm.trans hoc
                  refine r_aload_n h dX8_decide_163 rfl ?_
                  refine r_getR h kf_X8_76 dX8_decide_164 rfl rfl (by decide) rfl (Eq.trans rfl q29) ?_
                  refine r_iload_n h dX8_decide_167 rfl ?_
                  obtain ⟨c54, hoc⟩ := k_gd hoc
                  refine r_caload (y := (a1).toNatClampNeg) (t := 0) h dX8_decide_168 rfl rfl rfl (k_xx c54.1) c54.2 (by decide) ?_
                  refine r_eqI (Eq.trans (k_I_l (by decide)) (k_I_l (by decide))) ?_
                  refine r_bipush (v := 103) h dX8_decide_169 (by decide) ?_
                  refine r_icmp_ne (tgt := 214) h dX8_decide_171 (by decide) (fun c55 => ?_) (fun c55 => ?_)
                  · replace hoc := (if_neg c55).symm.trans hoc
                    refine r_aload_n h dX8_decide_214 rfl ?_
                    refine r_getR h kf_X8_73 dX8_decide_215 rfl rfl (by decide) rfl (Eq.trans rfl q26) ?_
                    refine r_iload_n h dX8_decide_218 rfl ?_
                    obtain ⟨c56, hoc⟩ := k_gd hoc
                    refine r_caload (y := (a1).toNatClampNeg) (t := 0) h dX8_decide_219 rfl rfl rfl (k_xx c56.1) c56.2 (by decide) ?_
                    refine r_eqI (Eq.trans (k_I_l (by decide)) (k_I_l (by decide))) ?_
                    obtain ⟨c57, hoc⟩ := k_gd hoc
                    cases hoc
                    exact r_ireturn h hEn dX8_decide_220 rfl (k_nC c57) rfl (by decide) (by decide)
                  · replace hoc := (if_pos c55).symm.trans hoc
                    refine r_aload_n h dX8_decide_174 rfl ?_
                    obtain ⟨j58, q59, hoc⟩ := k_ob hoc
                    refine r_getR h kf_X8_31 dX8_decide_175 rfl rfl (by decide) rfl (Eq.trans rfl q59) ?_
                    refine r_iload_n h dX8_decide_178 rfl ?_
                    refine r_iload h dX8_decide_179 rfl ?_
                    refine r_if_eq (tgt := 200) h dX8_decide_181 (by decide) (fun c60 => ?_) (fun c60 => ?_)
                    · replace hoc := (if_pos c60).symm.trans hoc
                      refine r_bipush (v := 50) h dX8_decide_200 (by decide) ?_
                      refine r_aload_n h dX8_decide_202 rfl ?_
                      refine r_getR h kf_X8_31 dX8_decide_203 rfl rfl (by decide) rfl (Eq.trans rfl q59) ?_
                      refine r_iload_n h dX8_decide_206 rfl ?_
                      obtain ⟨c61, hoc⟩ := k_gd hoc
                      refine r_iaload (y := (k_I v1.2 35 (j15) ((a1).toNatClampNeg)).toNatClampNeg) (t := 0) h dX8_decide_207 rfl rfl rfl (k_xx c61.1) c61.2 (by decide) ?_
                      refine r_eqI (Eq.trans (k_I_l (by decide)) (k_I_l (by decide))) ?_
                      refine r_iconst (v := 1) h dX8_decide_208 (by decide) ?_
                      refine r_isub h dX8_decide_209 ?_
                      refine r_max h hMe ⟨kl_X8_114.1.1, kl_X8_114.2, kl_X8_114.1.2.1, kl_X8_114.1.2.2.1⟩ dX8_decide_210 ⟨Nat.le_of_ble_eq_true rfl, Nat.le_of_ble_eq_true rfl, Nat.le_of_ble_eq_true rfl, Nat.le_of_ble_eq_true rfl⟩ ?_
                      obtain ⟨c62, hoc⟩ := k_gd hoc
                      refine r_iastore (y := (k_I v1.2 35 (j15) ((a1).toNatClampNeg)).toNatClampNeg) (t := 0) (x := (if (50 : Int32) < (k_I v22.2 27 (j58) ((k_I v1.2 35 (j15) ((a1).toNatClampNeg)).toNatClampNeg) - 1) then (k_I v22.2 27 (j58) ((k_I v1.2 35 (j15) ((a1).toNatClampNeg)).toNatClampNeg) - 1) else (50 : Int32))) h dX8_decide_213 rfl rfl rfl rfl (k_fit_int _) (k_xx c62.1) c62.2 (by decide) ?_
                      refine r_aload_n h dX8_decide_214 rfl ?_
                      refine r_getR h kf_X8_73 dX8_decide_215 rfl rfl (by decide) rfl (Eq.trans rfl q26) ?_
                      refine r_iload_n h dX8_decide_218 rfl ?_
                      obtain ⟨c63, hoc⟩ := k_gd hoc
                      refine r_caload (y := (a1).toNatClampNeg) (t := 0) h dX8_decide_219 rfl rfl rfl (k_xx c63.1) c63.2 (by decide) ?_
                      refine r_eqI (Eq.trans (k_I_l (by decide)) (Eq.trans (k_I_l (by decide)) (k_I_l (by decide)))) ?_
                      obtain ⟨c64, hoc⟩ := k_gd hoc
                      cases hoc
                      exact r_ireturn h hEn dX8_decide_220 rfl (k_nC c64) rfl (by decide) (by decide)
                    · replace hoc := (if_neg c60).symm.trans hoc
                      refine r_bipush (v := 100) h dX8_decide_184 (by decide) ?_
                      refine r_aload_n h dX8_decide_186 rfl ?_
                      refine r_getR h kf_X8_31 dX8_decide_187 rfl rfl (by decide) rfl (Eq.trans rfl q59) ?_
                      refine r_iload_n h dX8_decide_190 rfl ?_
                      obtain ⟨c65, hoc⟩ := k_gd hoc
                      refine r_iaload (y := (k_I v1.2 35 (j15) ((a1).toNatClampNeg)).toNatClampNeg) (t := 0) h dX8_decide_191 rfl rfl rfl (k_xx c65.1) c65.2 (by decide) ?_
                      refine r_eqI (Eq.trans (k_I_l (by decide)) (k_I_l (by decide))) ?_
                      refine r_iconst (v := 5) h dX8_decide_192 (by decide) ?_
                      refine r_iadd h dX8_decide_193 ?_
                      refine r_min h hMe ⟨kl_X8_178.1.1, kl_X8_178.2, kl_X8_178.1.2.1, kl_X8_178.1.2.2.1⟩ dX8_decide_194 ⟨Nat.le_of_ble_eq_true rfl, Nat.le_of_ble_eq_true rfl, Nat.le_of_ble_eq_true rfl, Nat.le_of_ble_eq_true rfl⟩ ?_
                      refine r_goto (tgt := 213) h dX8_decide_197 (by decide) ?_
                      obtain ⟨c66, hoc⟩ := k_gd hoc
                      refine r_iastore (y := (k_I v1.2 35 (j15) ((a1).toNatClampNeg)).toNatClampNeg) (t := 0) (x := (if (k_I v22.2 27 (j58) ((k_I v1.2 35 (j15) ((a1).toNatClampNeg)).toNatClampNeg) + 5) < (100 : Int32) then (k_I v22.2 27 (j58) ((k_I v1.2 35 (j15) ((a1).toNatClampNeg)).toNatClampNeg) + 5) else (100 : Int32))) h dX8_decide_213 rfl rfl rfl rfl (k_fit_int _) (k_xx c66.1) c66.2 (by decide) ?_
                      refine r_aload_n h dX8_decide_214 rfl ?_
                      refine r_getR h kf_X8_73 dX8_decide_215 rfl rfl (by decide) rfl (Eq.trans rfl q26) ?_
                      refine r_iload_n h dX8_decide_218 rfl ?_
                      obtain ⟨c67, hoc⟩ := k_gd hoc
                      refine r_caload (y := (a1).toNatClampNeg) (t := 0) h dX8_decide_219 rfl rfl rfl (k_xx c67.1) c67.2 (by decide) ?_
                      refine r_eqI (Eq.trans (k_I_l (by decide)) (Eq.trans (k_I_l (by decide)) (k_I_l (by decide)))) ?_
                      obtain ⟨c68, hoc⟩ := k_gd hoc
                      cases hoc
                      exact r_ireturn h hEn dX8_decide_220 rfl (k_nC c68) rfl (by decide) (by decide)
            · replace hoc := (if_neg c31).symm.trans hoc
              refine r_iconst (v := 1) h dX8_decide_133 (by decide) ?_
              refine r_goto (tgt := 138) h dX8_decide_134 (by decide) ?_
              refine r_istore (L' := [some (k_p 1 (i0)), some (k_i (a1)), some (k_i (0)), some (k_i (k_I v1.2 35 (j15) ((a1).toNatClampNeg))), some (k_i (1))]) h dX8_decide_138 (by decide) rfl ?_
              refine r_aload_n h dX8_decide_140 rfl ?_
              refine r_dup h dX8_decide_141 rfl ?_
              refine r_getI h kf_X8_175 dX8_decide_142 rfl rfl (by decide) rfl ?_
              refine r_eqI (k_I_k (by decide)) ?_
              refine r_iload h dX8_decide_145 rfl ?_
              refine r_if_eq (tgt := 154) h dX8_decide_147 (by decide) (fun c69 => ?_) (fun c69 => ?_)
              · replace hoc := (if_pos c69).symm.trans hoc
                refine r_iconst (v := 0) h dX8_decide_154 (by decide) ?_
                refine r_iadd h dX8_decide_155 ?_
                refine r_putI (x := (k_I v22.2 1 (i0) (31) + 0)) h kp_X8_175 dX8_decide_156 rfl rfl (by decide) rfl rfl (k_fit_int _) ?_
                refine r_iload_n h dX8_decide_159 rfl ?_
                refine r_if_lt (tgt := 214) h dX8_decide_160 (by decide) (fun c70 => ?_) (fun c70 => ?_)
                · replace hoc := (if_pos c70).symm.trans hoc
                  refine r_aload_n h dX8_decide_214 rfl ?_
                  refine r_getR h kf_X8_73 dX8_decide_215 rfl rfl (by decide) rfl (Eq.trans rfl q26) ?_
                  refine r_iload_n h dX8_decide_218 rfl ?_
                  obtain ⟨c71, hoc⟩ := k_gd hoc
                  refine r_caload (y := (a1).toNatClampNeg) (t := 0) h dX8_decide_219 rfl rfl rfl (k_xx c71.1) c71.2 (by decide) ?_
                  refine r_eqI (Eq.trans (k_I_l (by decide)) (k_I_l (by decide))) ?_
                  obtain ⟨c72, hoc⟩ := k_gd hoc
                  cases hoc
                  exact r_ireturn h hEn dX8_decide_220 rfl (k_nC c72) rfl (by decide) (by decide)
                · replace hoc := (if_neg c70).symm.trans hoc
                  refine r_aload_n h dX8_decide_163 rfl ?_
                  refine r_getR h kf_X8_76 dX8_decide_164 rfl rfl (by decide) rfl (Eq.trans rfl q29) ?_
                  refine r_iload_n h dX8_decide_167 rfl ?_
                  obtain ⟨c73, hoc⟩ := k_gd hoc
                  refine r_caload (y := (a1).toNatClampNeg) (t := 0) h dX8_decide_168 rfl rfl rfl (k_xx c73.1) c73.2 (by decide) ?_
                  refine r_eqI (Eq.trans (k_I_l (by decide)) (k_I_l (by decide))) ?_
                  refine r_bipush (v := 103) h dX8_decide_169 (by decide) ?_
                  refine r_icmp_ne (tgt := 214) h dX8_decide_171 (by decide) (fun c74 => ?_) (fun c74 => ?_)
                  · replace hoc := (if_neg c74).symm.trans hoc
                    refine r_aload_n h dX8_decide_214 rfl ?_
                    refine r_getR h kf_X8_73 dX8_decide_215 rfl rfl (by decide) rfl (Eq.trans rfl q26) ?_
                    refine r_iload_n h dX8_decide_218 rfl ?_
                    obtain ⟨c75, hoc⟩ := k_gd hoc
                    refine r_caload (y := (a1).toNatClampNeg) (t := 0) h dX8_decide_219 rfl rfl rfl (k_xx c75.1) c75.2 (by decide) ?_
                    refine r_eqI (Eq.trans (k_I_l (by decide)) (k_I_l (by decide))) ?_
                    obtain ⟨c76, hoc⟩ := k_gd hoc
                    cases hoc
                    exact r_ireturn h hEn dX8_decide_220 rfl (k_nC c76) rfl (by decide) (by decide)
                  · replace hoc := (if_pos c74).symm.trans hoc
                    refine r_aload_n h dX8_decide_174 rfl ?_
                    obtain ⟨j77, q78, hoc⟩ := k_ob hoc
                    refine r_getR h kf_X8_31 dX8_decide_175 rfl rfl (by decide) rfl (Eq.trans rfl q78) ?_
                    refine r_iload_n h dX8_decide_178 rfl ?_
                    refine r_iload h dX8_decide_179 rfl ?_
                    refine r_if_eq (tgt := 200) h dX8_decide_181 (by decide) (fun c79 => ?_) (fun c79 => ?_)
                    · replace hoc := (if_pos c79).symm.trans hoc
                      refine r_bipush (v := 50) h dX8_decide_200 (by decide) ?_
                      refine r_aload_n h dX8_decide_202 rfl ?_
                      refine r_getR h kf_X8_31 dX8_decide_203 rfl rfl (by decide) rfl (Eq.trans rfl q78) ?_
                      refine r_iload_n h dX8_decide_206 rfl ?_
                      obtain ⟨c80, hoc⟩ := k_gd hoc
                      refine r_iaload (y := (k_I v1.2 35 (j15) ((a1).toNatClampNeg)).toNatClampNeg) (t := 0) h dX8_decide_207 rfl rfl rfl (k_xx c80.1) c80.2 (by decide) ?_
                      refine r_eqI (Eq.trans (k_I_l (by decide)) (k_I_l (by decide))) ?_
                      refine r_iconst (v := 1) h dX8_decide_208 (by decide) ?_
                      refine r_isub h dX8_decide_209 ?_
                      refine r_max h hMe ⟨kl_X8_114.1.1, kl_X8_114.2, kl_X8_114.1.2.1, kl_X8_114.1.2.2.1⟩ dX8_decide_210 ⟨Nat.le_of_ble_eq_true rfl, Nat.le_of_ble_eq_true rfl, Nat.le_of_ble_eq_true rfl, Nat.le_of_ble_eq_true rfl⟩ ?_
                      obtain ⟨c81, hoc⟩ := k_gd hoc
                      refine r_iastore (y := (k_I v1.2 35 (j15) ((a1).toNatClampNeg)).toNatClampNeg) (t := 0) (x := (if (50 : Int32) < (k_I v22.2 27 (j77) ((k_I v1.2 35 (j15) ((a1).toNatClampNeg)).toNatClampNeg) - 1) then (k_I v22.2 27 (j77) ((k_I v1.2 35 (j15) ((a1).toNatClampNeg)).toNatClampNeg) - 1) else (50 : Int32))) h dX8_decide_213 rfl rfl rfl rfl (k_fit_int _) (k_xx c81.1) c81.2 (by decide) ?_
                      refine r_aload_n h dX8_decide_214 rfl ?_
                      refine r_getR h kf_X8_73 dX8_decide_215 rfl rfl (by decide) rfl (Eq.trans rfl q26) ?_
                      refine r_iload_n h dX8_decide_218 rfl ?_
                      obtain ⟨c82, hoc⟩ := k_gd hoc
                      refine r_caload (y := (a1).toNatClampNeg) (t := 0) h dX8_decide_219 rfl rfl rfl (k_xx c82.1) c82.2 (by decide) ?_
                      refine r_eqI (Eq.trans (k_I_l (by decide)) (Eq.trans (k_I_l (by decide)) (k_I_l (by decide)))) ?_
                      obtain ⟨c83, hoc⟩ := k_gd hoc
                      cases hoc
                      exact r_ireturn h hEn dX8_decide_220 rfl (k_nC c83) rfl (by decide) (by decide)
                    · replace hoc := (if_neg c79).symm.trans hoc
                      refine r_bipush (v := 100) h dX8_decide_184 (by decide) ?_
                      refine r_aload_n h dX8_decide_186 rfl ?_
                      refine r_getR h kf_X8_31 dX8_decide_187 rfl rfl (by decide) rfl (Eq.trans rfl q78) ?_
                      refine r_iload_n h dX8_decide_190 rfl ?_
                      obtain ⟨c84, hoc⟩ := k_gd hoc
                      refine r_iaload (y := (k_I v1.2 35 (j15) ((a1).toNatClampNeg)).toNatClampNeg) (t := 0) h dX8_decide_191 rfl rfl rfl (k_xx c84.1) c84.2 (by decide) ?_
                      refine r_eqI (Eq.trans (k_I_l (by decide)) (k_I_l (by decide))) ?_
                      refine r_iconst (v := 5) h dX8_decide_192 (by decide) ?_
                      refine r_iadd h dX8_decide_193 ?_
                      refine r_min h hMe ⟨kl_X8_178.1.1, kl_X8_178.2, kl_X8_178.1.2.1, kl_X8_178.1.2.2.1⟩ dX8_decide_194 ⟨Nat.le_of_ble_eq_true rfl, Nat.le_of_ble_eq_true rfl, Nat.le_of_ble_eq_true rfl, Nat.le_of_ble_eq_true rfl⟩ ?_
                      refine r_goto (tgt := 213) h dX8_decide_197 (by decide) ?_
                      obtain ⟨c85, hoc⟩ := k_gd hoc
                      refine r_iastore (y := (k_I v1.2 35 (j15) ((a1).toNatClampNeg)).toNatClampNeg) (t := 0) (x := (if (k_I v22.2 27 (j77) ((k_I v1.2 35 (j15) ((a1).toNatClampNeg)).toNatClampNeg) + 5) < (100 : Int32) then (k_I v22.2 27 (j77) ((k_I v1.2 35 (j15) ((a1).toNatClampNeg)).toNatClampNeg) + 5) else (100 : Int32))) h dX8_decide_213 rfl rfl rfl rfl (k_fit_int _) (k_xx c85.1) c85.2 (by decide) ?_
                      refine r_aload_n h dX8_decide_214 rfl ?_
                      refine r_getR h kf_X8_73 dX8_decide_215 rfl rfl (by decide) rfl (Eq.trans rfl q26) ?_
                      refine r_iload_n h dX8_decide_218 rfl ?_
                      obtain ⟨c86, hoc⟩ := k_gd hoc
                      refine r_caload (y := (a1).toNatClampNeg) (t := 0) h dX8_decide_219 rfl rfl rfl (k_xx c86.1) c86.2 (by decide) ?_
                      refine r_eqI (Eq.trans (k_I_l (by decide)) (Eq.trans (k_I_l (by decide)) (k_I_l (by decide)))) ?_
                      obtain ⟨c87, hoc⟩ := k_gd hoc
                      cases hoc
                      exact r_ireturn h hEn dX8_decide_220 rfl (k_nC c87) rfl (by decide) (by decide)
              · replace hoc := (if_neg c69).symm.trans hoc
                refine r_iconst (v := 1) h dX8_decide_150 (by decide) ?_
                refine r_goto (tgt := 155) h dX8_decide_151 (by decide) ?_
                refine r_iadd h dX8_decide_155 ?_
                refine r_putI (x := (k_I v22.2 1 (i0) (31) + 1)) h kp_X8_175 dX8_decide_156 rfl rfl (by decide) rfl rfl (k_fit_int _) ?_
                refine r_iload_n h dX8_decide_159 rfl ?_
                refine r_if_lt (tgt := 214) h dX8_decide_160 (by decide) (fun c88 => ?_) (fun c88 => ?_)
                · replace hoc := (if_pos c88).symm.trans hoc
                  refine r_aload_n h dX8_decide_214 rfl ?_
                  refine r_getR h kf_X8_73 dX8_decide_215 rfl rfl (by decide) rfl (Eq.trans rfl q26) ?_
                  refine r_iload_n h dX8_decide_218 rfl ?_
                  obtain ⟨c89, hoc⟩ := k_gd hoc
                  refine r_caload (y := (a1).toNatClampNeg) (t := 0) h dX8_decide_219 rfl rfl rfl (k_xx c89.1) c89.2 (by decide) ?_
                  refine r_eqI (Eq.trans (k_I_l (by decide)) (k_I_l (by decide))) ?_
                  obtain ⟨c90, hoc⟩ := k_gd hoc
                  cases hoc
                  exact r_ireturn h hEn dX8_decide_220 rfl (k_nC c90) rfl (by decide) (by decide)
                · replace hoc := (if_neg c88).symm.trans hoc
                  refine r_aload_n h dX8_decide_163 rfl ?_
                  refine r_getR h kf_X8_76 dX8_decide_164 rfl rfl (by decide) rfl (Eq.trans rfl q29) ?_
                  refine r_iload_n h dX8_decide_167 rfl ?_
                  obtain ⟨c91, hoc⟩ := k_gd hoc
                  refine r_caload (y := (a1).toNatClampNeg) (t := 0) h dX8_decide_168 rfl rfl rfl (k_xx c91.1) c91.2 (by decide) ?_
                  refine r_eqI (Eq.trans (k_I_l (by decide)) (k_I_l (by decide))) ?_
                  refine r_bipush (v := 103) h dX8_decide_169 (by decide) ?_
                  refine r_icmp_ne (tgt := 214) h dX8_decide_171 (by decide) (fun c92 => ?_) (fun c92 => ?_)
                  · replace hoc := (if_neg c92).symm.trans hoc
                    refine r_aload_n h dX8_decide_214 rfl ?_
                    refine r_getR h kf_X8_73 dX8_decide_215 rfl rfl (by decide) rfl (Eq.trans rfl q26) ?_
                    refine r_iload_n h dX8_decide_218 rfl ?_
                    obtain ⟨c93, hoc⟩ := k_gd hoc
                    refine r_caload (y := (a1).toNatClampNeg) (t := 0) h dX8_decide_219 rfl rfl rfl (k_xx c93.1) c93.2 (by decide) ?_
                    refine r_eqI (Eq.trans (k_I_l (by decide)) (k_I_l (by decide))) ?_
                    obtain ⟨c94, hoc⟩ := k_gd hoc
                    cases hoc
                    exact r_ireturn h hEn dX8_decide_220 rfl (k_nC c94) rfl (by decide) (by decide)
                  · replace hoc := (if_pos c92).symm.trans hoc
                    refine r_aload_n h dX8_decide_174 rfl ?_
                    obtain ⟨j95, q96, hoc⟩ := k_ob hoc
                    refine r_getR h kf_X8_31 dX8_decide_175 rfl rfl (by decide) rfl (Eq.trans rfl q96) ?_
                    refine r_iload_n h dX8_decide_178 rfl ?_
                    refine r_iload h dX8_decide_179 rfl ?_
                    refine r_if_eq (tgt := 200) h dX8_decide_181 (by decide) (fun c97 => ?_) (fun c97 => ?_)
                    · replace hoc := (if_pos c97).symm.trans hoc
                      refine r_bipush (v := 50) h dX8_decide_200 (by decide) ?_
                      refine r_aload_n h dX8_decide_202 rfl ?_
                      refine r_getR h kf_X8_31 dX8_decide_203 rfl rfl (by decide) rfl (Eq.trans rfl q96) ?_
                      refine r_iload_n h dX8_decide_206 rfl ?_
                      obtain ⟨c98, hoc⟩ := k_gd hoc
                      refine r_iaload (y := (k_I v1.2 35 (j15) ((a1).toNatClampNeg)).toNatClampNeg) (t := 0) h dX8_decide_207 rfl rfl rfl (k_xx c98.1) c98.2 (by decide) ?_
                      refine r_eqI (Eq.trans (k_I_l (by decide)) (k_I_l (by decide))) ?_
                      refine r_iconst (v := 1) h dX8_decide_208 (by decide) ?_
                      refine r_isub h dX8_decide_209 ?_
                      refine r_max h hMe ⟨kl_X8_114.1.1, kl_X8_114.2, kl_X8_114.1.2.1, kl_X8_114.1.2.2.1⟩ dX8_decide_210 ⟨Nat.le_of_ble_eq_true rfl, Nat.le_of_ble_eq_true rfl, Nat.le_of_ble_eq_true rfl, Nat.le_of_ble_eq_true rfl⟩ ?_
                      obtain ⟨c99, hoc⟩ := k_gd hoc
                      refine r_iastore (y := (k_I v1.2 35 (j15) ((a1).toNatClampNeg)).toNatClampNeg) (t := 0) (x := (if (50 : Int32) < (k_I v22.2 27 (j95) ((k_I v1.2 35 (j15) ((a1).toNatClampNeg)).toNatClampNeg) - 1) then (k_I v22.2 27 (j95) ((k_I v1.2 35 (j15) ((a1).toNatClampNeg)).toNatClampNeg) - 1) else (50 : Int32))) h dX8_decide_213 rfl rfl rfl rfl (k_fit_int _) (k_xx c99.1) c99.2 (by decide) ?_
                      refine r_aload_n h dX8_decide_214 rfl ?_
                      refine r_getR h kf_X8_73 dX8_decide_215 rfl rfl (by decide) rfl (Eq.trans rfl q26) ?_
                      refine r_iload_n h dX8_decide_218 rfl ?_
                      obtain ⟨c100, hoc⟩ := k_gd hoc
                      refine r_caload (y := (a1).toNatClampNeg) (t := 0) h dX8_decide_219 rfl rfl rfl (k_xx c100.1) c100.2 (by decide) ?_
                      refine r_eqI (Eq.trans (k_I_l (by decide)) (Eq.trans (k_I_l (by decide)) (k_I_l (by decide)))) ?_
                      obtain ⟨c101, hoc⟩ := k_gd hoc
                      cases hoc
                      exact r_ireturn h hEn dX8_decide_220 rfl (k_nC c101) rfl (by decide) (by decide)
                    · replace hoc := (if_neg c97).symm.trans hoc
                      refine r_bipush (v := 100) h dX8_decide_184 (by decide) ?_
                      refine r_aload_n h dX8_decide_186 rfl ?_
                      refine r_getR h kf_X8_31 dX8_decide_187 rfl rfl (by decide) rfl (Eq.trans rfl q96) ?_
                      refine r_iload_n h dX8_decide_190 rfl ?_
                      obtain ⟨c102, hoc⟩ := k_gd hoc
                      refine r_iaload (y := (k_I v1.2 35 (j15) ((a1).toNatClampNeg)).toNatClampNeg) (t := 0) h dX8_decide_191 rfl rfl rfl (k_xx c102.1) c102.2 (by decide) ?_
                      refine r_eqI (Eq.trans (k_I_l (by decide)) (k_I_l (by decide))) ?_
                      refine r_iconst (v := 5) h dX8_decide_192 (by decide) ?_
                      refine r_iadd h dX8_decide_193 ?_
                      refine r_min h hMe ⟨kl_X8_178.1.1, kl_X8_178.2, kl_X8_178.1.2.1, kl_X8_178.1.2.2.1⟩ dX8_decide_194 ⟨Nat.le_of_ble_eq_true rfl, Nat.le_of_ble_eq_true rfl, Nat.le_of_ble_eq_true rfl, Nat.le_of_ble_eq_true rfl⟩ ?_
                      refine r_goto (tgt := 213) h dX8_decide_197 (by decide) ?_
                      obtain ⟨c103, hoc⟩ := k_gd hoc
                      refine r_iastore (y := (k_I v1.2 35 (j15) ((a1).toNatClampNeg)).toNatClampNeg) (t := 0) (x := (if (k_I v22.2 27 (j95) ((k_I v1.2 35 (j15) ((a1).toNatClampNeg)).toNatClampNeg) + 5) < (100 : Int32) then (k_I v22.2 27 (j95) ((k_I v1.2 35 (j15) ((a1).toNatClampNeg)).toNatClampNeg) + 5) else (100 : Int32))) h dX8_decide_213 rfl rfl rfl rfl (k_fit_int _) (k_xx c103.1) c103.2 (by decide) ?_
                      refine r_aload_n h dX8_decide_214 rfl ?_
                      refine r_getR h kf_X8_73 dX8_decide_215 rfl rfl (by decide) rfl (Eq.trans rfl q26) ?_
                      refine r_iload_n h dX8_decide_218 rfl ?_
                      obtain ⟨c104, hoc⟩ := k_gd hoc
                      refine r_caload (y := (a1).toNatClampNeg) (t := 0) h dX8_decide_219 rfl rfl rfl (k_xx c104.1) c104.2 (by decide) ?_
                      refine r_eqI (Eq.trans (k_I_l (by decide)) (Eq.trans (k_I_l (by decide)) (k_I_l (by decide)))) ?_
                      obtain ⟨c105, hoc⟩ := k_gd hoc
                      cases hoc
                      exact r_ireturn h hEn dX8_decide_220 rfl (k_nC c105) rfl (by decide) (by decide)
          · replace hoc := (if_pos c24).symm.trans hoc
            refine r_aload_n h dX8_decide_101 rfl ?_
            obtain ⟨j106, q107, hoc⟩ := k_ob hoc
            refine r_getR h kf_X8_73 dX8_decide_102 rfl rfl (by decide) rfl (Eq.trans rfl q107) ?_
            refine r_iload_n h dX8_decide_105 rfl ?_
            obtain ⟨c108, hoc⟩ := k_gd hoc
            refine r_caload (y := (a1).toNatClampNeg) (t := 0) h dX8_decide_106 rfl rfl rfl (k_xx c108.1) c108.2 (by decide) ?_
            obtain ⟨c109, hoc⟩ := k_gd hoc
            cases hoc
            exact r_ireturn h hEn dX8_decide_107 rfl (k_nC c109) rfl (by decide) (by decide)
        · replace hoc := (if_pos c14).symm.trans hoc
          refine r_iconst (v := 1) h dX8_decide_66 (by decide) ?_
          refine r_goto (tgt := 71) h dX8_decide_67 (by decide) ?_
          refine r_istore_n (L' := [some (k_p 1 (i0)), some (k_i (a1)), some (k_i (1)), none, none]) h dX8_decide_71 (by decide) rfl ?_
          refine r_aload_n h dX8_decide_72 rfl ?_
          obtain ⟨j110, q111, hoc⟩ := k_ob hoc
          refine r_getR h kf_X8_60 dX8_decide_73 rfl rfl (by decide) rfl (Eq.trans rfl q111) ?_
          refine r_iload_n h dX8_decide_76 rfl ?_
          obtain ⟨c112, hoc⟩ := k_gd hoc
          refine r_iaload (y := (a1).toNatClampNeg) (t := 0) h dX8_decide_77 rfl rfl rfl (k_xx c112.1) c112.2 (by decide) ?_
          refine r_istore_n (L' := [some (k_p 1 (i0)), some (k_i (a1)), some (k_i (1)), some (k_i (k_I v1.2 35 (j110) ((a1).toNatClampNeg))), none]) h dX8_decide_78 (by decide) rfl ?_
          refine r_aload_n h dX8_decide_79 rfl ?_
          refine r_iload_n h dX8_decide_80 rfl ?_
          refine r_aload_n h dX8_decide_81 rfl ?_
          refine r_iload_n h dX8_decide_82 rfl ?_
          refine r_iconst (v := 1) h dX8_decide_83 (by decide) ?_
          obtain ⟨v113, q114, hoc⟩ := k_ob hoc
          refine r_callV h hMe (rest := [k_i (a1), k_p 1 (i0)]) (as := [k_i (a1), k_i (1)]) (oc := .inl (k_mI v113, v1.2)) (j_X8_weight la hla G _ (i0) (a1) (1) _ q114) kl_X8_166 dX8_decide_84 rfl rfl rfl rfl rfl ⟨rfl, rfl, Nat.le_of_ble_eq_true rfl, Nat.le_of_ble_eq_true rfl, Nat.le_of_ble_eq_true rfl, Nat.le_of_ble_eq_true rfl, Nat.le_of_ble_eq_true rfl⟩ (fun E q => by cases q) (fun r s q => ?_)
          cases q
          show k_W X _ _ _ _ _ ([k_i (v113), k_i (a1), k_p 1 (i0)])
          refine r_aload_n h dX8_decide_87 rfl ?_
          refine r_iload_n h dX8_decide_88 rfl ?_
          refine r_iconst (v := -1) h dX8_decide_89 (by decide) ?_
          obtain ⟨v115, q116, hoc⟩ := k_ob hoc
          refine r_callV h hMe (rest := [k_i (v113), k_i (a1), k_p 1 (i0)]) (as := [k_i (a1), k_i (-1)]) (oc := .inl (k_mI v115, v1.2)) (j_X8_weight la hla G _ (i0) (a1) (-1) _ q116) kl_X8_166 dX8_decide_90 rfl rfl rfl rfl rfl ⟨rfl, rfl, Nat.le_of_ble_eq_true rfl, Nat.le_of_ble_eq_true rfl, Nat.le_of_ble_eq_true rfl, Nat.le_of_ble_eq_true rfl, Nat.le_of_ble_eq_true rfl⟩ (fun E q => by cases q) (fun r s q => ?_)
          cases q
          show k_W X _ _ _ _ _ ([k_i (v115), k_i (v113), k_i (a1), k_p 1 (i0)])
          refine r_iconst (v := -1) h dX8_decide_93 (by decide) ?_
          obtain ⟨v117, q118, hoc⟩ := k_ob hoc
          refine r_callV h hMe (rest := []) (as := [k_i (a1), k_i (v113), k_i (v115), k_i (-1)]) (oc := .inl (k_mU v117.1, v117.2)) (j_X8_decides la hla G _ (i0) (a1) (v113) (v115) (-1) _ q118) kl_X8_162 dX8_decide_94 rfl rfl rfl rfl rfl ⟨rfl, rfl, Nat.le_of_ble_eq_true rfl, Nat.le_of_ble_eq_true rfl, Nat.le_of_ble_eq_true rfl, Nat.le_of_ble_eq_true rfl, Nat.le_of_ble_eq_true rfl⟩ (fun E q => by cases q) (fun r s q => ?_)
          cases q
          show k_W X _ _ _ _ _ ([])
          refine r_iload_n h dX8_decide_97 rfl ?_
          refine r_if_ne (tgt := 108) h dX8_decide_98 (by decide) (fun c119 => ?_) (fun c119 => ?_)
          · replace hoc := (if_neg c119).symm.trans hoc
            refine r_aload_n h dX8_decide_108 rfl ?_
            refine r_dup h dX8_decide_109 rfl ?_
            refine r_getI h kf_X8_172 dX8_decide_110 rfl rfl (by decide) rfl ?_
            refine r_iconst (v := 1) h dX8_decide_113 (by decide) ?_
            refine r_iadd h dX8_decide_114 ?_
            refine r_putI (x := (k_I v117.2 1 (i0) (30) + 1)) h kp_X8_172 dX8_decide_115 rfl rfl (by decide) rfl rfl (k_fit_int _) ?_
            refine r_aload_n h dX8_decide_118 rfl ?_
            obtain ⟨j120, q121, hoc⟩ := k_ob hoc
            refine r_getR h kf_X8_73 dX8_decide_119 rfl rfl (by decide) rfl (Eq.trans rfl q121) ?_
            refine r_iload_n h dX8_decide_122 rfl ?_
            obtain ⟨c122, hoc⟩ := k_gd hoc
            refine r_caload (y := (a1).toNatClampNeg) (t := 0) h dX8_decide_123 rfl rfl rfl (k_xx c122.1) c122.2 (by decide) ?_
            refine r_eqI (k_I_l (by decide)) ?_
            refine r_aload_n h dX8_decide_124 rfl ?_
            obtain ⟨j123, q124, hoc⟩ := k_ob hoc
            refine r_getR h kf_X8_76 dX8_decide_125 rfl rfl (by decide) rfl (Eq.trans rfl q124) ?_
            refine r_iload_n h dX8_decide_128 rfl ?_
            obtain ⟨c125, hoc⟩ := k_gd hoc
            refine r_caload (y := (a1).toNatClampNeg) (t := 0) h dX8_decide_129 rfl rfl rfl (k_xx c125.1) c125.2 (by decide) ?_
            refine r_eqI (k_I_l (by decide)) ?_
            refine r_icmp_eq (tgt := 137) h dX8_decide_130 (by decide) (fun c126 => ?_) (fun c126 => ?_)
            · replace hoc := (if_pos c126).symm.trans hoc
              refine r_iconst (v := 0) h dX8_decide_137 (by decide) ?_
              refine r_istore (L' := [some (k_p 1 (i0)), some (k_i (a1)), some (k_i (1)), some (k_i (k_I v1.2 35 (j110) ((a1).toNatClampNeg))), some (k_i (0))]) h dX8_decide_138 (by decide) rfl ?_
              refine r_aload_n h dX8_decide_140 rfl ?_
              refine r_dup h dX8_decide_141 rfl ?_
              refine r_getI h kf_X8_175 dX8_decide_142 rfl rfl (by decide) rfl ?_
              refine r_eqI (k_I_k (by decide)) ?_
              refine r_iload h dX8_decide_145 rfl ?_
              refine r_if_eq (tgt := 154) h dX8_decide_147 (by decide) (fun c127 => ?_) (fun c127 => ?_)
              · replace hoc := (if_pos c127).symm.trans hoc
                refine r_iconst (v := 0) h dX8_decide_154 (by decide) ?_
                refine r_iadd h dX8_decide_155 ?_
                refine r_putI (x := (k_I v117.2 1 (i0) (31) + 0)) h kp_X8_175 dX8_decide_156 rfl rfl (by decide) rfl rfl (k_fit_int _) ?_
                refine r_iload_n h dX8_decide_159 rfl ?_
                refine r_if_lt (tgt := 214) h dX8_decide_160 (by decide) (fun c128 => ?_) (fun c128 => ?_)
                · replace hoc := (if_pos c128).symm.trans hoc
                  refine r_aload_n h dX8_decide_214 rfl ?_
                  refine r_getR h kf_X8_73 dX8_decide_215 rfl rfl (by decide) rfl (Eq.trans rfl q121) ?_
                  refine r_iload_n h dX8_decide_218 rfl ?_
                  obtain ⟨c129, hoc⟩ := k_gd hoc
                  refine r_caload (y := (a1).toNatClampNeg) (t := 0) h dX8_decide_219 rfl rfl rfl (k_xx c129.1) c129.2 (by decide) ?_
                  refine r_eqI (Eq.trans (k_I_l (by decide)) (k_I_l (by decide))) ?_
                  obtain ⟨c130, hoc⟩ := k_gd hoc
                  cases hoc
                  exact r_ireturn h hEn dX8_decide_220 rfl (k_nC c130) rfl (by decide) (by decide)
                · replace hoc := (if_neg c128).symm.trans hoc
                  refine r_aload_n h dX8_decide_163 rfl ?_
                  refine r_getR h kf_X8_76 dX8_decide_164 rfl rfl (by decide) rfl (Eq.trans rfl q124) ?_
                  refine r_iload_n h dX8_decide_167 rfl ?_
                  obtain ⟨c131, hoc⟩ := k_gd hoc
                  refine r_caload (y := (a1).toNatClampNeg) (t := 0) h dX8_decide_168 rfl rfl rfl (k_xx c131.1) c131.2 (by decide) ?_
                  refine r_eqI (Eq.trans (k_I_l (by decide)) (k_I_l (by decide))) ?_
                  refine r_bipush (v := 103) h dX8_decide_169 (by decide) ?_
                  refine r_icmp_ne (tgt := 214) h dX8_decide_171 (by decide) (fun c132 => ?_) (fun c132 => ?_)
                  · replace hoc := (if_neg c132).symm.trans hoc
                    refine r_aload_n h dX8_decide_214 rfl ?_
                    refine r_getR h kf_X8_73 dX8_decide_215 rfl rfl (by decide) rfl (Eq.trans rfl q121) ?_
                    refine r_iload_n h dX8_decide_218 rfl ?_
                    obtain ⟨c133, hoc⟩ := k_gd hoc
                    refine r_caload (y := (a1).toNatClampNeg) (t := 0) h dX8_decide_219 rfl rfl rfl (k_xx c133.1) c133.2 (by decide) ?_
                    refine r_eqI (Eq.trans (k_I_l (by decide)) (k_I_l (by decide))) ?_
                    obtain ⟨c134, hoc⟩ := k_gd hoc
                    cases hoc
                    exact r_ireturn h hEn dX8_decide_220 rfl (k_nC c134) rfl (by decide) (by decide)
                  · replace hoc := (if_pos c132).symm.trans hoc
                    refine r_aload_n h dX8_decide_174 rfl ?_
                    obtain ⟨j135, q136, hoc⟩ := k_ob hoc
                    refine r_getR h kf_X8_31 dX8_decide_175 rfl rfl (by decide) rfl (Eq.trans rfl q136) ?_
                    refine r_iload_n h dX8_decide_178 rfl ?_
                    refine r_iload h dX8_decide_179 rfl ?_
                    refine r_if_eq (tgt := 200) h dX8_decide_181 (by decide) (fun c137 => ?_) (fun c137 => ?_)
                    · replace hoc := (if_pos c137).symm.trans hoc
                      refine r_bipush (v := 50) h dX8_decide_200 (by decide) ?_
                      refine r_aload_n h dX8_decide_202 rfl ?_
                      refine r_getR h kf_X8_31 dX8_decide_203 rfl rfl (by decide) rfl (Eq.trans rfl q136) ?_
                      refine r_iload_n h dX8_decide_206 rfl ?_
                      obtain ⟨c138, hoc⟩ := k_gd hoc
                      refine r_iaload (y := (k_I v1.2 35 (j110) ((a1).toNatClampNeg)).toNatClampNeg) (t := 0) h dX8_decide_207 rfl rfl rfl (k_xx c138.1) c138.2 (by decide) ?_
                      refine r_eqI (Eq.trans (k_I_l (by decide)) (k_I_l (by decide))) ?_
                      refine r_iconst (v := 1) h dX8_decide_208 (by decide) ?_
                      refine r_isub h dX8_decide_209 ?_
                      refine r_max h hMe ⟨kl_X8_114.1.1, kl_X8_114.2, kl_X8_114.1.2.1, kl_X8_114.1.2.2.1⟩ dX8_decide_210 ⟨Nat.le_of_ble_eq_true rfl, Nat.le_of_ble_eq_true rfl, Nat.le_of_ble_eq_true rfl, Nat.le_of_ble_eq_true rfl⟩ ?_
                      obtain ⟨c139, hoc⟩ := k_gd hoc
                      refine r_iastore (y := (k_I v1.2 35 (j110) ((a1).toNatClampNeg)).toNatClampNeg) (t := 0) (x := (if (50 : Int32) < (k_I v117.2 27 (j135) ((k_I v1.2 35 (j110) ((a1).toNatClampNeg)).toNatClampNeg) - 1) then (k_I v117.2 27 (j135) ((k_I v1.2 35 (j110) ((a1).toNatClampNeg)).toNatClampNeg) - 1) else (50 : Int32))) h dX8_decide_213 rfl rfl rfl rfl (k_fit_int _) (k_xx c139.1) c139.2 (by decide) ?_
                      refine r_aload_n h dX8_decide_214 rfl ?_
                      refine r_getR h kf_X8_73 dX8_decide_215 rfl rfl (by decide) rfl (Eq.trans rfl q121) ?_
                      refine r_iload_n h dX8_decide_218 rfl ?_
                      obtain ⟨c140, hoc⟩ := k_gd hoc
                      refine r_caload (y := (a1).toNatClampNeg) (t := 0) h dX8_decide_219 rfl rfl rfl (k_xx c140.1) c140.2 (by decide) ?_
                      refine r_eqI (Eq.trans (k_I_l (by decide)) (Eq.trans (k_I_l (by decide)) (k_I_l (by decide)))) ?_
                      obtain ⟨c141, hoc⟩ := k_gd hoc
                      cases hoc
                      exact r_ireturn h hEn dX8_decide_220 rfl (k_nC c141) rfl (by decide) (by decide)
                    · replace hoc := (if_neg c137).symm.trans hoc
                      refine r_bipush (v := 100) h dX8_decide_184 (by decide) ?_
                      refine r_aload_n h dX8_decide_186 rfl ?_
                      refine r_getR h kf_X8_31 dX8_decide_187 rfl rfl (by decide) rfl (Eq.trans rfl q136) ?_
                      refine r_iload_n h dX8_decide_190 rfl ?_
                      obtain ⟨c142, hoc⟩ := k_gd hoc
                      refine r_iaload (y := (k_I v1.2 35 (j110) ((a1).toNatClampNeg)).toNatClampNeg) (t := 0) h dX8_decide_191 rfl rfl rfl (k_xx c142.1) c142.2 (by decide) ?_
                      refine r_eqI (Eq.trans (k_I_l (by decide)) (k_I_l (by decide))) ?_
                      refine r_iconst (v := 5) h dX8_decide_192 (by decide) ?_
                      refine r_iadd h dX8_decide_193 ?_
                      refine r_min h hMe ⟨kl_X8_178.1.1, kl_X8_178.2, kl_X8_178.1.2.1, kl_X8_178.1.2.2.1⟩ dX8_decide_194 ⟨Nat.le_of_ble_eq_true rfl, Nat.le_of_ble_eq_true rfl, Nat.le_of_ble_eq_true rfl, Nat.le_of_ble_eq_true rfl⟩ ?_
                      refine r_goto (tgt := 213) h dX8_decide_197 (by decide) ?_
                      obtain ⟨c143, hoc⟩ := k_gd hoc
                      refine r_iastore (y := (k_I v1.2 35 (j110) ((a1).toNatClampNeg)).toNatClampNeg) (t := 0) (x := (if (k_I v117.2 27 (j135) ((k_I v1.2 35 (j110) ((a1).toNatClampNeg)).toNatClampNeg) + 5) < (100 : Int32) then (k_I v117.2 27 (j135) ((k_I v1.2 35 (j110) ((a1).toNatClampNeg)).toNatClampNeg) + 5) else (100 : Int32))) h dX8_decide_213 rfl rfl rfl rfl (k_fit_int _) (k_xx c143.1) c143.2 (by decide) ?_
                      refine r_aload_n h dX8_decide_214 rfl ?_
                      refine r_getR h kf_X8_73 dX8_decide_215 rfl rfl (by decide) rfl (Eq.trans rfl q121) ?_
                      refine r_iload_n h dX8_decide_218 rfl ?_
                      obtain ⟨c144, hoc⟩ := k_gd hoc
                      refine r_caload (y := (a1).toNatClampNeg) (t := 0) h dX8_decide_219 rfl rfl rfl (k_xx c144.1) c144.2 (by decide) ?_
                      refine r_eqI (Eq.trans (k_I_l (by decide)) (Eq.trans (k_I_l (by decide)) (k_I_l (by decide)))) ?_
                      obtain ⟨c145, hoc⟩ := k_gd hoc
                      cases hoc
                      exact r_ireturn h hEn dX8_decide_220 rfl (k_nC c145) rfl (by decide) (by decide)
              · replace hoc := (if_neg c127).symm.trans hoc
                refine r_iconst (v := 1) h dX8_decide_150 (by decide) ?_
                refine r_goto (tgt := 155) h dX8_decide_151 (by decide) ?_
                refine r_iadd h dX8_decide_155 ?_
                refine r_putI (x := (k_I v117.2 1 (i0) (31) + 1)) h kp_X8_175 dX8_decide_156 rfl rfl (by decide) rfl rfl (k_fit_int _) ?_
                refine r_iload_n h dX8_decide_159 rfl ?_
                refine r_if_lt (tgt := 214) h dX8_decide_160 (by decide) (fun c146 => ?_) (fun c146 => ?_)
                · replace hoc := (if_pos c146).symm.trans hoc
                  refine r_aload_n h dX8_decide_214 rfl ?_
                  refine r_getR h kf_X8_73 dX8_decide_215 rfl rfl (by decide) rfl (Eq.trans rfl q121) ?_
                  refine r_iload_n h dX8_decide_218 rfl ?_
                  obtain ⟨c147, hoc⟩ := k_gd hoc
                  refine r_caload (y := (a1).toNatClampNeg) (t := 0) h dX8_decide_219 rfl rfl rfl (k_xx c147.1) c147.2 (by decide) ?_
                  refine r_eqI (Eq.trans (k_I_l (by decide)) (k_I_l (by decide))) ?_
                  obtain ⟨c148, hoc⟩ := k_gd hoc
                  cases hoc
                  exact r_ireturn h hEn dX8_decide_220 rfl (k_nC c148) rfl (by decide) (by decide)
                · replace hoc := (if_neg c146).symm.trans hoc
                  refine r_aload_n h dX8_decide_163 rfl ?_
                  refine r_getR h kf_X8_76 dX8_decide_164 rfl rfl (by decide) rfl (Eq.trans rfl q124) ?_
                  refine r_iload_n h dX8_decide_167 rfl ?_
                  obtain ⟨c149, hoc⟩ := k_gd hoc
                  refine r_caload (y := (a1).toNatClampNeg) (t := 0) h dX8_decide_168 rfl rfl rfl (k_xx c149.1) c149.2 (by decide) ?_
                  refine r_eqI (Eq.trans (k_I_l (by decide)) (k_I_l (by decide))) ?_
                  refine r_bipush (v := 103) h dX8_decide_169 (by decide) ?_
                  refine r_icmp_ne (tgt := 214) h dX8_decide_171 (by decide) (fun c150 => ?_) (fun c150 => ?_)
                  · replace hoc := (if_neg c150).symm.trans hoc
                    refine r_aload_n h dX8_decide_214 rfl ?_
                    refine r_getR h kf_X8_73 dX8_decide_215 rfl rfl (by decide) rfl (Eq.trans rfl q121) ?_
                    refine r_iload_n h dX8_decide_218 rfl ?_
                    obtain ⟨c151, hoc⟩ := k_gd hoc
                    refine r_caload (y := (a1).toNatClampNeg) (t := 0) h dX8_decide_219 rfl rfl rfl (k_xx c151.1) c151.2 (by decide) ?_
                    refine r_eqI (Eq.trans (k_I_l (by decide)) (k_I_l (by decide))) ?_
                    obtain ⟨c152, hoc⟩ := k_gd hoc
                    cases hoc
                    exact r_ireturn h hEn dX8_decide_220 rfl (k_nC c152) rfl (by decide) (by decide)
                  · replace hoc := (if_pos c150).symm.trans hoc
                    refine r_aload_n h dX8_decide_174 rfl ?_
                    obtain ⟨j153, q154, hoc⟩ := k_ob hoc
                    refine r_getR h kf_X8_31 dX8_decide_175 rfl rfl (by decide) rfl (Eq.trans rfl q154) ?_
                    refine r_iload_n h dX8_decide_178 rfl ?_
                    refine r_iload h dX8_decide_179 rfl ?_
                    refine r_if_eq (tgt := 200) h dX8_decide_181 (by decide) (fun c155 => ?_) (fun c155 => ?_)
                    · replace hoc := (if_pos c155).symm.trans hoc
                      refine r_bipush (v := 50) h dX8_decide_200 (by decide) ?_
                      refine r_aload_n h dX8_decide_202 rfl ?_
                      refine r_getR h kf_X8_31 dX8_decide_203 rfl rfl (by decide) rfl (Eq.trans rfl q154) ?_
                      refine r_iload_n h dX8_decide_206 rfl ?_
                      obtain ⟨c156, hoc⟩ := k_gd hoc
                      refine r_iaload (y := (k_I v1.2 35 (j110) ((a1).toNatClampNeg)).toNatClampNeg) (t := 0) h dX8_decide_207 rfl rfl rfl (k_xx c156.1) c156.2 (by decide) ?_
                      refine r_eqI (Eq.trans (k_I_l (by decide)) (k_I_l (by decide))) ?_
                      refine r_iconst (v := 1) h dX8_decide_208 (by decide) ?_
                      refine r_isub h dX8_decide_209 ?_
                      refine r_max h hMe ⟨kl_X8_114.1.1, kl_X8_114.2, kl_X8_114.1.2.1, kl_X8_114.1.2.2.1⟩ dX8_decide_210 ⟨Nat.le_of_ble_eq_true rfl, Nat.le_of_ble_eq_true rfl, Nat.le_of_ble_eq_true rfl, Nat.le_of_ble_eq_true rfl⟩ ?_
                      obtain ⟨c157, hoc⟩ := k_gd hoc
                      refine r_iastore (y := (k_I v1.2 35 (j110) ((a1).toNatClampNeg)).toNatClampNeg) (t := 0) (x := (if (50 : Int32) < (k_I v117.2 27 (j153) ((k_I v1.2 35 (j110) ((a1).toNatClampNeg)).toNatClampNeg) - 1) then (k_I v117.2 27 (j153) ((k_I v1.2 35 (j110) ((a1).toNatClampNeg)).toNatClampNeg) - 1) else (50 : Int32))) h dX8_decide_213 rfl rfl rfl rfl (k_fit_int _) (k_xx c157.1) c157.2 (by decide) ?_
                      refine r_aload_n h dX8_decide_214 rfl ?_
                      refine r_getR h kf_X8_73 dX8_decide_215 rfl rfl (by decide) rfl (Eq.trans rfl q121) ?_
                      refine r_iload_n h dX8_decide_218 rfl ?_
                      obtain ⟨c158, hoc⟩ := k_gd hoc
                      refine r_caload (y := (a1).toNatClampNeg) (t := 0) h dX8_decide_219 rfl rfl rfl (k_xx c158.1) c158.2 (by decide) ?_
                      refine r_eqI (Eq.trans (k_I_l (by decide)) (Eq.trans (k_I_l (by decide)) (k_I_l (by decide)))) ?_
                      obtain ⟨c159, hoc⟩ := k_gd hoc
                      cases hoc
                      exact r_ireturn h hEn dX8_decide_220 rfl (k_nC c159) rfl (by decide) (by decide)
                    · replace hoc := (if_neg c155).symm.trans hoc
                      refine r_bipush (v := 100) h dX8_decide_184 (by decide) ?_
                      refine r_aload_n h dX8_decide_186 rfl ?_
                      refine r_getR h kf_X8_31 dX8_decide_187 rfl rfl (by decide) rfl (Eq.trans rfl q154) ?_
                      refine r_iload_n h dX8_decide_190 rfl ?_
                      obtain ⟨c160, hoc⟩ := k_gd hoc
                      refine r_iaload (y := (k_I v1.2 35 (j110) ((a1).toNatClampNeg)).toNatClampNeg) (t := 0) h dX8_decide_191 rfl rfl rfl (k_xx c160.1) c160.2 (by decide) ?_
                      refine r_eqI (Eq.trans (k_I_l (by decide)) (k_I_l (by decide))) ?_
                      refine r_iconst (v := 5) h dX8_decide_192 (by decide) ?_
                      refine r_iadd h dX8_decide_193 ?_
                      refine r_min h hMe ⟨kl_X8_178.1.1, kl_X8_178.2, kl_X8_178.1.2.1, kl_X8_178.1.2.2.1⟩ dX8_decide_194 ⟨Nat.le_of_ble_eq_true rfl, Nat.le_of_ble_eq_true rfl, Nat.le_of_ble_eq_true rfl, Nat.le_of_ble_eq_true rfl⟩ ?_
                      refine r_goto (tgt := 213) h dX8_decide_197 (by decide) ?_
                      obtain ⟨c161, hoc⟩ := k_gd hoc
                      refine r_iastore (y := (k_I v1.2 35 (j110) ((a1).toNatClampNeg)).toNatClampNeg) (t := 0) (x := (if (k_I v117.2 27 (j153) ((k_I v1.2 35 (j110) ((a1).toNatClampNeg)).toNatClampNeg) + 5) < (100 : Int32) then (k_I v117.2 27 (j153) ((k_I v1.2 35 (j110) ((a1).toNatClampNeg)).toNatClampNeg) + 5) else (100 : Int32))) h dX8_decide_213 rfl rfl rfl rfl (k_fit_int _) (k_xx c161.1) c161.2 (by decide) ?_
                      refine r_aload_n h dX8_decide_214 rfl ?_
                      refine r_getR h kf_X8_73 dX8_decide_215 rfl rfl (by decide) rfl (Eq.trans rfl q121) ?_
                      refine r_iload_n h dX8_decide_218 rfl ?_
                      obtain ⟨c162, hoc⟩ := k_gd hoc
                      refine r_caload (y := (a1).toNatClampNeg) (t := 0) h dX8_decide_219 rfl rfl rfl (k_xx c162.1) c162.2 (by decide) ?_
                      refine r_eqI (Eq.trans (k_I_l (by decide)) (Eq.trans (k_I_l (by decide)) (k_I_l (by decide)))) ?_
                      obtain ⟨c163, hoc⟩ := k_gd hoc
                      cases hoc
                      exact r_ireturn h hEn dX8_decide_220 rfl (k_nC c163) rfl (by decide) (by decide)
            · replace hoc := (if_neg c126).symm.trans hoc
              refine r_iconst (v := 1) h dX8_decide_133 (by decide) ?_
              refine r_goto (tgt := 138) h dX8_decide_134 (by decide) ?_
              refine r_istore (L' := [some (k_p 1 (i0)), some (k_i (a1)), some (k_i (1)), some (k_i (k_I v1.2 35 (j110) ((a1).toNatClampNeg))), some (k_i (1))]) h dX8_decide_138 (by decide) rfl ?_
              refine r_aload_n h dX8_decide_140 rfl ?_
              refine r_dup h dX8_decide_141 rfl ?_
              refine r_getI h kf_X8_175 dX8_decide_142 rfl rfl (by decide) rfl ?_
              refine r_eqI (k_I_k (by decide)) ?_
              refine r_iload h dX8_decide_145 rfl ?_
              refine r_if_eq (tgt := 154) h dX8_decide_147 (by decide) (fun c164 => ?_) (fun c164 => ?_)
              · replace hoc := (if_pos c164).symm.trans hoc
                refine r_iconst (v := 0) h dX8_decide_154 (by decide) ?_
                refine r_iadd h dX8_decide_155 ?_
                refine r_putI (x := (k_I v117.2 1 (i0) (31) + 0)) h kp_X8_175 dX8_decide_156 rfl rfl (by decide) rfl rfl (k_fit_int _) ?_
                refine r_iload_n h dX8_decide_159 rfl ?_
                refine r_if_lt (tgt := 214) h dX8_decide_160 (by decide) (fun c165 => ?_) (fun c165 => ?_)
                · replace hoc := (if_pos c165).symm.trans hoc
                  refine r_aload_n h dX8_decide_214 rfl ?_
                  refine r_getR h kf_X8_73 dX8_decide_215 rfl rfl (by decide) rfl (Eq.trans rfl q121) ?_
                  refine r_iload_n h dX8_decide_218 rfl ?_
                  obtain ⟨c166, hoc⟩ := k_gd hoc
                  refine r_caload (y := (a1).toNatClampNeg) (t := 0) h dX8_decide_219 rfl rfl rfl (k_xx c166.1) c166.2 (by decide) ?_
                  refine r_eqI (Eq.trans (k_I_l (by decide)) (k_I_l (by decide))) ?_
                  obtain ⟨c167, hoc⟩ := k_gd hoc
                  cases hoc
                  exact r_ireturn h hEn dX8_decide_220 rfl (k_nC c167) rfl (by decide) (by decide)
                · replace hoc := (if_neg c165).symm.trans hoc
                  refine r_aload_n h dX8_decide_163 rfl ?_
                  refine r_getR h kf_X8_76 dX8_decide_164 rfl rfl (by decide) rfl (Eq.trans rfl q124) ?_
                  refine r_iload_n h dX8_decide_167 rfl ?_
                  obtain ⟨c168, hoc⟩ := k_gd hoc
                  refine r_caload (y := (a1).toNatClampNeg) (t := 0) h dX8_decide_168 rfl rfl rfl (k_xx c168.1) c168.2 (by decide) ?_
                  refine r_eqI (Eq.trans (k_I_l (by decide)) (k_I_l (by decide))) ?_
                  refine r_bipush (v := 103) h dX8_decide_169 (by decide) ?_
                  refine r_icmp_ne (tgt := 214) h dX8_decide_171 (by decide) (fun c169 => ?_) (fun c169 => ?_)
                  · replace hoc := (if_neg c169).symm.trans hoc
                    refine r_aload_n h dX8_decide_214 rfl ?_
                    refine r_getR h kf_X8_73 dX8_decide_215 rfl rfl (by decide) rfl (Eq.trans rfl q121) ?_
                    refine r_iload_n h dX8_decide_218 rfl ?_
                    obtain ⟨c170, hoc⟩ := k_gd hoc
                    refine r_caload (y := (a1).toNatClampNeg) (t := 0) h dX8_decide_219 rfl rfl rfl (k_xx c170.1) c170.2 (by decide) ?_
                    refine r_eqI (Eq.trans (k_I_l (by decide)) (k_I_l (by decide))) ?_
                    obtain ⟨c171, hoc⟩ := k_gd hoc
                    cases hoc
                    exact r_ireturn h hEn dX8_decide_220 rfl (k_nC c171) rfl (by decide) (by decide)
                  · replace hoc := (if_pos c169).symm.trans hoc
                    refine r_aload_n h dX8_decide_174 rfl ?_
                    obtain ⟨j172, q173, hoc⟩ := k_ob hoc
                    refine r_getR h kf_X8_31 dX8_decide_175 rfl rfl (by decide) rfl (Eq.trans rfl q173) ?_
                    refine r_iload_n h dX8_decide_178 rfl ?_
                    refine r_iload h dX8_decide_179 rfl ?_
                    refine r_if_eq (tgt := 200) h dX8_decide_181 (by decide) (fun c174 => ?_) (fun c174 => ?_)
                    · replace hoc := (if_pos c174).symm.trans hoc
                      refine r_bipush (v := 50) h dX8_decide_200 (by decide) ?_
                      refine r_aload_n h dX8_decide_202 rfl ?_
                      refine r_getR h kf_X8_31 dX8_decide_203 rfl rfl (by decide) rfl (Eq.trans rfl q173) ?_
                      refine r_iload_n h dX8_decide_206 rfl ?_
                      obtain ⟨c175, hoc⟩ := k_gd hoc
                      refine r_iaload (y := (k_I v1.2 35 (j110) ((a1).toNatClampNeg)).toNatClampNeg) (t := 0) h dX8_decide_207 rfl rfl rfl (k_xx c175.1) c175.2 (by decide) ?_
                      refine r_eqI (Eq.trans (k_I_l (by decide)) (k_I_l (by decide))) ?_
                      refine r_iconst (v := 1) h dX8_decide_208 (by decide) ?_
                      refine r_isub h dX8_decide_209 ?_
                      refine r_max h hMe ⟨kl_X8_114.1.1, kl_X8_114.2, kl_X8_114.1.2.1, kl_X8_114.1.2.2.1⟩ dX8_decide_210 ⟨Nat.le_of_ble_eq_true rfl, Nat.le_of_ble_eq_true rfl, Nat.le_of_ble_eq_true rfl, Nat.le_of_ble_eq_true rfl⟩ ?_
                      obtain ⟨c176, hoc⟩ := k_gd hoc
                      refine r_iastore (y := (k_I v1.2 35 (j110) ((a1).toNatClampNeg)).toNatClampNeg) (t := 0) (x := (if (50 : Int32) < (k_I v117.2 27 (j172) ((k_I v1.2 35 (j110) ((a1).toNatClampNeg)).toNatClampNeg) - 1) then (k_I v117.2 27 (j172) ((k_I v1.2 35 (j110) ((a1).toNatClampNeg)).toNatClampNeg) - 1) else (50 : Int32))) h dX8_decide_213 rfl rfl rfl rfl (k_fit_int _) (k_xx c176.1) c176.2 (by decide) ?_
                      refine r_aload_n h dX8_decide_214 rfl ?_
                      refine r_getR h kf_X8_73 dX8_decide_215 rfl rfl (by decide) rfl (Eq.trans rfl q121) ?_
                      refine r_iload_n h dX8_decide_218 rfl ?_
                      obtain ⟨c177, hoc⟩ := k_gd hoc
                      refine r_caload (y := (a1).toNatClampNeg) (t := 0) h dX8_decide_219 rfl rfl rfl (k_xx c177.1) c177.2 (by decide) ?_
                      refine r_eqI (Eq.trans (k_I_l (by decide)) (Eq.trans (k_I_l (by decide)) (k_I_l (by decide)))) ?_
                      obtain ⟨c178, hoc⟩ := k_gd hoc
                      cases hoc
                      exact r_ireturn h hEn dX8_decide_220 rfl (k_nC c178) rfl (by decide) (by decide)
                    · replace hoc := (if_neg c174).symm.trans hoc
                      refine r_bipush (v := 100) h dX8_decide_184 (by decide) ?_
                      refine r_aload_n h dX8_decide_186 rfl ?_
                      refine r_getR h kf_X8_31 dX8_decide_187 rfl rfl (by decide) rfl (Eq.trans rfl q173) ?_
                      refine r_iload_n h dX8_decide_190 rfl ?_
                      obtain ⟨c179, hoc⟩ := k_gd hoc
                      refine r_iaload (y := (k_I v1.2 35 (j110) ((a1).toNatClampNeg)).toNatClampNeg) (t := 0) h dX8_decide_191 rfl rfl rfl (k_xx c179.1) c179.2 (by decide) ?_
                      refine r_eqI (Eq.trans (k_I_l (by decide)) (k_I_l (by decide))) ?_
                      refine r_iconst (v := 5) h dX8_decide_192 (by decide) ?_
                      refine r_iadd h dX8_decide_193 ?_
                      refine r_min h hMe ⟨kl_X8_178.1.1, kl_X8_178.2, kl_X8_178.1.2.1, kl_X8_178.1.2.2.1⟩ dX8_decide_194 ⟨Nat.le_of_ble_eq_true rfl, Nat.le_of_ble_eq_true rfl, Nat.le_of_ble_eq_true rfl, Nat.le_of_ble_eq_true rfl⟩ ?_
                      refine r_goto (tgt := 213) h dX8_decide_197 (by decide) ?_
                      obtain ⟨c180, hoc⟩ := k_gd hoc
                      refine r_iastore (y := (k_I v1.2 35 (j110) ((a1).toNatClampNeg)).toNatClampNeg) (t := 0) (x := (if (k_I v117.2 27 (j172) ((k_I v1.2 35 (j110) ((a1).toNatClampNeg)).toNatClampNeg) + 5) < (100 : Int32) then (k_I v117.2 27 (j172) ((k_I v1.2 35 (j110) ((a1).toNatClampNeg)).toNatClampNeg) + 5) else (100 : Int32))) h dX8_decide_213 rfl rfl rfl rfl (k_fit_int _) (k_xx c180.1) c180.2 (by decide) ?_
                      refine r_aload_n h dX8_decide_214 rfl ?_
                      refine r_getR h kf_X8_73 dX8_decide_215 rfl rfl (by decide) rfl (Eq.trans rfl q121) ?_
                      refine r_iload_n h dX8_decide_218 rfl ?_
                      obtain ⟨c181, hoc⟩ := k_gd hoc
                      refine r_caload (y := (a1).toNatClampNeg) (t := 0) h dX8_decide_219 rfl rfl rfl (k_xx c181.1) c181.2 (by decide) ?_
                      refine r_eqI (Eq.trans (k_I_l (by decide)) (Eq.trans (k_I_l (by decide)) (k_I_l (by decide)))) ?_
                      obtain ⟨c182, hoc⟩ := k_gd hoc
                      cases hoc
                      exact r_ireturn h hEn dX8_decide_220 rfl (k_nC c182) rfl (by decide) (by decide)
              · replace hoc := (if_neg c164).symm.trans hoc
                refine r_iconst (v := 1) h dX8_decide_150 (by decide) ?_
                refine r_goto (tgt := 155) h dX8_decide_151 (by decide) ?_
                refine r_iadd h dX8_decide_155 ?_
                refine r_putI (x := (k_I v117.2 1 (i0) (31) + 1)) h kp_X8_175 dX8_decide_156 rfl rfl (by decide) rfl rfl (k_fit_int _) ?_
                refine r_iload_n h dX8_decide_159 rfl ?_
                refine r_if_lt (tgt := 214) h dX8_decide_160 (by decide) (fun c183 => ?_) (fun c183 => ?_)
                · replace hoc := (if_pos c183).symm.trans hoc
                  refine r_aload_n h dX8_decide_214 rfl ?_
                  refine r_getR h kf_X8_73 dX8_decide_215 rfl rfl (by decide) rfl (Eq.trans rfl q121) ?_
                  refine r_iload_n h dX8_decide_218 rfl ?_
                  obtain ⟨c184, hoc⟩ := k_gd hoc
                  refine r_caload (y := (a1).toNatClampNeg) (t := 0) h dX8_decide_219 rfl rfl rfl (k_xx c184.1) c184.2 (by decide) ?_
                  refine r_eqI (Eq.trans (k_I_l (by decide)) (k_I_l (by decide))) ?_
                  obtain ⟨c185, hoc⟩ := k_gd hoc
                  cases hoc
                  exact r_ireturn h hEn dX8_decide_220 rfl (k_nC c185) rfl (by decide) (by decide)
                · replace hoc := (if_neg c183).symm.trans hoc
                  refine r_aload_n h dX8_decide_163 rfl ?_
                  refine r_getR h kf_X8_76 dX8_decide_164 rfl rfl (by decide) rfl (Eq.trans rfl q124) ?_
                  refine r_iload_n h dX8_decide_167 rfl ?_
                  obtain ⟨c186, hoc⟩ := k_gd hoc
                  refine r_caload (y := (a1).toNatClampNeg) (t := 0) h dX8_decide_168 rfl rfl rfl (k_xx c186.1) c186.2 (by decide) ?_
                  refine r_eqI (Eq.trans (k_I_l (by decide)) (k_I_l (by decide))) ?_
                  refine r_bipush (v := 103) h dX8_decide_169 (by decide) ?_
                  refine r_icmp_ne (tgt := 214) h dX8_decide_171 (by decide) (fun c187 => ?_) (fun c187 => ?_)
                  · replace hoc := (if_neg c187).symm.trans hoc
                    refine r_aload_n h dX8_decide_214 rfl ?_
                    refine r_getR h kf_X8_73 dX8_decide_215 rfl rfl (by decide) rfl (Eq.trans rfl q121) ?_
                    refine r_iload_n h dX8_decide_218 rfl ?_
                    obtain ⟨c188, hoc⟩ := k_gd hoc
                    refine r_caload (y := (a1).toNatClampNeg) (t := 0) h dX8_decide_219 rfl rfl rfl (k_xx c188.1) c188.2 (by decide) ?_
                    refine r_eqI (Eq.trans (k_I_l (by decide)) (k_I_l (by decide))) ?_
                    obtain ⟨c189, hoc⟩ := k_gd hoc
                    cases hoc
                    exact r_ireturn h hEn dX8_decide_220 rfl (k_nC c189) rfl (by decide) (by decide)
                  · replace hoc := (if_pos c187).symm.trans hoc
                    refine r_aload_n h dX8_decide_174 rfl ?_
                    obtain ⟨j190, q191, hoc⟩ := k_ob hoc
                    refine r_getR h kf_X8_31 dX8_decide_175 rfl rfl (by decide) rfl (Eq.trans rfl q191) ?_
                    refine r_iload_n h dX8_decide_178 rfl ?_
                    refine r_iload h dX8_decide_179 rfl ?_
                    refine r_if_eq (tgt := 200) h dX8_decide_181 (by decide) (fun c192 => ?_) (fun c192 => ?_)
                    · replace hoc := (if_pos c192).symm.trans hoc
                      refine r_bipush (v := 50) h dX8_decide_200 (by decide) ?_
                      refine r_aload_n h dX8_decide_202 rfl ?_
                      refine r_getR h kf_X8_31 dX8_decide_203 rfl rfl (by decide) rfl (Eq.trans rfl q191) ?_
                      refine r_iload_n h dX8_decide_206 rfl ?_
                      obtain ⟨c193, hoc⟩ := k_gd hoc
                      refine r_iaload (y := (k_I v1.2 35 (j110) ((a1).toNatClampNeg)).toNatClampNeg) (t := 0) h dX8_decide_207 rfl rfl rfl (k_xx c193.1) c193.2 (by decide) ?_
                      refine r_eqI (Eq.trans (k_I_l (by decide)) (k_I_l (by decide))) ?_
                      refine r_iconst (v := 1) h dX8_decide_208 (by decide) ?_
                      refine r_isub h dX8_decide_209 ?_
                      refine r_max h hMe ⟨kl_X8_114.1.1, kl_X8_114.2, kl_X8_114.1.2.1, kl_X8_114.1.2.2.1⟩ dX8_decide_210 ⟨Nat.le_of_ble_eq_true rfl, Nat.le_of_ble_eq_true rfl, Nat.le_of_ble_eq_true rfl, Nat.le_of_ble_eq_true rfl⟩ ?_
                      obtain ⟨c194, hoc⟩ := k_gd hoc
                      refine r_iastore (y := (k_I v1.2 35 (j110) ((a1).toNatClampNeg)).toNatClampNeg) (t := 0) (x := (if (50 : Int32) < (k_I v117.2 27 (j190) ((k_I v1.2 35 (j110) ((a1).toNatClampNeg)).toNatClampNeg) - 1) then (k_I v117.2 27 (j190) ((k_I v1.2 35 (j110) ((a1).toNatClampNeg)).toNatClampNeg) - 1) else (50 : Int32))) h dX8_decide_213 rfl rfl rfl rfl (k_fit_int _) (k_xx c194.1) c194.2 (by decide) ?_
                      refine r_aload_n h dX8_decide_214 rfl ?_
                      refine r_getR h kf_X8_73 dX8_decide_215 rfl rfl (by decide) rfl (Eq.trans rfl q121) ?_
                      refine r_iload_n h dX8_decide_218 rfl ?_
                      obtain ⟨c195, hoc⟩ := k_gd hoc
                      refine r_caload (y := (a1).toNatClampNeg) (t := 0) h dX8_decide_219 rfl rfl rfl (k_xx c195.1) c195.2 (by decide) ?_
                      refine r_eqI (Eq.trans (k_I_l (by decide)) (Eq.trans (k_I_l (by decide)) (k_I_l (by decide)))) ?_
                      obtain ⟨c196, hoc⟩ := k_gd hoc
                      cases hoc
                      exact r_ireturn h hEn dX8_decide_220 rfl (k_nC c196) rfl (by decide) (by decide)
                    · replace hoc := (if_neg c192).symm.trans hoc
                      refine r_bipush (v := 100) h dX8_decide_184 (by decide) ?_
                      refine r_aload_n h dX8_decide_186 rfl ?_
                      refine r_getR h kf_X8_31 dX8_decide_187 rfl rfl (by decide) rfl (Eq.trans rfl q191) ?_
                      refine r_iload_n h dX8_decide_190 rfl ?_
                      obtain ⟨c197, hoc⟩ := k_gd hoc
                      refine r_iaload (y := (k_I v1.2 35 (j110) ((a1).toNatClampNeg)).toNatClampNeg) (t := 0) h dX8_decide_191 rfl rfl rfl (k_xx c197.1) c197.2 (by decide) ?_
                      refine r_eqI (Eq.trans (k_I_l (by decide)) (k_I_l (by decide))) ?_
                      refine r_iconst (v := 5) h dX8_decide_192 (by decide) ?_
                      refine r_iadd h dX8_decide_193 ?_
                      refine r_min h hMe ⟨kl_X8_178.1.1, kl_X8_178.2, kl_X8_178.1.2.1, kl_X8_178.1.2.2.1⟩ dX8_decide_194 ⟨Nat.le_of_ble_eq_true rfl, Nat.le_of_ble_eq_true rfl, Nat.le_of_ble_eq_true rfl, Nat.le_of_ble_eq_true rfl⟩ ?_
                      refine r_goto (tgt := 213) h dX8_decide_197 (by decide) ?_
                      obtain ⟨c198, hoc⟩ := k_gd hoc
                      refine r_iastore (y := (k_I v1.2 35 (j110) ((a1).toNatClampNeg)).toNatClampNeg) (t := 0) (x := (if (k_I v117.2 27 (j190) ((k_I v1.2 35 (j110) ((a1).toNatClampNeg)).toNatClampNeg) + 5) < (100 : Int32) then (k_I v117.2 27 (j190) ((k_I v1.2 35 (j110) ((a1).toNatClampNeg)).toNatClampNeg) + 5) else (100 : Int32))) h dX8_decide_213 rfl rfl rfl rfl (k_fit_int _) (k_xx c198.1) c198.2 (by decide) ?_
                      refine r_aload_n h dX8_decide_214 rfl ?_
                      refine r_getR h kf_X8_73 dX8_decide_215 rfl rfl (by decide) rfl (Eq.trans rfl q121) ?_
                      refine r_iload_n h dX8_decide_218 rfl ?_
                      obtain ⟨c199, hoc⟩ := k_gd hoc
                      refine r_caload (y := (a1).toNatClampNeg) (t := 0) h dX8_decide_219 rfl rfl rfl (k_xx c199.1) c199.2 (by decide) ?_
                      refine r_eqI (Eq.trans (k_I_l (by decide)) (Eq.trans (k_I_l (by decide)) (k_I_l (by decide)))) ?_
                      obtain ⟨c200, hoc⟩ := k_gd hoc
                      cases hoc
                      exact r_ireturn h hEn dX8_decide_220 rfl (k_nC c200) rfl (by decide) (by decide)
          · replace hoc := (if_pos c119).symm.trans hoc
            refine r_aload_n h dX8_decide_101 rfl ?_
            obtain ⟨j201, q202, hoc⟩ := k_ob hoc
            refine r_getR h kf_X8_73 dX8_decide_102 rfl rfl (by decide) rfl (Eq.trans rfl q202) ?_
            refine r_iload_n h dX8_decide_105 rfl ?_
            obtain ⟨c203, hoc⟩ := k_gd hoc
            refine r_caload (y := (a1).toNatClampNeg) (t := 0) h dX8_decide_106 rfl rfl rfl (k_xx c203.1) c203.2 (by decide) ?_
            obtain ⟨c204, hoc⟩ := k_gd hoc
            cases hoc
            exact r_ireturn h hEn dX8_decide_107 rfl (k_nC c204) rfl (by decide) (by decide)
      · replace hoc := (if_neg c12).symm.trans hoc
        refine r_aload_n h dX8_decide_48 rfl ?_
        refine r_iconst (v := 3) h dX8_decide_49 (by decide) ?_
        obtain ⟨v205, q206, hoc⟩ := k_ob hoc
        refine r_callV h hMe (rest := []) (as := [k_i (3)]) (oc := .inl (k_mI v205.1, v205.2)) (j_X8_fails la hla G _ (i0) (3) _ q206) kl_X8_103 dX8_decide_50 rfl rfl rfl rfl rfl ⟨rfl, rfl, Nat.le_of_ble_eq_true rfl, Nat.le_of_ble_eq_true rfl, Nat.le_of_ble_eq_true rfl, Nat.le_of_ble_eq_true rfl, Nat.le_of_ble_eq_true rfl⟩ (fun E q => by cases q) (fun r s q => ?_)
        cases q
        show k_W X _ _ _ _ _ ([k_i (v205.1)])
        refine r_i2c h dX8_decide_53 ?_
        obtain ⟨c207, hoc⟩ := k_gd hoc
        cases hoc
        exact r_ireturn h hEn dX8_decide_54 rfl (k_nC c207) rfl (by decide) (by decide)
    · replace hoc := (if_pos c7).symm.trans hoc
      refine r_aload_n h dX8_decide_21 rfl ?_
      refine r_iconst (v := 2) h dX8_decide_22 (by decide) ?_
      obtain ⟨v208, q209, hoc⟩ := k_ob hoc
      refine r_callV h hMe (rest := []) (as := [k_i (2)]) (oc := .inl (k_mI v208.1, v208.2)) (j_X8_fails la hla G _ (i0) (2) _ q209) kl_X8_103 dX8_decide_23 rfl rfl rfl rfl rfl ⟨rfl, rfl, Nat.le_of_ble_eq_true rfl, Nat.le_of_ble_eq_true rfl, Nat.le_of_ble_eq_true rfl, Nat.le_of_ble_eq_true rfl, Nat.le_of_ble_eq_true rfl⟩ (fun E q => by cases q) (fun r s q => ?_)
      cases q
      show k_W X _ _ _ _ _ ([k_i (v208.1)])
      refine r_i2c h dX8_decide_26 ?_
      obtain ⟨c210, hoc⟩ := k_gd hoc
      cases hoc
      exact r_ireturn h hEn dX8_decide_27 rfl (k_nC c210) rfl (by decide) (by decide)
  · replace hoc := (if_neg c3).symm.trans hoc
    refine r_iconst (v := 0) h dX8_decide_8 (by decide) ?_
    cases hoc
    exact r_ireturn h hEn dX8_decide_9 rfl (by decide) rfl (by decide) (by decide)
