/-! ===== walks 5 (written by wip/whole/gen_walk.py, emit_walk.py) ===== -/
def f_X7_file (σ : k_S) (i0 : Nat) (a1 : Int32) (a2 : Int32) (a3 : Int32) (a4 : Int32) : Option ((Int32 × k_S) ⊕ String) :=
  (k_bt (f_X7_userAt σ (i0) (a1)) fun v1 => (k_bt (f_X7_userAt σ (i0) (a2)) fun v3 => (if a1 = a2 then some (.inr "java/lang/IllegalArgumentException") else (k_bt (f_X7_requireWithin σ (a3) (1) (255)) fun v6 => (k_bt (f_X7_requireWithin σ (a4) (0) (100)) fun v8 => (if k_P σ 0 (i0) (3) = some 0 then (k_bt (f_X7_requireRoom σ ((nI (k_Z σ 15))) (20)) fun v12 => ((f_X2_init (k_new σ 5) (k_N σ 5) ((nI (k_Z σ 15))) (v1) (v3) (a3) (a4) (k_I σ 0 (i0) (8))).bind fun v14 => (if k_P v14.2 0 (i0) (3) = some 0 then (if k_Z v14.2 15 ≤ 200 then ((f_X7_botFor (k_ladd v14.2 15 (k_N σ 5)) (i0) (k_N σ 5)).bind fun v19 => (k_on (v19) (some (.inl ((nI (k_Z σ 15)), (k_uP (k_ladd v14.2 15 (k_N σ 5)) 5 (k_N σ 5) (8) (none))))) (fun j21 => ((f_X7_settle (k_uP (k_ladd v14.2 15 (k_N σ 5)) 5 (k_N σ 5) (8) (some (j21))) (i0) (k_N σ 5) ((a4 / 10)) (0)).bind fun v22 => some (.inl ((nI (k_Z σ 15)), v22.2)))))) else none) else none))) else none))))))
theorem j_X7_file (la : Launch) (hla : la.flags = flags0) (G : k_G) (σ : k_S) (i0 : Nat) (a1 : Int32) (a2 : Int32) (a3 : Int32) (a4 : Int32) (x : ((Int32 × k_S) ⊕ String)) (hoc : f_X7_file σ i0 a1 a2 a3 a4 = some x) : k_Ct la G yX7_file (k_ws yX7_file cX7_file 9 (Option.some ClassFile.FieldType.int)) { frames := 9, cells := 12, slots := 958, locals := 278 } [k_p 0 (i0), k_i (a1), k_i (a2), k_i (a3), k_i (a4)] σ (k_mc k_mI x) 12 958 := by
  refine k_body hla (by decide +kernel) (k_wl rfl) (Nat.le_of_ble_eq_true rfl) (fun X h hEn hMe => ?_)
  show k_W X σ 0 0 0 [some (k_p 0 (i0)), some (k_i (a1)), some (k_i (a2)), some (k_i (a3)), some (k_i (a4)), none, none, none, none] []
  unfold f_X7_file at hoc
  refine r_aload_n h dX7_file_0 rfl ?_
  refine r_iload_n h dX7_file_1 rfl ?_
  rcases k_bt_ex hoc with ⟨v1, q2, hoc⟩ | ⟨e28, q2, hoc⟩
  · refine r_callV h hMe (rest := []) (as := [k_i (a1)]) (oc := .inl ((k_mR 3) v1, σ)) (j_X7_userAt la hla G _ (i0) (a1) _ q2) kl_X7_130 dX7_file_2 rfl rfl rfl rfl rfl ⟨rfl, rfl, Nat.le_of_ble_eq_true rfl, Nat.le_of_ble_eq_true rfl, Nat.le_of_ble_eq_true rfl, Nat.le_of_ble_eq_true rfl, Nat.le_of_ble_eq_true rfl⟩ (fun E q => by cases q) (fun r s q => ?_)
    cases q
    show k_W X _ _ _ _ _ ([k_p 3 (v1)])
    refine r_astore (L' := [some (k_p 0 (i0)), some (k_i (a1)), some (k_i (a2)), some (k_i (a3)), some (k_i (a4)), some (k_p 3 (v1)), none, none, none]) h dX7_file_5 (by decide) rfl ?_
    refine r_aload_n h dX7_file_7 rfl ?_
    refine r_iload_n h dX7_file_8 rfl ?_
    rcases k_bt_ex hoc with ⟨v3, q4, hoc⟩ | ⟨e27, q4, hoc⟩
    · refine r_callV h hMe (rest := []) (as := [k_i (a2)]) (oc := .inl ((k_mR 3) v3, σ)) (j_X7_userAt la hla G _ (i0) (a2) _ q4) kl_X7_130 dX7_file_9 rfl rfl rfl rfl rfl ⟨rfl, rfl, Nat.le_of_ble_eq_true rfl, Nat.le_of_ble_eq_true rfl, Nat.le_of_ble_eq_true rfl, Nat.le_of_ble_eq_true rfl, Nat.le_of_ble_eq_true rfl⟩ (fun E q => by cases q) (fun r s q => ?_)
      cases q
      show k_W X _ _ _ _ _ ([k_p 3 (v3)])
      refine r_astore (L' := [some (k_p 0 (i0)), some (k_i (a1)), some (k_i (a2)), some (k_i (a3)), some (k_i (a4)), some (k_p 3 (v1)), some (k_p 3 (v3)), none, none]) h dX7_file_12 (by decide) rfl ?_
      refine r_iload_n h dX7_file_14 rfl ?_
      refine r_iload_n h dX7_file_15 rfl ?_
      refine r_icmp_ne (tgt := 29) h dX7_file_16 (by decide) (fun c5 => ?_) (fun c5 => ?_)
      · replace hoc := (if_neg c5).symm.trans hoc
        refine r_iload_n h dX7_file_29 rfl ?_
        refine r_iconst (v := 1) h dX7_file_30 (by decide) ?_
        refine r_sipush (v := 255) h dX7_file_31 (by decide) ?_
        rcases k_bt_ex hoc with ⟨v6, q7, hoc⟩ | ⟨e26, q7, hoc⟩
        · refine r_callS h hMe (rest := []) (as := [k_i (a3), k_i (1), k_i (255)]) (oc := .inl (k_mU v6, σ)) (j_X7_requireWithin la hla G _ (a3) (1) (255) _ q7) kl_X7_48 dX7_file_34 rfl rfl  ⟨rfl, rfl, Nat.le_of_ble_eq_true rfl, Nat.le_of_ble_eq_true rfl, Nat.le_of_ble_eq_true rfl, Nat.le_of_ble_eq_true rfl, Nat.le_of_ble_eq_true rfl⟩ (fun E q => by cases q) (fun r s q => ?_)
          cases q
          show k_W X _ _ _ _ _ ([])
          refine r_iload h dX7_file_37 rfl ?_
          refine r_iconst (v := 0) h dX7_file_39 (by decide) ?_
          refine r_bipush (v := 100) h dX7_file_40 (by decide) ?_
          rcases k_bt_ex hoc with ⟨v8, q9, hoc⟩ | ⟨e25, q9, hoc⟩
          · refine r_callS h hMe (rest := []) (as := [k_i (a4), k_i (0), k_i (100)]) (oc := .inl (k_mU v8, σ)) (j_X7_requireWithin la hla G _ (a4) (0) (100) _ q9) kl_X7_48 dX7_file_42 rfl rfl  ⟨rfl, rfl, Nat.le_of_ble_eq_true rfl, Nat.le_of_ble_eq_true rfl, Nat.le_of_ble_eq_true rfl, Nat.le_of_ble_eq_true rfl, Nat.le_of_ble_eq_true rfl⟩ (fun E q => by cases q) (fun r s q => ?_)
            cases q
            show k_W X _ _ _ _ _ ([])
            refine r_aload_n h dX7_file_45 rfl ?_
            obtain ⟨q11, hoc⟩ := k_gd hoc
            refine r_getR h kf_X7_22 dX7_file_46 rfl rfl (by decide) rfl (Eq.trans rfl q11) ?_
            refine r_callL h hMe (rest := []) (as := []) (j_size la hla G _ 15 rfl) kl_X7_52 dX7_file_49 rfl rfl rfl rfl ⟨rfl, rfl, Nat.le_of_ble_eq_true rfl, Nat.le_of_ble_eq_true rfl, Nat.le_of_ble_eq_true rfl, Nat.le_of_ble_eq_true rfl, Nat.le_of_ble_eq_true rfl⟩ (fun E q => by cases q) (fun r s q => ?_)
            cases q
            refine r_bipush (v := 20) h dX7_file_52 (by decide) ?_
            rcases k_bt_ex hoc with ⟨v12, q13, hoc⟩ | ⟨e24, q13, hoc⟩
            · refine r_callS h hMe (rest := []) (as := [k_i ((nI (k_Z σ 15))), k_i (20)]) (oc := .inl (k_mU v12, σ)) (j_X7_requireRoom la hla G _ ((nI (k_Z σ 15))) (20) _ q13) kl_X7_56 dX7_file_54 rfl rfl  ⟨rfl, rfl, Nat.le_of_ble_eq_true rfl, Nat.le_of_ble_eq_true rfl, Nat.le_of_ble_eq_true rfl, Nat.le_of_ble_eq_true rfl, Nat.le_of_ble_eq_true rfl⟩ (fun E q => by cases q) (fun r s q => ?_)
              cases q
              show k_W X _ _ _ _ _ ([])
              refine r_aload_n h dX7_file_57 rfl ?_
              refine r_getR h kf_X7_22 dX7_file_58 rfl rfl (by decide) rfl (Eq.trans rfl q11) ?_
              refine r_callL h hMe (rest := []) (as := []) (j_size la hla G _ 15 rfl) kl_X7_52 dX7_file_61 rfl rfl rfl rfl ⟨rfl, rfl, Nat.le_of_ble_eq_true rfl, Nat.le_of_ble_eq_true rfl, Nat.le_of_ble_eq_true rfl, Nat.le_of_ble_eq_true rfl, Nat.le_of_ble_eq_true rfl⟩ (fun E q => by cases q) (fun r s q => ?_)
              cases q
              refine r_istore (L' := [some (k_p 0 (i0)), some (k_i (a1)), some (k_i (a2)), some (k_i (a3)), some (k_i (a4)), some (k_p 3 (v1)), some (k_p 3 (v3)), some (k_i ((nI (k_Z σ 15)))), none]) h dX7_file_64 (by decide) rfl ?_
              refine r_new h hMe 5 kn_X7_168 dX7_file_66 (by decide) ?_
              refine r_dup h dX7_file_69 rfl ?_
              refine r_iload h dX7_file_70 rfl ?_
              refine r_aload h dX7_file_72 rfl ?_
              refine r_aload h dX7_file_74 rfl ?_
              refine r_iload_n h dX7_file_76 rfl ?_
              refine r_iload h dX7_file_77 rfl ?_
              refine r_aload_n h dX7_file_79 rfl ?_
              refine r_getI h kf_X7_41 dX7_file_80 rfl rfl (by decide) rfl ?_
              refine r_eqI (k_In (by decide)) ?_
              obtain ⟨v14, q15, hoc⟩ := k_ob hoc
              refine r_callI h hMe (rest := [k_p 5 (k_N σ 5)]) (as := [k_i ((nI (k_Z σ 15))), k_p 3 (v1), k_p 3 (v3), k_i (a3), k_i (a4), k_i (k_I σ 0 (i0) (8))]) (oc := .inl (k_mU v14.1, v14.2)) (j_X2_init la hla G _ (k_N σ 5) ((nI (k_Z σ 15))) (v1) (v3) (a3) (a4) (k_I σ 0 (i0) (8)) _ q15) kl_X7_170 dX7_file_83 rfl rfl  ⟨rfl, rfl, Nat.le_of_ble_eq_true rfl, Nat.le_of_ble_eq_true rfl, Nat.le_of_ble_eq_true rfl, Nat.le_of_ble_eq_true rfl, Nat.le_of_ble_eq_true rfl⟩ (fun E q => by cases q) (fun r s q => ?_)
              cases q
              show k_W X _ _ _ _ _ ([k_p 5 (k_N σ 5)])
              refine r_astore (L' := [some (k_p 0 (i0)), some (k_i (a1)), some (k_i (a2)), some (k_i (a3)), some (k_i (a4)), some (k_p 3 (v1)), some (k_p 3 (v3)), some (k_i ((nI (k_Z σ 15)))), some (k_p 5 (k_N σ 5))]) h dX7_file_86 (by decide) rfl ?_
              refine r_aload_n h dX7_file_88 rfl ?_
              obtain ⟨q17, hoc⟩ := k_gd hoc
              refine r_getR h kf_X7_22 dX7_file_89 rfl rfl (by decide) rfl (Eq.trans rfl q17) ?_
              refine r_aload h dX7_file_92 rfl ?_
              obtain ⟨c18, hoc⟩ := k_gd hoc
              refine r_callL h hMe (rest := []) (as := [k_p 5 (k_N σ 5)]) (j_add la hla G _ 15 _ rfl (Nat.le_trans (Nat.le_of_eq rfl) c18)) kl_X7_65 dX7_file_94 rfl rfl rfl rfl ⟨rfl, rfl, Nat.le_of_ble_eq_true rfl, Nat.le_of_ble_eq_true rfl, Nat.le_of_ble_eq_true rfl, Nat.le_of_ble_eq_true rfl, Nat.le_of_ble_eq_true rfl⟩ (fun E q => by cases q) (fun r s q => ?_)
              cases q
              refine r_pop h dX7_file_97 rfl ?_
              refine r_aload h dX7_file_98 rfl ?_
              refine r_aload_n h dX7_file_100 rfl ?_
              refine r_aload h dX7_file_101 rfl ?_
              obtain ⟨v19, q20, hoc⟩ := k_ob hoc
              refine r_callV h hMe (rest := [k_p 5 (k_N σ 5)]) (as := [k_p 5 (k_N σ 5)]) (oc := .inl ((k_mO 4) v19, (k_ladd v14.2 15 (k_N σ 5)))) (j_X7_botFor la hla G _ (i0) (k_N σ 5) _ q20) kl_X7_173 dX7_file_103 rfl rfl rfl rfl rfl ⟨rfl, rfl, Nat.le_of_ble_eq_true rfl, Nat.le_of_ble_eq_true rfl, Nat.le_of_ble_eq_true rfl, Nat.le_of_ble_eq_true rfl, Nat.le_of_ble_eq_true rfl⟩ (fun E q => by cases q) (fun r s q => ?_)
              cases q
              rcases v19 with _ | j21
              · replace hoc := (k_on_n rfl).symm.trans hoc
                refine r_putRN h kp_X7_177 (fun q => by cases q) dX7_file_106 rfl rfl (by decide) rfl rfl ?_
                refine r_aload h dX7_file_109 rfl ?_
                refine r_getN h kf_X7_177 dX7_file_111 rfl rfl (by decide) rfl k_P_s ?_
                refine r_ifnullN (tgt := 130) h dX7_file_114 (by decide) ?_
                refine r_iload h dX7_file_130 rfl ?_
                cases hoc
                exact r_ireturn h hEn dX7_file_132 rfl rfl rfl (by decide) (by decide)
              · replace hoc := (k_on_s rfl).symm.trans hoc
                refine r_putR h kp_X7_177 (fun q => by cases q) dX7_file_106 rfl rfl (by decide) rfl rfl ?_
                refine r_aload h dX7_file_109 rfl ?_
                refine r_getR h kf_X7_177 dX7_file_111 rfl rfl (by decide) rfl k_P_s ?_
                refine r_ifnull h dX7_file_114 ?_
                refine r_aload_n h dX7_file_117 rfl ?_
                refine r_aload h dX7_file_118 rfl ?_
                refine r_iload h dX7_file_120 rfl ?_
                refine r_bipush (v := 10) h dX7_file_122 (by decide) ?_
                refine r_idiv h dX7_file_124 (by decide) ?_
                refine r_iconst (v := 0) h dX7_file_125 (by decide) ?_
                obtain ⟨v22, q23, hoc⟩ := k_ob hoc
                refine r_callV h hMe (rest := []) (as := [k_p 5 (k_N σ 5), k_i ((a4 / 10)), k_i (0)]) (oc := .inl (k_mI v22.1, v22.2)) (j_X7_settle la hla G _ (i0) (k_N σ 5) ((a4 / 10)) (0) _ q23) kl_X7_181 dX7_file_126 rfl rfl rfl rfl rfl ⟨rfl, rfl, Nat.le_of_ble_eq_true rfl, Nat.le_of_ble_eq_true rfl, Nat.le_of_ble_eq_true rfl, Nat.le_of_ble_eq_true rfl, Nat.le_of_ble_eq_true rfl⟩ (fun E q => by cases q) (fun r s q => ?_)
                cases q
                show k_W X _ _ _ _ _ ([k_i (v22.1)])
                refine r_pop h dX7_file_129 rfl ?_
                refine r_iload h dX7_file_130 rfl ?_
                cases hoc
                exact r_ireturn h hEn dX7_file_132 rfl rfl rfl (by decide) (by decide)
            · refine r_callS h hMe (rest := []) (as := [k_i ((nI (k_Z σ 15))), k_i (20)]) (oc := .inr e24) (j_X7_requireRoom la hla G _ ((nI (k_Z σ 15))) (20) _ q13) kl_X7_56 dX7_file_54 rfl rfl  ⟨rfl, rfl, Nat.le_of_ble_eq_true rfl, Nat.le_of_ble_eq_true rfl, Nat.le_of_ble_eq_true rfl, Nat.le_of_ble_eq_true rfl, Nat.le_of_ble_eq_true rfl⟩ (fun E q => ?_) (fun r s q => by cases q)
              cases q
              cases hoc
              exact k_T.out h hEn hMe rfl (by decide) (by decide)
          · refine r_callS h hMe (rest := []) (as := [k_i (a4), k_i (0), k_i (100)]) (oc := .inr e25) (j_X7_requireWithin la hla G _ (a4) (0) (100) _ q9) kl_X7_48 dX7_file_42 rfl rfl  ⟨rfl, rfl, Nat.le_of_ble_eq_true rfl, Nat.le_of_ble_eq_true rfl, Nat.le_of_ble_eq_true rfl, Nat.le_of_ble_eq_true rfl, Nat.le_of_ble_eq_true rfl⟩ (fun E q => ?_) (fun r s q => by cases q)
            cases q
            cases hoc
            exact k_T.out h hEn hMe rfl (by decide) (by decide)
        · refine r_callS h hMe (rest := []) (as := [k_i (a3), k_i (1), k_i (255)]) (oc := .inr e26) (j_X7_requireWithin la hla G _ (a3) (1) (255) _ q7) kl_X7_48 dX7_file_34 rfl rfl  ⟨rfl, rfl, Nat.le_of_ble_eq_true rfl, Nat.le_of_ble_eq_true rfl, Nat.le_of_ble_eq_true rfl, Nat.le_of_ble_eq_true rfl, Nat.le_of_ble_eq_true rfl⟩ (fun E q => ?_) (fun r s q => by cases q)
          cases q
          cases hoc
          exact k_T.out h hEn hMe rfl (by decide) (by decide)
      · replace hoc := (if_pos c5).symm.trans hoc
        cases hoc
        exact r_throw h hEn hMe kt_X7_163_165 dX7_file_19 dX7_file_22 dX7_file_23 dX7_file_25 dX7_file_28 rfl (by decide) (by decide) (by decide)
    · refine r_callV h hMe (rest := []) (as := [k_i (a2)]) (oc := .inr e27) (j_X7_userAt la hla G _ (i0) (a2) _ q4) kl_X7_130 dX7_file_9 rfl rfl rfl rfl rfl ⟨rfl, rfl, Nat.le_of_ble_eq_true rfl, Nat.le_of_ble_eq_true rfl, Nat.le_of_ble_eq_true rfl, Nat.le_of_ble_eq_true rfl, Nat.le_of_ble_eq_true rfl⟩ (fun E q => ?_) (fun r s q => by cases q)
      cases q
      cases hoc
      exact k_T.out h hEn hMe rfl (by decide) (by decide)
  · refine r_callV h hMe (rest := []) (as := [k_i (a1)]) (oc := .inr e28) (j_X7_userAt la hla G _ (i0) (a1) _ q2) kl_X7_130 dX7_file_2 rfl rfl rfl rfl rfl ⟨rfl, rfl, Nat.le_of_ble_eq_true rfl, Nat.le_of_ble_eq_true rfl, Nat.le_of_ble_eq_true rfl, Nat.le_of_ble_eq_true rfl, Nat.le_of_ble_eq_true rfl⟩ (fun E q => ?_) (fun r s q => by cases q)
    cases q
    cases hoc
    exact k_T.out h hEn hMe rfl (by decide) (by decide)
def f_X7_state (σ : k_S) (i0 : Nat) (a1 : Int32) : Option (Int32 ⊕ String) :=
  (k_bt (f_X7_reportAt σ (i0) (a1)) fun v1 => (if k_isC (k_I σ 5 (v1) (7)) = true then some (.inl (k_I σ 5 (v1) (7))) else none))
theorem j_X7_state (la : Launch) (hla : la.flags = flags0) (G : k_G) (σ : k_S) (i0 : Nat) (a1 : Int32) (x : (Int32 ⊕ String)) (hoc : f_X7_state σ i0 a1 = some x) : k_Ct la G yX7_state (k_ws yX7_state cX7_state 2 (Option.some ClassFile.FieldType.char)) { frames := 8, cells := 1, slots := 6, locals := 124 } [k_p 0 (i0), k_i (a1)] σ (k_tc k_mI σ x) 1 6 := by
  refine k_body hla (by decide +kernel) (k_wl rfl) (Nat.le_of_ble_eq_true rfl) (fun X h hEn hMe => ?_)
  show k_W X σ 0 0 0 [some (k_p 0 (i0)), some (k_i (a1))] []
  unfold f_X7_state at hoc
  refine r_aload_n h dX7_state_0 rfl ?_
  refine r_iload_n h dX7_state_1 rfl ?_
  rcases k_bt_ex hoc with ⟨v1, q2, hoc⟩ | ⟨e4, q2, hoc⟩
  · refine r_callV h hMe (rest := []) (as := [k_i (a1)]) (oc := .inl ((k_mR 5) v1, σ)) (j_X7_reportAt la hla G _ (i0) (a1) _ q2) kl_X7_104 dX7_state_2 rfl rfl rfl rfl rfl ⟨rfl, rfl, Nat.le_of_ble_eq_true rfl, Nat.le_of_ble_eq_true rfl, Nat.le_of_ble_eq_true rfl, Nat.le_of_ble_eq_true rfl, Nat.le_of_ble_eq_true rfl⟩ (fun E q => by cases q) (fun r s q => ?_)
    cases q
    show k_W X _ _ _ _ _ ([k_p 5 (v1)])
    refine r_getI h kf_X7_185 dX7_state_5 rfl rfl (by decide) rfl ?_
    obtain ⟨c3, hoc⟩ := k_gd hoc
    cases hoc
    exact r_ireturn h hEn dX7_state_8 rfl (k_nC c3) rfl (by decide) (by decide)
  · refine r_callV h hMe (rest := []) (as := [k_i (a1)]) (oc := .inr e4) (j_X7_reportAt la hla G _ (i0) (a1) _ q2) kl_X7_104 dX7_state_2 rfl rfl rfl rfl rfl ⟨rfl, rfl, Nat.le_of_ble_eq_true rfl, Nat.le_of_ble_eq_true rfl, Nat.le_of_ble_eq_true rfl, Nat.le_of_ble_eq_true rfl, Nat.le_of_ble_eq_true rfl⟩ (fun E q => ?_) (fun r s q => by cases q)
    cases q
    cases hoc
    exact k_T.out h hEn hMe rfl (by decide) (by decide)
def f_X7_requireUndecided (σ : k_S) (a1 : Nat) : Option (Unit ⊕ String) :=
  (if k_I σ 5 (a1) (7) = (100 : Int32) then some (.inr "java/lang/IllegalStateException") else some (.inl (())))
theorem j_X7_requireUndecided (la : Launch) (hla : la.flags = flags0) (G : k_G) (σ : k_S) (a1 : Nat) (x : (Unit ⊕ String)) (hoc : f_X7_requireUndecided σ a1 = some x) : k_Ct la G yX7_requireUndecided (k_ws yX7_requireUndecided cX7_requireUndecided 1 (Option.none : Option ClassFile.FieldType)) { frames := 6, cells := 1, slots := 6, locals := 82 } [k_p 5 (a1)] σ (k_tc k_mU σ x) 1 6 := by
  refine k_body hla (by decide +kernel) (k_wl rfl) (Nat.le_of_ble_eq_true rfl) (fun X h hEn hMe => ?_)
  show k_W X σ 0 0 0 [some (k_p 5 (a1))] []
  unfold f_X7_requireUndecided at hoc
  refine r_aload_n h dX7_requireUndecided_0 rfl ?_
  refine r_getI h kf_X7_185 dX7_requireUndecided_1 rfl rfl (by decide) rfl ?_
  refine r_bipush (v := 100) h dX7_requireUndecided_4 (by decide) ?_
  refine r_icmp_ne (tgt := 20) h dX7_requireUndecided_6 (by decide) (fun c1 => ?_) (fun c1 => ?_)
  · replace hoc := (if_neg c1).symm.trans hoc
    cases hoc
    exact r_return h hEn dX7_requireUndecided_20 rfl rfl (by decide) (by decide)
  · replace hoc := (if_pos c1).symm.trans hoc
    cases hoc
    exact r_throwW h hEn hMe kt_X7_86_318 dX7_requireUndecided_9 dX7_requireUndecided_12 dX7_requireUndecided_13 dX7_requireUndecided_16 dX7_requireUndecided_19 rfl (by decide) (by decide) (by decide)
def f_X7_vote (σ : k_S) (i0 : Nat) (a1 : Int32) (a2 : Int32) (a3 : Int32) : Option ((Int32 × k_S) ⊕ String) :=
  (k_bt (f_X7_reportAt σ (i0) (a1)) fun v1 => (k_bt (f_X7_userAt σ (i0) (a2)) fun v3 => (k_bt (f_X7_requireUndecided σ (v1)) fun v5 => ((k_P σ 5 (v1) (1)).bind fun j7 => (if v3 = j7 then some (.inr "java/lang/UnsupportedOperationException") else ((k_P σ 5 (v1) (2)).bind fun j10 => (if v3 = j10 then some (.inr "java/lang/UnsupportedOperationException") else ((f_X7_presentSanctions σ (i0) (v3)).bind fun v13 => (if v13 ≤ 0 then (if a3 = 0 then ((f_X2_enterVote σ (v1) (a2) ((-(k_I σ 3 (v3) (0))))).bind fun v17 => ((f_X2_sumFor v17.2 (v1)).bind fun v19 => ((f_X2_sumAgainst v17.2 (v1)).bind fun v21 => some (.inl ((v19 + v21), v17.2))))) else ((f_X2_enterVote σ (v1) (a2) (k_I σ 3 (v3) (0))).bind fun v23 => ((f_X2_sumFor v23.2 (v1)).bind fun v25 => ((f_X2_sumAgainst v23.2 (v1)).bind fun v27 => some (.inl ((v25 + v27), v23.2)))))) else some (.inr "java/lang/UnsupportedOperationException"))))))))))
theorem j_X7_vote (la : Launch) (hla : la.flags = flags0) (G : k_G) (σ : k_S) (i0 : Nat) (a1 : Int32) (a2 : Int32) (a3 : Int32) (x : ((Int32 × k_S) ⊕ String)) (hoc : f_X7_vote σ i0 a1 a2 a3 = some x) : k_Ct la G yX7_vote (k_ws yX7_vote cX7_vote 6 (Option.some ClassFile.FieldType.int)) { frames := 8, cells := 4, slots := 24, locals := 124 } [k_p 0 (i0), k_i (a1), k_i (a2), k_i (a3)] σ (k_mc k_mI x) 4 24 := by
  refine k_body hla (by decide +kernel) (k_wl rfl) (Nat.le_of_ble_eq_true rfl) (fun X h hEn hMe => ?_)
  show k_W X σ 0 0 0 [some (k_p 0 (i0)), some (k_i (a1)), some (k_i (a2)), some (k_i (a3)), none, none] []
  unfold f_X7_vote at hoc
  refine r_aload_n h dX7_vote_0 rfl ?_
  refine r_iload_n h dX7_vote_1 rfl ?_
  rcases k_bt_ex hoc with ⟨v1, q2, hoc⟩ | ⟨e31, q2, hoc⟩
  · refine r_callV h hMe (rest := []) (as := [k_i (a1)]) (oc := .inl ((k_mR 5) v1, σ)) (j_X7_reportAt la hla G _ (i0) (a1) _ q2) kl_X7_104 dX7_vote_2 rfl rfl rfl rfl rfl ⟨rfl, rfl, Nat.le_of_ble_eq_true rfl, Nat.le_of_ble_eq_true rfl, Nat.le_of_ble_eq_true rfl, Nat.le_of_ble_eq_true rfl, Nat.le_of_ble_eq_true rfl⟩ (fun E q => by cases q) (fun r s q => ?_)
    cases q
    show k_W X _ _ _ _ _ ([k_p 5 (v1)])
    refine r_astore (L' := [some (k_p 0 (i0)), some (k_i (a1)), some (k_i (a2)), some (k_i (a3)), some (k_p 5 (v1)), none]) h dX7_vote_5 (by decide) rfl ?_
    refine r_aload_n h dX7_vote_7 rfl ?_
    refine r_iload_n h dX7_vote_8 rfl ?_
    rcases k_bt_ex hoc with ⟨v3, q4, hoc⟩ | ⟨e30, q4, hoc⟩
    · refine r_callV h hMe (rest := []) (as := [k_i (a2)]) (oc := .inl ((k_mR 3) v3, σ)) (j_X7_userAt la hla G _ (i0) (a2) _ q4) kl_X7_130 dX7_vote_9 rfl rfl rfl rfl rfl ⟨rfl, rfl, Nat.le_of_ble_eq_true rfl, Nat.le_of_ble_eq_true rfl, Nat.le_of_ble_eq_true rfl, Nat.le_of_ble_eq_true rfl, Nat.le_of_ble_eq_true rfl⟩ (fun E q => by cases q) (fun r s q => ?_)
      cases q
      show k_W X _ _ _ _ _ ([k_p 3 (v3)])
      refine r_astore (L' := [some (k_p 0 (i0)), some (k_i (a1)), some (k_i (a2)), some (k_i (a3)), some (k_p 5 (v1)), some (k_p 3 (v3))]) h dX7_vote_12 (by decide) rfl ?_
      refine r_aload h dX7_vote_14 rfl ?_
      rcases k_bt_ex hoc with ⟨v5, q6, hoc⟩ | ⟨e29, q6, hoc⟩
      · refine r_callS h hMe (rest := []) (as := [k_p 5 (v1)]) (oc := .inl (k_mU v5, σ)) (j_X7_requireUndecided la hla G _ (v1) _ q6) kl_X7_189 dX7_vote_16 rfl rfl  ⟨rfl, rfl, Nat.le_of_ble_eq_true rfl, Nat.le_of_ble_eq_true rfl, Nat.le_of_ble_eq_true rfl, Nat.le_of_ble_eq_true rfl, Nat.le_of_ble_eq_true rfl⟩ (fun E q => by cases q) (fun r s q => ?_)
        cases q
        show k_W X _ _ _ _ _ ([])
        refine r_aload h dX7_vote_19 rfl ?_
        refine r_aload h dX7_vote_21 rfl ?_
        obtain ⟨j7, q8, hoc⟩ := k_ob hoc
        refine r_getR h kf_X7_193 dX7_vote_23 rfl rfl (by decide) rfl (Eq.trans rfl q8) ?_
        refine r_acmp_eq (tgt := 39) h dX7_vote_26 (by decide) (fun c9 => ?_) (fun c9 => ?_)
        · replace hoc := (if_pos c9).symm.trans hoc
          cases hoc
          exact r_throw h hEn hMe kt_X7_199_201 dX7_vote_39 dX7_vote_42 dX7_vote_43 dX7_vote_45 dX7_vote_48 rfl (by decide) (by decide) (by decide)
        · replace hoc := (if_neg c9).symm.trans hoc
          refine r_aload h dX7_vote_29 rfl ?_
          refine r_aload h dX7_vote_31 rfl ?_
          obtain ⟨j10, q11, hoc⟩ := k_ob hoc
          refine r_getR h kf_X7_196 dX7_vote_33 rfl rfl (by decide) rfl (Eq.trans rfl q11) ?_
          refine r_acmp_ne (tgt := 49) h dX7_vote_36 (by decide) (fun c12 => ?_) (fun c12 => ?_)
          · replace hoc := (if_neg c12).symm.trans hoc
            refine r_aload_n h dX7_vote_49 rfl ?_
            refine r_aload h dX7_vote_50 rfl ?_
            obtain ⟨v13, q14, hoc⟩ := k_ob hoc
            refine r_callV h hMe (rest := []) (as := [k_p 3 (v3)]) (oc := .inl (k_mI v13, σ)) (j_X7_presentSanctions la hla G _ (i0) (v3) _ q14) kl_X7_137 dX7_vote_52 rfl rfl rfl rfl rfl ⟨rfl, rfl, Nat.le_of_ble_eq_true rfl, Nat.le_of_ble_eq_true rfl, Nat.le_of_ble_eq_true rfl, Nat.le_of_ble_eq_true rfl, Nat.le_of_ble_eq_true rfl⟩ (fun E q => by cases q) (fun r s q => ?_)
            cases q
            show k_W X _ _ _ _ _ ([k_i (v13)])
            refine r_if_le (tgt := 68) h dX7_vote_55 (by decide) (fun c15 => ?_) (fun c15 => ?_)
            · replace hoc := (if_pos c15).symm.trans hoc
              refine r_aload h dX7_vote_68 rfl ?_
              refine r_iload_n h dX7_vote_70 rfl ?_
              refine r_iload_n h dX7_vote_71 rfl ?_
              refine r_if_eq (tgt := 83) h dX7_vote_72 (by decide) (fun c16 => ?_) (fun c16 => ?_)
              · replace hoc := (if_pos c16).symm.trans hoc
                refine r_aload h dX7_vote_83 rfl ?_
                refine r_getI h kf_X7_134 dX7_vote_85 rfl rfl (by decide) rfl ?_
                refine r_ineg h dX7_vote_88 ?_
                obtain ⟨v17, q18, hoc⟩ := k_ob hoc
                refine r_callV h hMe (rest := []) (as := [k_i (a2), k_i ((-(k_I σ 3 (v3) (0))))]) (oc := .inl (k_mU v17.1, v17.2)) (j_X2_enterVote la hla G _ (v1) (a2) ((-(k_I σ 3 (v3) (0)))) _ q18) kl_X7_206 dX7_vote_89 rfl rfl rfl rfl rfl ⟨rfl, rfl, Nat.le_of_ble_eq_true rfl, Nat.le_of_ble_eq_true rfl, Nat.le_of_ble_eq_true rfl, Nat.le_of_ble_eq_true rfl, Nat.le_of_ble_eq_true rfl⟩ (fun E q => by cases q) (fun r s q => ?_)
                cases q
                show k_W X _ _ _ _ _ ([])
                refine r_aload h dX7_vote_92 rfl ?_
                obtain ⟨v19, q20, hoc⟩ := k_ob hoc
                refine r_callV h hMe (rest := []) (as := []) (oc := .inl (k_mI v19, v17.2)) (j_X2_sumFor la hla G _ (v1) _ q20) kl_X7_209 dX7_vote_94 rfl rfl rfl rfl rfl ⟨rfl, rfl, Nat.le_of_ble_eq_true rfl, Nat.le_of_ble_eq_true rfl, Nat.le_of_ble_eq_true rfl, Nat.le_of_ble_eq_true rfl, Nat.le_of_ble_eq_true rfl⟩ (fun E q => by cases q) (fun r s q => ?_)
                cases q
                show k_W X _ _ _ _ _ ([k_i (v19)])
                refine r_aload h dX7_vote_97 rfl ?_
                obtain ⟨v21, q22, hoc⟩ := k_ob hoc
                refine r_callV h hMe (rest := [k_i (v19)]) (as := []) (oc := .inl (k_mI v21, v17.2)) (j_X2_sumAgainst la hla G _ (v1) _ q22) kl_X7_212 dX7_vote_99 rfl rfl rfl rfl rfl ⟨rfl, rfl, Nat.le_of_ble_eq_true rfl, Nat.le_of_ble_eq_true rfl, Nat.le_of_ble_eq_true rfl, Nat.le_of_ble_eq_true rfl, Nat.le_of_ble_eq_true rfl⟩ (fun E q => by cases q) (fun r s q => ?_)
                cases q
                show k_W X _ _ _ _ _ ([k_i (v21), k_i (v19)])
                refine r_iadd h dX7_vote_102 ?_
                cases hoc
                exact r_ireturn h hEn dX7_vote_103 rfl rfl rfl (by decide) (by decide)
              · replace hoc := (if_neg c16).symm.trans hoc
                refine r_aload h dX7_vote_75 rfl ?_
                refine r_getI h kf_X7_134 dX7_vote_77 rfl rfl (by decide) rfl ?_
                refine r_goto (tgt := 89) h dX7_vote_80 (by decide) ?_
                obtain ⟨v23, q24, hoc⟩ := k_ob hoc
                refine r_callV h hMe (rest := []) (as := [k_i (a2), k_i (k_I σ 3 (v3) (0))]) (oc := .inl (k_mU v23.1, v23.2)) (j_X2_enterVote la hla G _ (v1) (a2) (k_I σ 3 (v3) (0)) _ q24) kl_X7_206 dX7_vote_89 rfl rfl rfl rfl rfl ⟨rfl, rfl, Nat.le_of_ble_eq_true rfl, Nat.le_of_ble_eq_true rfl, Nat.le_of_ble_eq_true rfl, Nat.le_of_ble_eq_true rfl, Nat.le_of_ble_eq_true rfl⟩ (fun E q => by cases q) (fun r s q => ?_)
                cases q
                show k_W X _ _ _ _ _ ([])
                refine r_aload h dX7_vote_92 rfl ?_
                obtain ⟨v25, q26, hoc⟩ := k_ob hoc
                refine r_callV h hMe (rest := []) (as := []) (oc := .inl (k_mI v25, v23.2)) (j_X2_sumFor la hla G _ (v1) _ q26) kl_X7_209 dX7_vote_94 rfl rfl rfl rfl rfl ⟨rfl, rfl, Nat.le_of_ble_eq_true rfl, Nat.le_of_ble_eq_true rfl, Nat.le_of_ble_eq_true rfl, Nat.le_of_ble_eq_true rfl, Nat.le_of_ble_eq_true rfl⟩ (fun E q => by cases q) (fun r s q => ?_)
                cases q
                show k_W X _ _ _ _ _ ([k_i (v25)])
                refine r_aload h dX7_vote_97 rfl ?_
                obtain ⟨v27, q28, hoc⟩ := k_ob hoc
                refine r_callV h hMe (rest := [k_i (v25)]) (as := []) (oc := .inl (k_mI v27, v23.2)) (j_X2_sumAgainst la hla G _ (v1) _ q28) kl_X7_212 dX7_vote_99 rfl rfl rfl rfl rfl ⟨rfl, rfl, Nat.le_of_ble_eq_true rfl, Nat.le_of_ble_eq_true rfl, Nat.le_of_ble_eq_true rfl, Nat.le_of_ble_eq_true rfl, Nat.le_of_ble_eq_true rfl⟩ (fun E q => by cases q) (fun r s q => ?_)
                cases q
                show k_W X _ _ _ _ _ ([k_i (v27), k_i (v25)])
                refine r_iadd h dX7_vote_102 ?_
                cases hoc
                exact r_ireturn h hEn dX7_vote_103 rfl rfl rfl (by decide) (by decide)
            · replace hoc := (if_neg c15).symm.trans hoc
              cases hoc
              exact r_throw h hEn hMe kt_X7_199_204 dX7_vote_58 dX7_vote_61 dX7_vote_62 dX7_vote_64 dX7_vote_67 rfl (by decide) (by decide) (by decide)
          · replace hoc := (if_pos c12).symm.trans hoc
            cases hoc
            exact r_throw h hEn hMe kt_X7_199_201 dX7_vote_39 dX7_vote_42 dX7_vote_43 dX7_vote_45 dX7_vote_48 rfl (by decide) (by decide) (by decide)
      · refine r_callS h hMe (rest := []) (as := [k_p 5 (v1)]) (oc := .inr e29) (j_X7_requireUndecided la hla G _ (v1) _ q6) kl_X7_189 dX7_vote_16 rfl rfl  ⟨rfl, rfl, Nat.le_of_ble_eq_true rfl, Nat.le_of_ble_eq_true rfl, Nat.le_of_ble_eq_true rfl, Nat.le_of_ble_eq_true rfl, Nat.le_of_ble_eq_true rfl⟩ (fun E q => ?_) (fun r s q => by cases q)
        cases q
        cases hoc
        exact k_T.out h hEn hMe rfl (by decide) (by decide)
    · refine r_callV h hMe (rest := []) (as := [k_i (a2)]) (oc := .inr e30) (j_X7_userAt la hla G _ (i0) (a2) _ q4) kl_X7_130 dX7_vote_9 rfl rfl rfl rfl rfl ⟨rfl, rfl, Nat.le_of_ble_eq_true rfl, Nat.le_of_ble_eq_true rfl, Nat.le_of_ble_eq_true rfl, Nat.le_of_ble_eq_true rfl, Nat.le_of_ble_eq_true rfl⟩ (fun E q => ?_) (fun r s q => by cases q)
      cases q
      cases hoc
      exact k_T.out h hEn hMe rfl (by decide) (by decide)
  · refine r_callV h hMe (rest := []) (as := [k_i (a1)]) (oc := .inr e31) (j_X7_reportAt la hla G _ (i0) (a1) _ q2) kl_X7_104 dX7_vote_2 rfl rfl rfl rfl rfl ⟨rfl, rfl, Nat.le_of_ble_eq_true rfl, Nat.le_of_ble_eq_true rfl, Nat.le_of_ble_eq_true rfl, Nat.le_of_ble_eq_true rfl, Nat.le_of_ble_eq_true rfl⟩ (fun E q => ?_) (fun r s q => by cases q)
    cases q
    cases hoc
    exact k_T.out h hEn hMe rfl (by decide) (by decide)
def f_X7_weightFor (σ : k_S) (i0 : Nat) (a1 : Int32) : Option (Int32 ⊕ String) :=
  (k_bt (f_X7_reportAt σ (i0) (a1)) fun v1 => ((f_X2_sumFor σ (v1)).bind fun v3 => some (.inl (v3))))
theorem j_X7_weightFor (la : Launch) (hla : la.flags = flags0) (G : k_G) (σ : k_S) (i0 : Nat) (a1 : Int32) (x : (Int32 ⊕ String)) (hoc : f_X7_weightFor σ i0 a1 = some x) : k_Ct la G yX7_weightFor (k_ws yX7_weightFor cX7_weightFor 2 (Option.some ClassFile.FieldType.int)) { frames := 8, cells := 1, slots := 6, locals := 124 } [k_p 0 (i0), k_i (a1)] σ (k_tc k_mI σ x) 1 6 := by
  refine k_body hla (by decide +kernel) (k_wl rfl) (Nat.le_of_ble_eq_true rfl) (fun X h hEn hMe => ?_)
  show k_W X σ 0 0 0 [some (k_p 0 (i0)), some (k_i (a1))] []
  unfold f_X7_weightFor at hoc
  refine r_aload_n h dX7_weightFor_0 rfl ?_
  refine r_iload_n h dX7_weightFor_1 rfl ?_
  rcases k_bt_ex hoc with ⟨v1, q2, hoc⟩ | ⟨e5, q2, hoc⟩
  · refine r_callV h hMe (rest := []) (as := [k_i (a1)]) (oc := .inl ((k_mR 5) v1, σ)) (j_X7_reportAt la hla G _ (i0) (a1) _ q2) kl_X7_104 dX7_weightFor_2 rfl rfl rfl rfl rfl ⟨rfl, rfl, Nat.le_of_ble_eq_true rfl, Nat.le_of_ble_eq_true rfl, Nat.le_of_ble_eq_true rfl, Nat.le_of_ble_eq_true rfl, Nat.le_of_ble_eq_true rfl⟩ (fun E q => by cases q) (fun r s q => ?_)
    cases q
    show k_W X _ _ _ _ _ ([k_p 5 (v1)])
    obtain ⟨v3, q4, hoc⟩ := k_ob hoc
    refine r_callV h hMe (rest := []) (as := []) (oc := .inl (k_mI v3, σ)) (j_X2_sumFor la hla G _ (v1) _ q4) kl_X7_209 dX7_weightFor_5 rfl rfl rfl rfl rfl ⟨rfl, rfl, Nat.le_of_ble_eq_true rfl, Nat.le_of_ble_eq_true rfl, Nat.le_of_ble_eq_true rfl, Nat.le_of_ble_eq_true rfl, Nat.le_of_ble_eq_true rfl⟩ (fun E q => by cases q) (fun r s q => ?_)
    cases q
    show k_W X _ _ _ _ _ ([k_i (v3)])
    cases hoc
    exact r_ireturn h hEn dX7_weightFor_8 rfl rfl rfl (by decide) (by decide)
  · refine r_callV h hMe (rest := []) (as := [k_i (a1)]) (oc := .inr e5) (j_X7_reportAt la hla G _ (i0) (a1) _ q2) kl_X7_104 dX7_weightFor_2 rfl rfl rfl rfl rfl ⟨rfl, rfl, Nat.le_of_ble_eq_true rfl, Nat.le_of_ble_eq_true rfl, Nat.le_of_ble_eq_true rfl, Nat.le_of_ble_eq_true rfl, Nat.le_of_ble_eq_true rfl⟩ (fun E q => ?_) (fun r s q => by cases q)
    cases q
    cases hoc
    exact k_T.out h hEn hMe rfl (by decide) (by decide)
def f_X7_weightAgainst (σ : k_S) (i0 : Nat) (a1 : Int32) : Option (Int32 ⊕ String) :=
  (k_bt (f_X7_reportAt σ (i0) (a1)) fun v1 => ((f_X2_sumAgainst σ (v1)).bind fun v3 => some (.inl (v3))))
theorem j_X7_weightAgainst (la : Launch) (hla : la.flags = flags0) (G : k_G) (σ : k_S) (i0 : Nat) (a1 : Int32) (x : (Int32 ⊕ String)) (hoc : f_X7_weightAgainst σ i0 a1 = some x) : k_Ct la G yX7_weightAgainst (k_ws yX7_weightAgainst cX7_weightAgainst 2 (Option.some ClassFile.FieldType.int)) { frames := 8, cells := 1, slots := 6, locals := 124 } [k_p 0 (i0), k_i (a1)] σ (k_tc k_mI σ x) 1 6 := by
  refine k_body hla (by decide +kernel) (k_wl rfl) (Nat.le_of_ble_eq_true rfl) (fun X h hEn hMe => ?_)
  show k_W X σ 0 0 0 [some (k_p 0 (i0)), some (k_i (a1))] []
  unfold f_X7_weightAgainst at hoc
  refine r_aload_n h dX7_weightAgainst_0 rfl ?_
  refine r_iload_n h dX7_weightAgainst_1 rfl ?_
  rcases k_bt_ex hoc with ⟨v1, q2, hoc⟩ | ⟨e5, q2, hoc⟩
  · refine r_callV h hMe (rest := []) (as := [k_i (a1)]) (oc := .inl ((k_mR 5) v1, σ)) (j_X7_reportAt la hla G _ (i0) (a1) _ q2) kl_X7_104 dX7_weightAgainst_2 rfl rfl rfl rfl rfl ⟨rfl, rfl, Nat.le_of_ble_eq_true rfl, Nat.le_of_ble_eq_true rfl, Nat.le_of_ble_eq_true rfl, Nat.le_of_ble_eq_true rfl, Nat.le_of_ble_eq_true rfl⟩ (fun E q => by cases q) (fun r s q => ?_)
    cases q
    show k_W X _ _ _ _ _ ([k_p 5 (v1)])
    obtain ⟨v3, q4, hoc⟩ := k_ob hoc
    refine r_callV h hMe (rest := []) (as := []) (oc := .inl (k_mI v3, σ)) (j_X2_sumAgainst la hla G _ (v1) _ q4) kl_X7_212 dX7_weightAgainst_5 rfl rfl rfl rfl rfl ⟨rfl, rfl, Nat.le_of_ble_eq_true rfl, Nat.le_of_ble_eq_true rfl, Nat.le_of_ble_eq_true rfl, Nat.le_of_ble_eq_true rfl, Nat.le_of_ble_eq_true rfl⟩ (fun E q => by cases q) (fun r s q => ?_)
    cases q
    show k_W X _ _ _ _ _ ([k_i (v3)])
    cases hoc
    exact r_ireturn h hEn dX7_weightAgainst_8 rfl rfl rfl (by decide) (by decide)
  · refine r_callV h hMe (rest := []) (as := [k_i (a1)]) (oc := .inr e5) (j_X7_reportAt la hla G _ (i0) (a1) _ q2) kl_X7_104 dX7_weightAgainst_2 rfl rfl rfl rfl rfl ⟨rfl, rfl, Nat.le_of_ble_eq_true rfl, Nat.le_of_ble_eq_true rfl, Nat.le_of_ble_eq_true rfl, Nat.le_of_ble_eq_true rfl, Nat.le_of_ble_eq_true rfl⟩ (fun E q => ?_) (fun r s q => by cases q)
    cases q
    cases hoc
    exact k_T.out h hEn hMe rfl (by decide) (by decide)
def f_X7_setQuorum (σ : k_S) (i0 : Nat) (a1 : Int32) : Option ((Int32 × k_S) ⊕ String) :=
  (k_bt (f_X7_requireWithin σ (a1) (1) (50)) fun v1 => some (.inl (k_I σ 0 (i0) (9), (k_uI σ 0 (i0) (9) (a1)))))
theorem j_X7_setQuorum (la : Launch) (hla : la.flags = flags0) (G : k_G) (σ : k_S) (i0 : Nat) (a1 : Int32) (x : ((Int32 × k_S) ⊕ String)) (hoc : f_X7_setQuorum σ i0 a1 = some x) : k_Ct la G yX7_setQuorum (k_ws yX7_setQuorum cX7_setQuorum 3 (Option.some ClassFile.FieldType.int)) { frames := 7, cells := 1, slots := 6, locals := 104 } [k_p 0 (i0), k_i (a1)] σ (k_mc k_mI x) 1 6 := by
  refine k_body hla (by decide +kernel) (k_wl rfl) (Nat.le_of_ble_eq_true rfl) (fun X h hEn hMe => ?_)
  show k_W X σ 0 0 0 [some (k_p 0 (i0)), some (k_i (a1)), none] []
  unfold f_X7_setQuorum at hoc
  refine r_iload_n h dX7_setQuorum_0 rfl ?_
  refine r_iconst (v := 1) h dX7_setQuorum_1 (by decide) ?_
  refine r_bipush (v := 50) h dX7_setQuorum_2 (by decide) ?_
  rcases k_bt_ex hoc with ⟨v1, q2, hoc⟩ | ⟨e3, q2, hoc⟩
  · refine r_callS h hMe (rest := []) (as := [k_i (a1), k_i (1), k_i (50)]) (oc := .inl (k_mU v1, σ)) (j_X7_requireWithin la hla G _ (a1) (1) (50) _ q2) kl_X7_48 dX7_setQuorum_4 rfl rfl  ⟨rfl, rfl, Nat.le_of_ble_eq_true rfl, Nat.le_of_ble_eq_true rfl, Nat.le_of_ble_eq_true rfl, Nat.le_of_ble_eq_true rfl, Nat.le_of_ble_eq_true rfl⟩ (fun E q => by cases q) (fun r s q => ?_)
    cases q
    show k_W X _ _ _ _ _ ([])
    refine r_aload_n h dX7_setQuorum_7 rfl ?_
    refine r_getI h kf_X7_45 dX7_setQuorum_8 rfl rfl (by decide) rfl ?_
    refine r_istore_n (L' := [some (k_p 0 (i0)), some (k_i (a1)), some (k_i (k_I σ 0 (i0) (9)))]) h dX7_setQuorum_11 (by decide) rfl ?_
    refine r_aload_n h dX7_setQuorum_12 rfl ?_
    refine r_iload_n h dX7_setQuorum_13 rfl ?_
    refine r_putI (x := a1) h kp_X7_45 dX7_setQuorum_14 rfl rfl (by decide) rfl rfl (k_fit_int _) ?_
    refine r_iload_n h dX7_setQuorum_17 rfl ?_
    cases hoc
    exact r_ireturn h hEn dX7_setQuorum_18 rfl rfl rfl (by decide) (by decide)
  · refine r_callS h hMe (rest := []) (as := [k_i (a1), k_i (1), k_i (50)]) (oc := .inr e3) (j_X7_requireWithin la hla G _ (a1) (1) (50) _ q2) kl_X7_48 dX7_setQuorum_4 rfl rfl  ⟨rfl, rfl, Nat.le_of_ble_eq_true rfl, Nat.le_of_ble_eq_true rfl, Nat.le_of_ble_eq_true rfl, Nat.le_of_ble_eq_true rfl, Nat.le_of_ble_eq_true rfl⟩ (fun E q => ?_) (fun r s q => by cases q)
    cases q
    cases hoc
    exact k_T.out h hEn hMe rfl (by decide) (by decide)
def f_X7_precedent (σ : k_S) (i0 : Nat) (a1 : Int32) : Option (Int32 ⊕ String) :=
  (k_bt (f_X7_reportAt σ (i0) (a1)) fun v1 => ((k_P σ 0 (i0) (6)).bind fun j3 => ((f_X7_precedentFor σ (i0) (v1) (j3)).bind fun v5 => (if v5 = (-1 : Int32) then some (.inr "java/util/NoSuchElementException") else some (.inl (v5))))))
theorem j_X7_precedent (la : Launch) (hla : la.flags = flags0) (G : k_G) (σ : k_S) (i0 : Nat) (a1 : Int32) (x : (Int32 ⊕ String)) (hoc : f_X7_precedent σ i0 a1 = some x) : k_Ct la G yX7_precedent (k_ws yX7_precedent cX7_precedent 3 (Option.some ClassFile.FieldType.int)) { frames := 8, cells := 2, slots := 12, locals := 124 } [k_p 0 (i0), k_i (a1)] σ (k_tc k_mI σ x) 2 12 := by
  refine k_body hla (by decide +kernel) (k_wl rfl) (Nat.le_of_ble_eq_true rfl) (fun X h hEn hMe => ?_)
  show k_W X σ 0 0 0 [some (k_p 0 (i0)), some (k_i (a1)), none] []
  unfold f_X7_precedent at hoc
  refine r_aload_n h dX7_precedent_0 rfl ?_
  refine r_aload_n h dX7_precedent_1 rfl ?_
  refine r_iload_n h dX7_precedent_2 rfl ?_
  rcases k_bt_ex hoc with ⟨v1, q2, hoc⟩ | ⟨e8, q2, hoc⟩
  · refine r_callV h hMe (rest := [k_p 0 (i0)]) (as := [k_i (a1)]) (oc := .inl ((k_mR 5) v1, σ)) (j_X7_reportAt la hla G _ (i0) (a1) _ q2) kl_X7_104 dX7_precedent_3 rfl rfl rfl rfl rfl ⟨rfl, rfl, Nat.le_of_ble_eq_true rfl, Nat.le_of_ble_eq_true rfl, Nat.le_of_ble_eq_true rfl, Nat.le_of_ble_eq_true rfl, Nat.le_of_ble_eq_true rfl⟩ (fun E q => by cases q) (fun r s q => ?_)
    cases q
    show k_W X _ _ _ _ _ ([k_p 5 (v1), k_p 0 (i0)])
    refine r_aload_n h dX7_precedent_6 rfl ?_
    obtain ⟨j3, q4, hoc⟩ := k_ob hoc
    refine r_getR h kf_X7_34 dX7_precedent_7 rfl rfl (by decide) rfl (Eq.trans rfl q4) ?_
    obtain ⟨v5, q6, hoc⟩ := k_ob hoc
    refine r_callV h hMe (rest := []) (as := [k_p 5 (v1), k_p 8 (j3)]) (oc := .inl (k_mI v5, σ)) (j_X7_precedentFor la hla G _ (i0) (v1) (j3) _ q6) kl_X7_215 dX7_precedent_10 rfl rfl rfl rfl rfl ⟨rfl, rfl, Nat.le_of_ble_eq_true rfl, Nat.le_of_ble_eq_true rfl, Nat.le_of_ble_eq_true rfl, Nat.le_of_ble_eq_true rfl, Nat.le_of_ble_eq_true rfl⟩ (fun E q => by cases q) (fun r s q => ?_)
    cases q
    show k_W X _ _ _ _ _ ([k_i (v5)])
    refine r_istore_n (L' := [some (k_p 0 (i0)), some (k_i (a1)), some (k_i (v5))]) h dX7_precedent_13 (by decide) rfl ?_
    refine r_iload_n h dX7_precedent_14 rfl ?_
    refine r_iconst (v := -1) h dX7_precedent_15 (by decide) ?_
    refine r_icmp_ne (tgt := 29) h dX7_precedent_16 (by decide) (fun c7 => ?_) (fun c7 => ?_)
    · replace hoc := (if_neg c7).symm.trans hoc
      refine r_iload_n h dX7_precedent_29 rfl ?_
      cases hoc
      exact r_ireturn h hEn dX7_precedent_30 rfl rfl rfl (by decide) (by decide)
    · replace hoc := (if_pos c7).symm.trans hoc
      cases hoc
      exact r_throwN h hEn hMe kt_X7_112_219 dX7_precedent_19 dX7_precedent_22 dX7_precedent_23 dX7_precedent_25 dX7_precedent_28 rfl (by decide) (by decide) (by decide)
  · refine r_callV h hMe (rest := [k_p 0 (i0)]) (as := [k_i (a1)]) (oc := .inr e8) (j_X7_reportAt la hla G _ (i0) (a1) _ q2) kl_X7_104 dX7_precedent_3 rfl rfl rfl rfl rfl ⟨rfl, rfl, Nat.le_of_ble_eq_true rfl, Nat.le_of_ble_eq_true rfl, Nat.le_of_ble_eq_true rfl, Nat.le_of_ble_eq_true rfl, Nat.le_of_ble_eq_true rfl⟩ (fun E q => ?_) (fun r s q => by cases q)
    cases q
    cases hoc
    exact k_T.out h hEn hMe rfl (by decide) (by decide)
def f_X7_closeAppeal (σ : k_S) (a1 : Nat) (a2 : Int32) : Option (Unit × k_S) :=
  (if a2 = k_I σ 5 (a1) (11) then (k_on (k_P σ 5 (a1) (8)) (some (((), (k_uI σ 5 (a1) (12) (0))))) (fun j2 => (if k_I σ 5 (a1) (11) = (103 : Int32) then ((f_X0_learn (k_uI σ 5 (a1) (12) (0)) (j2) (0)).bind fun v5 => some (((), v5.2))) else some (((), (k_uI σ 5 (a1) (12) (0))))))) else (k_on (k_P σ 5 (a1) (8)) (some (((), (k_uI σ 5 (a1) (12) (1))))) (fun j7 => (if k_I σ 5 (a1) (11) = (103 : Int32) then ((f_X0_learn (k_uI σ 5 (a1) (12) (1)) (j7) (1)).bind fun v10 => some (((), v10.2))) else some (((), (k_uI σ 5 (a1) (12) (1))))))))
theorem j_X7_closeAppeal (la : Launch) (hla : la.flags = flags0) (G : k_G) (σ : k_S) (a1 : Nat) (a2 : Int32) (x : (Unit × k_S)) (hoc : f_X7_closeAppeal σ a1 a2 = some x) : k_Ct la G yX7_closeAppeal (k_ws yX7_closeAppeal cX7_closeAppeal 2 (Option.none : Option ClassFile.FieldType)) { frames := 2, cells := 0, slots := 0, locals := 36 } [k_p 5 (a1), k_i (a2)] σ (.inl (k_mU x.1, x.2)) 0 0 := by
  refine k_body hla (by decide +kernel) (k_wl rfl) (Nat.le_of_ble_eq_true rfl) (fun X h hEn hMe => ?_)
  show k_W X σ 0 0 0 [some (k_p 5 (a1)), some (k_i (a2))] []
  unfold f_X7_closeAppeal at hoc
  refine r_aload_n h dX7_closeAppeal_0 rfl ?_
  refine r_iload_n h dX7_closeAppeal_1 rfl ?_
  refine r_aload_n h dX7_closeAppeal_2 rfl ?_
  refine r_getI h kf_X7_248 dX7_closeAppeal_3 rfl rfl (by decide) rfl ?_
  refine r_icmp_eq (tgt := 13) h dX7_closeAppeal_6 (by decide) (fun c1 => ?_) (fun c1 => ?_)
  · replace hoc := (if_pos c1).symm.trans hoc
    refine r_iconst (v := 0) h dX7_closeAppeal_13 (by decide) ?_
    refine r_putI (x := 0) h kp_X7_270 dX7_closeAppeal_14 rfl rfl (by decide) rfl rfl ⟨by decide, by decide⟩ ?_
    refine r_aload_n h dX7_closeAppeal_17 rfl ?_
    rcases q3 : k_P σ 5 (a1) (8) with _ | j2
    · replace hoc := (k_on_n q3).symm.trans hoc
      refine r_getN h kf_X7_177 dX7_closeAppeal_18 rfl rfl (by decide) rfl (Eq.trans rfl q3) ?_
      refine r_ifnullN (tgt := 44) h dX7_closeAppeal_21 (by decide) ?_
      cases hoc
      exact r_return h hEn dX7_closeAppeal_44 rfl rfl (by decide) (by decide)
    · replace hoc := (k_on_s q3).symm.trans hoc
      refine r_getR h kf_X7_177 dX7_closeAppeal_18 rfl rfl (by decide) rfl (Eq.trans rfl q3) ?_
      refine r_ifnull h dX7_closeAppeal_21 ?_
      refine r_aload_n h dX7_closeAppeal_24 rfl ?_
      refine r_getI h kf_X7_248 dX7_closeAppeal_25 rfl rfl (by decide) rfl ?_
      refine r_eqI (k_I_k (by decide)) ?_
      refine r_bipush (v := 103) h dX7_closeAppeal_28 (by decide) ?_
      refine r_icmp_ne (tgt := 44) h dX7_closeAppeal_30 (by decide) (fun c4 => ?_) (fun c4 => ?_)
      · replace hoc := (if_neg c4).symm.trans hoc
        cases hoc
        exact r_return h hEn dX7_closeAppeal_44 rfl rfl (by decide) (by decide)
      · replace hoc := (if_pos c4).symm.trans hoc
        refine r_aload_n h dX7_closeAppeal_33 rfl ?_
        refine r_getR h kf_X7_177 dX7_closeAppeal_34 rfl rfl (by decide) rfl (Eq.trans rfl q3) ?_
        refine r_aload_n h dX7_closeAppeal_37 rfl ?_
        refine r_getI h kf_X7_270 dX7_closeAppeal_38 rfl rfl (by decide) rfl ?_
        refine r_eqI k_I_s ?_
        obtain ⟨v5, q6, hoc⟩ := k_ob hoc
        refine r_callV h hMe (rest := []) (as := [k_i (0)]) (oc := .inl (k_mU v5.1, v5.2)) (j_X0_learn la hla G _ (j2) (0) _ q6) kl_X7_372 dX7_closeAppeal_41 rfl rfl rfl rfl rfl ⟨rfl, rfl, Nat.le_of_ble_eq_true rfl, Nat.le_of_ble_eq_true rfl, Nat.le_of_ble_eq_true rfl, Nat.le_of_ble_eq_true rfl, Nat.le_of_ble_eq_true rfl⟩ (fun E q => by cases q) (fun r s q => ?_)
        cases q
        show k_W X _ _ _ _ _ ([])
        cases hoc
        exact r_return h hEn dX7_closeAppeal_44 rfl rfl (by decide) (by decide)
  · replace hoc := (if_neg c1).symm.trans hoc
    refine r_iconst (v := 1) h dX7_closeAppeal_9 (by decide) ?_
    refine r_goto (tgt := 14) h dX7_closeAppeal_10 (by decide) ?_
    refine r_putI (x := 1) h kp_X7_270 dX7_closeAppeal_14 rfl rfl (by decide) rfl rfl ⟨by decide, by decide⟩ ?_
    refine r_aload_n h dX7_closeAppeal_17 rfl ?_
    rcases q8 : k_P σ 5 (a1) (8) with _ | j7
    · replace hoc := (k_on_n q8).symm.trans hoc
      refine r_getN h kf_X7_177 dX7_closeAppeal_18 rfl rfl (by decide) rfl (Eq.trans rfl q8) ?_
      refine r_ifnullN (tgt := 44) h dX7_closeAppeal_21 (by decide) ?_
      cases hoc
      exact r_return h hEn dX7_closeAppeal_44 rfl rfl (by decide) (by decide)
    · replace hoc := (k_on_s q8).symm.trans hoc
      refine r_getR h kf_X7_177 dX7_closeAppeal_18 rfl rfl (by decide) rfl (Eq.trans rfl q8) ?_
      refine r_ifnull h dX7_closeAppeal_21 ?_
      refine r_aload_n h dX7_closeAppeal_24 rfl ?_
      refine r_getI h kf_X7_248 dX7_closeAppeal_25 rfl rfl (by decide) rfl ?_
      refine r_eqI (k_I_k (by decide)) ?_
      refine r_bipush (v := 103) h dX7_closeAppeal_28 (by decide) ?_
      refine r_icmp_ne (tgt := 44) h dX7_closeAppeal_30 (by decide) (fun c9 => ?_) (fun c9 => ?_)
      · replace hoc := (if_neg c9).symm.trans hoc
        cases hoc
        exact r_return h hEn dX7_closeAppeal_44 rfl rfl (by decide) (by decide)
      · replace hoc := (if_pos c9).symm.trans hoc
        refine r_aload_n h dX7_closeAppeal_33 rfl ?_
        refine r_getR h kf_X7_177 dX7_closeAppeal_34 rfl rfl (by decide) rfl (Eq.trans rfl q8) ?_
        refine r_aload_n h dX7_closeAppeal_37 rfl ?_
        refine r_getI h kf_X7_270 dX7_closeAppeal_38 rfl rfl (by decide) rfl ?_
        refine r_eqI k_I_s ?_
        obtain ⟨v10, q11, hoc⟩ := k_ob hoc
        refine r_callV h hMe (rest := []) (as := [k_i (1)]) (oc := .inl (k_mU v10.1, v10.2)) (j_X0_learn la hla G _ (j7) (1) _ q11) kl_X7_372 dX7_closeAppeal_41 rfl rfl rfl rfl rfl ⟨rfl, rfl, Nat.le_of_ble_eq_true rfl, Nat.le_of_ble_eq_true rfl, Nat.le_of_ble_eq_true rfl, Nat.le_of_ble_eq_true rfl, Nat.le_of_ble_eq_true rfl⟩ (fun E q => by cases q) (fun r s q => ?_)
        cases q
        show k_W X _ _ _ _ _ ([])
        cases hoc
        exact r_return h hEn dX7_closeAppeal_44 rfl rfl (by decide) (by decide)
