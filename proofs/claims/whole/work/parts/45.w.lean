/-! ===== walks 15 (written by wip/whole/gen_walk.py, emit_walk.py) ===== -/
def f_X8_isOpen (σ : k_S) (i0 : Nat) (a1 : Int32) : Option (Int32 × k_S) :=
  ((f_X8_isReport σ (i0) (a1)).bind fun v1 => (if v1 = 0 then (if (1 : Int32) ≤ 0 then some ((0, (k_uI σ 1 (i0) (0) (1)))) else some ((1, (k_uI σ 1 (i0) (0) (1))))) else ((k_P σ 1 (i0) (24)).bind fun j4 => (if 0 ≤ a1 ∧ (a1).toNatClampNeg < 20 then (if k_I σ 38 (j4) ((a1).toNatClampNeg) = (100 : Int32) then (if (0 : Int32) ≤ 0 then some ((0, (k_uI σ 1 (i0) (0) (0)))) else some ((1, (k_uI σ 1 (i0) (0) (0))))) else (if (2 : Int32) ≤ 0 then some ((0, (k_uI σ 1 (i0) (0) (2)))) else some ((1, (k_uI σ 1 (i0) (0) (2)))))) else none))))
theorem j_X8_isOpen (la : Launch) (hla : la.flags = flags0) (G : k_G) (σ : k_S) (i0 : Nat) (a1 : Int32) (x : (Int32 × k_S)) (hoc : f_X8_isOpen σ i0 a1 = some x) : k_Ct la G yX8_isOpen (k_ws yX8_isOpen cX8_isOpen 2 (Option.some ClassFile.FieldType.boolean)) { frames := 2, cells := 0, slots := 0, locals := 44 } [k_p 1 (i0), k_i (a1)] σ (.inl (k_mI x.1, x.2)) 0 0 := by
  refine k_body hla (by decide +kernel) (k_wl rfl) (Nat.le_of_ble_eq_true rfl) (fun X h hEn hMe => ?_)
  show k_W X σ 0 0 0 [some (k_p 1 (i0)), some (k_i (a1))] []
  unfold f_X8_isOpen at hoc
  refine r_aload_n h dX8_isOpen_0 rfl ?_
  refine r_aload_n h dX8_isOpen_1 rfl ?_
  refine r_iload_n h dX8_isOpen_2 rfl ?_
  obtain ⟨v1, q2, hoc⟩ := k_ob hoc
  refine r_callV h hMe (rest := [k_p 1 (i0)]) (as := [k_i (a1)]) (oc := .inl (k_mI v1, σ)) (j_X8_isReport la hla G _ (i0) (a1) _ q2) kl_X8_124 dX8_isOpen_3 rfl rfl rfl rfl rfl ⟨rfl, rfl, Nat.le_of_ble_eq_true rfl, Nat.le_of_ble_eq_true rfl, Nat.le_of_ble_eq_true rfl, Nat.le_of_ble_eq_true rfl, Nat.le_of_ble_eq_true rfl⟩ (fun E q => by cases q) (fun r s q => ?_)
  cases q
  show k_W X _ _ _ _ _ ([k_i (v1), k_p 1 (i0)])
  refine r_if_ne (tgt := 13) h dX8_isOpen_6 (by decide) (fun c3 => ?_) (fun c3 => ?_)
  · replace hoc := (if_neg c3).symm.trans hoc
    refine r_aload_n h dX8_isOpen_13 rfl ?_
    obtain ⟨j4, q5, hoc⟩ := k_ob hoc
    refine r_getR h kf_X8_69 dX8_isOpen_14 rfl rfl (by decide) rfl (Eq.trans rfl q5) ?_
    refine r_iload_n h dX8_isOpen_17 rfl ?_
    obtain ⟨c6, hoc⟩ := k_gd hoc
    refine r_caload (y := (a1).toNatClampNeg) (t := 0) h dX8_isOpen_18 rfl rfl rfl (k_xx c6.1) c6.2 (by decide) ?_
    refine r_bipush (v := 100) h dX8_isOpen_19 (by decide) ?_
    refine r_icmp_ne (tgt := 28) h dX8_isOpen_21 (by decide) (fun c7 => ?_) (fun c7 => ?_)
    · replace hoc := (if_neg c7).symm.trans hoc
      refine r_iconst (v := 2) h dX8_isOpen_28 (by decide) ?_
      refine r_putI (x := 2) h kp_X8_84 dX8_isOpen_29 rfl rfl (by decide) rfl rfl (k_fit_int _) ?_
      refine r_aload_n h dX8_isOpen_32 rfl ?_
      refine r_getI h kf_X8_84 dX8_isOpen_33 rfl rfl (by decide) rfl ?_
      refine r_eqI k_I_s ?_
      refine r_if_le (tgt := 43) h dX8_isOpen_36 (by decide) (fun c8 => ?_) (fun c8 => ?_)
      · replace hoc := (if_pos c8).symm.trans hoc
        refine r_iconst (v := 0) h dX8_isOpen_43 (by decide) ?_
        cases hoc
        exact r_ireturn h hEn dX8_isOpen_44 rfl (by decide) rfl (by decide) (by decide)
      · replace hoc := (if_neg c8).symm.trans hoc
        refine r_iconst (v := 1) h dX8_isOpen_39 (by decide) ?_
        refine r_goto (tgt := 44) h dX8_isOpen_40 (by decide) ?_
        cases hoc
        exact r_ireturn h hEn dX8_isOpen_44 rfl (by decide) rfl (by decide) (by decide)
    · replace hoc := (if_pos c7).symm.trans hoc
      refine r_iconst (v := 0) h dX8_isOpen_24 (by decide) ?_
      refine r_goto (tgt := 29) h dX8_isOpen_25 (by decide) ?_
      refine r_putI (x := 0) h kp_X8_84 dX8_isOpen_29 rfl rfl (by decide) rfl rfl (k_fit_int _) ?_
      refine r_aload_n h dX8_isOpen_32 rfl ?_
      refine r_getI h kf_X8_84 dX8_isOpen_33 rfl rfl (by decide) rfl ?_
      refine r_eqI k_I_s ?_
      refine r_if_le (tgt := 43) h dX8_isOpen_36 (by decide) (fun c9 => ?_) (fun c9 => ?_)
      · replace hoc := (if_pos c9).symm.trans hoc
        refine r_iconst (v := 0) h dX8_isOpen_43 (by decide) ?_
        cases hoc
        exact r_ireturn h hEn dX8_isOpen_44 rfl (by decide) rfl (by decide) (by decide)
      · replace hoc := (if_neg c9).symm.trans hoc
        refine r_iconst (v := 1) h dX8_isOpen_39 (by decide) ?_
        refine r_goto (tgt := 44) h dX8_isOpen_40 (by decide) ?_
        cases hoc
        exact r_ireturn h hEn dX8_isOpen_44 rfl (by decide) rfl (by decide) (by decide)
  · replace hoc := (if_pos c3).symm.trans hoc
    refine r_iconst (v := 1) h dX8_isOpen_9 (by decide) ?_
    refine r_goto (tgt := 29) h dX8_isOpen_10 (by decide) ?_
    refine r_putI (x := 1) h kp_X8_84 dX8_isOpen_29 rfl rfl (by decide) rfl rfl (k_fit_int _) ?_
    refine r_aload_n h dX8_isOpen_32 rfl ?_
    refine r_getI h kf_X8_84 dX8_isOpen_33 rfl rfl (by decide) rfl ?_
    refine r_eqI k_I_s ?_
    refine r_if_le (tgt := 43) h dX8_isOpen_36 (by decide) (fun c10 => ?_) (fun c10 => ?_)
    · replace hoc := (if_pos c10).symm.trans hoc
      refine r_iconst (v := 0) h dX8_isOpen_43 (by decide) ?_
      cases hoc
      exact r_ireturn h hEn dX8_isOpen_44 rfl (by decide) rfl (by decide) (by decide)
    · replace hoc := (if_neg c10).symm.trans hoc
      refine r_iconst (v := 1) h dX8_isOpen_39 (by decide) ?_
      refine r_goto (tgt := 44) h dX8_isOpen_40 (by decide) ?_
      cases hoc
      exact r_ireturn h hEn dX8_isOpen_44 rfl (by decide) rfl (by decide) (by decide)
def f_X8_outcome (σ : k_S) (i0 : Nat) (a1 : Int32) : Option (Int32 × k_S) :=
  ((f_X8_isOpen σ (i0) (a1)).bind fun v1 => (if v1.1 = 0 then ((k_P v1.2 1 (i0) (25)).bind fun j4 => (if 0 ≤ a1 ∧ (a1).toNatClampNeg < 20 then (if k_isC (k_I v1.2 39 (j4) ((a1).toNatClampNeg)) = true then some ((k_I v1.2 39 (j4) ((a1).toNatClampNeg), v1.2)) else none) else none)) else some ((0, v1.2))))
theorem j_X8_outcome (la : Launch) (hla : la.flags = flags0) (G : k_G) (σ : k_S) (i0 : Nat) (a1 : Int32) (x : (Int32 × k_S)) (hoc : f_X8_outcome σ i0 a1 = some x) : k_Ct la G yX8_outcome (k_ws yX8_outcome cX8_outcome 2 (Option.some ClassFile.FieldType.char)) { frames := 3, cells := 0, slots := 0, locals := 65 } [k_p 1 (i0), k_i (a1)] σ (.inl (k_mI x.1, x.2)) 0 0 := by
  refine k_body hla (by decide +kernel) (k_wl rfl) (Nat.le_of_ble_eq_true rfl) (fun X h hEn hMe => ?_)
  show k_W X σ 0 0 0 [some (k_p 1 (i0)), some (k_i (a1))] []
  unfold f_X8_outcome at hoc
  refine r_aload_n h dX8_outcome_0 rfl ?_
  refine r_iload_n h dX8_outcome_1 rfl ?_
  obtain ⟨v1, q2, hoc⟩ := k_ob hoc
  refine r_callV h hMe (rest := []) (as := [k_i (a1)]) (oc := .inl (k_mI v1.1, v1.2)) (j_X8_isOpen la hla G _ (i0) (a1) _ q2) kl_X8_181 dX8_outcome_2 rfl rfl rfl rfl rfl ⟨rfl, rfl, Nat.le_of_ble_eq_true rfl, Nat.le_of_ble_eq_true rfl, Nat.le_of_ble_eq_true rfl, Nat.le_of_ble_eq_true rfl, Nat.le_of_ble_eq_true rfl⟩ (fun E q => by cases q) (fun r s q => ?_)
  cases q
  show k_W X _ _ _ _ _ ([k_i (v1.1)])
  refine r_if_eq (tgt := 12) h dX8_outcome_5 (by decide) (fun c3 => ?_) (fun c3 => ?_)
  · replace hoc := (if_pos c3).symm.trans hoc
    refine r_aload_n h dX8_outcome_12 rfl ?_
    obtain ⟨j4, q5, hoc⟩ := k_ob hoc
    refine r_getR h kf_X8_73 dX8_outcome_13 rfl rfl (by decide) rfl (Eq.trans rfl q5) ?_
    refine r_iload_n h dX8_outcome_16 rfl ?_
    obtain ⟨c6, hoc⟩ := k_gd hoc
    refine r_caload (y := (a1).toNatClampNeg) (t := 0) h dX8_outcome_17 rfl rfl rfl (k_xx c6.1) c6.2 (by decide) ?_
    obtain ⟨c7, hoc⟩ := k_gd hoc
    cases hoc
    exact r_ireturn h hEn dX8_outcome_18 rfl (k_nC c7) rfl (by decide) (by decide)
  · replace hoc := (if_neg c3).symm.trans hoc
    refine r_iconst (v := 0) h dX8_outcome_8 (by decide) ?_
    refine r_goto (tgt := 18) h dX8_outcome_9 (by decide) ?_
    cases hoc
    exact r_ireturn h hEn dX8_outcome_18 rfl (by decide) rfl (by decide) (by decide)
def f_X8_outcomeAnew (σ : k_S) (i0 : Nat) (a1 : Int32) : Option (Int32 × k_S) :=
  ((f_X8_outcome σ (i0) (a1)).bind fun v1 => (if k_isC (v1.1) = true then some ((v1.1, v1.2)) else none))
theorem j_X8_outcomeAnew (la : Launch) (hla : la.flags = flags0) (G : k_G) (σ : k_S) (i0 : Nat) (a1 : Int32) (x : (Int32 × k_S)) (hoc : f_X8_outcomeAnew σ i0 a1 = some x) : k_Ct la G yX8_outcomeAnew (k_ws yX8_outcomeAnew cX8_outcomeAnew 2 (Option.some ClassFile.FieldType.char)) { frames := 4, cells := 0, slots := 0, locals := 86 } [k_p 1 (i0), k_i (a1)] σ (.inl (k_mI x.1, x.2)) 0 0 := by
  refine k_body hla (by decide +kernel) (k_wl rfl) (Nat.le_of_ble_eq_true rfl) (fun X h hEn hMe => ?_)
  show k_W X σ 0 0 0 [some (k_p 1 (i0)), some (k_i (a1))] []
  unfold f_X8_outcomeAnew at hoc
  refine r_aload_n h dX8_outcomeAnew_0 rfl ?_
  refine r_iload_n h dX8_outcomeAnew_1 rfl ?_
  obtain ⟨v1, q2, hoc⟩ := k_ob hoc
  refine r_callV h hMe (rest := []) (as := [k_i (a1)]) (oc := .inl (k_mI v1.1, v1.2)) (j_X8_outcome la hla G _ (i0) (a1) _ q2) kl_X8_184 dX8_outcomeAnew_2 rfl rfl rfl rfl rfl ⟨rfl, rfl, Nat.le_of_ble_eq_true rfl, Nat.le_of_ble_eq_true rfl, Nat.le_of_ble_eq_true rfl, Nat.le_of_ble_eq_true rfl, Nat.le_of_ble_eq_true rfl⟩ (fun E q => by cases q) (fun r s q => ?_)
  cases q
  show k_W X _ _ _ _ _ ([k_i (v1.1)])
  obtain ⟨c3, hoc⟩ := k_gd hoc
  cases hoc
  exact r_ireturn h hEn dX8_outcomeAnew_5 rfl (k_nC c3) rfl (by decide) (by decide)
def f_X8_isByBot (σ : k_S) (i0 : Nat) (a1 : Int32) : Option (Int32 × k_S) :=
  ((f_X8_isOpen σ (i0) (a1)).bind fun v1 => (if v1.1 = 0 then ((k_P v1.2 1 (i0) (21)).bind fun j4 => (if 0 ≤ a1 ∧ (a1).toNatClampNeg < 20 then (if k_I v1.2 35 (j4) ((a1).toNatClampNeg) < 0 then some ((0, v1.2)) else some ((1, v1.2))) else none)) else some ((0, v1.2))))
theorem j_X8_isByBot (la : Launch) (hla : la.flags = flags0) (G : k_G) (σ : k_S) (i0 : Nat) (a1 : Int32) (x : (Int32 × k_S)) (hoc : f_X8_isByBot σ i0 a1 = some x) : k_Ct la G yX8_isByBot (k_ws yX8_isByBot cX8_isByBot 2 (Option.some ClassFile.FieldType.boolean)) { frames := 3, cells := 0, slots := 0, locals := 65 } [k_p 1 (i0), k_i (a1)] σ (.inl (k_mI x.1, x.2)) 0 0 := by
  refine k_body hla (by decide +kernel) (k_wl rfl) (Nat.le_of_ble_eq_true rfl) (fun X h hEn hMe => ?_)
  show k_W X σ 0 0 0 [some (k_p 1 (i0)), some (k_i (a1))] []
  unfold f_X8_isByBot at hoc
  refine r_aload_n h dX8_isByBot_0 rfl ?_
  refine r_iload_n h dX8_isByBot_1 rfl ?_
  obtain ⟨v1, q2, hoc⟩ := k_ob hoc
  refine r_callV h hMe (rest := []) (as := [k_i (a1)]) (oc := .inl (k_mI v1.1, v1.2)) (j_X8_isOpen la hla G _ (i0) (a1) _ q2) kl_X8_181 dX8_isByBot_2 rfl rfl rfl rfl rfl ⟨rfl, rfl, Nat.le_of_ble_eq_true rfl, Nat.le_of_ble_eq_true rfl, Nat.le_of_ble_eq_true rfl, Nat.le_of_ble_eq_true rfl, Nat.le_of_ble_eq_true rfl⟩ (fun E q => by cases q) (fun r s q => ?_)
  cases q
  show k_W X _ _ _ _ _ ([k_i (v1.1)])
  refine r_if_ne (tgt := 21) h dX8_isByBot_5 (by decide) (fun c3 => ?_) (fun c3 => ?_)
  · replace hoc := (if_neg c3).symm.trans hoc
    refine r_iconst (v := 0) h dX8_isByBot_21 (by decide) ?_
    cases hoc
    exact r_ireturn h hEn dX8_isByBot_22 rfl (by decide) rfl (by decide) (by decide)
  · replace hoc := (if_pos c3).symm.trans hoc
    refine r_aload_n h dX8_isByBot_8 rfl ?_
    obtain ⟨j4, q5, hoc⟩ := k_ob hoc
    refine r_getR h kf_X8_60 dX8_isByBot_9 rfl rfl (by decide) rfl (Eq.trans rfl q5) ?_
    refine r_iload_n h dX8_isByBot_12 rfl ?_
    obtain ⟨c6, hoc⟩ := k_gd hoc
    refine r_iaload (y := (a1).toNatClampNeg) (t := 0) h dX8_isByBot_13 rfl rfl rfl (k_xx c6.1) c6.2 (by decide) ?_
    refine r_if_lt (tgt := 21) h dX8_isByBot_14 (by decide) (fun c7 => ?_) (fun c7 => ?_)
    · replace hoc := (if_pos c7).symm.trans hoc
      refine r_iconst (v := 0) h dX8_isByBot_21 (by decide) ?_
      cases hoc
      exact r_ireturn h hEn dX8_isByBot_22 rfl (by decide) rfl (by decide) (by decide)
    · replace hoc := (if_neg c7).symm.trans hoc
      refine r_iconst (v := 1) h dX8_isByBot_17 (by decide) ?_
      refine r_goto (tgt := 22) h dX8_isByBot_18 (by decide) ?_
      cases hoc
      exact r_ireturn h hEn dX8_isByBot_22 rfl (by decide) rfl (by decide) (by decide)
def f_X8_appeal_l1 (t : Nat) (i0 : Nat) (a1 : Int32) (σ : k_S) (x2 : Int32) (x3 : Int32) : Option (Int32 × Int32) := match t with
  | 0 => none
  | t + 1 => (if k_I σ 1 (i0) (28) ≤ x3 then some ((x2, x3)) else ((k_P σ 1 (i0) (24)).bind fun j17 => (if 0 ≤ x3 ∧ (x3).toNatClampNeg < 20 then (if k_I σ 38 (j17) ((x3).toNatClampNeg) = (101 : Int32) then f_X8_appeal_l1 t i0 a1 σ ((x2 + 1)) ((x3 + 1)) else f_X8_appeal_l1 t i0 a1 σ ((x2 + 0)) ((x3 + 1))) else none)))
theorem j_X8_appeal_l1 (la : Launch) (hla : la.flags = flags0) (G : k_G) (X : k_X) (σ0 σ : k_S) (h : k_Ok X RX8 cX8_appeal 4) (hMe : k_Me X la G σ0 { frames := 3, cells := 0, slots := 0, locals := 65 } "appeal") (i0 : Nat) (a1 : Int32) : ∀ (t : Nat) (x2 : Int32) (x3 : Int32) (e : (Int32 × Int32)), f_X8_appeal_l1 t i0 a1 σ x2 x3 = some e → k_W X σ 0 0 84 [some (k_p 1 (i0)), some (k_i (a1)), some (k_i (e.1)), some (k_i (e.2))] [] → k_W X σ 0 0 51 [some (k_p 1 (i0)), some (k_i (a1)), some (k_i (x2)), some (k_i (x3))] [] := by
  intro t
  induction t with
  | zero =>
    intro x2 x3 e hoc kk
    cases hoc
  | succ t ih =>
    intro x2 x3 e hoc kk
    rw [f_X8_appeal_l1] at hoc
    refine r_iload_n h dX8_appeal_51 rfl ?_
    refine r_aload_n h dX8_appeal_52 rfl ?_
    refine r_getI h kf_X8_97 dX8_appeal_53 rfl rfl (by decide) rfl ?_
    refine r_icmp_ge (tgt := 84) h dX8_appeal_56 (by decide) (fun c16 => ?_) (fun c16 => ?_)
    · replace hoc := (if_pos c16).symm.trans hoc
      cases hoc
      exact kk
    · replace hoc := (if_neg c16).symm.trans hoc
      refine r_iload_n h dX8_appeal_59 rfl ?_
      refine r_aload_n h dX8_appeal_60 rfl ?_
      obtain ⟨j17, q18, hoc⟩ := k_ob hoc
      refine r_getR h kf_X8_69 dX8_appeal_61 rfl rfl (by decide) rfl (Eq.trans rfl q18) ?_
      refine r_iload_n h dX8_appeal_64 rfl ?_
      obtain ⟨c19, hoc⟩ := k_gd hoc
      refine r_caload (y := (x3).toNatClampNeg) (t := 0) h dX8_appeal_65 rfl rfl rfl (k_xx c19.1) c19.2 (by decide) ?_
      refine r_bipush (v := 101) h dX8_appeal_66 (by decide) ?_
      refine r_icmp_ne (tgt := 75) h dX8_appeal_68 (by decide) (fun c20 => ?_) (fun c20 => ?_)
      · replace hoc := (if_neg c20).symm.trans hoc
        refine r_iconst (v := 0) h dX8_appeal_75 (by decide) ?_
        refine r_iadd h dX8_appeal_76 ?_
        refine r_istore_n (L' := [some (k_p 1 (i0)), some (k_i (a1)), some (k_i ((x2 + 0))), some (k_i (x3))]) h dX8_appeal_77 (by decide) rfl ?_
        refine r_iinc (v := (x3 + 1)) (L' := [some (k_p 1 (i0)), some (k_i (a1)), some (k_i ((x2 + 0))), some (k_i ((x3 + 1)))]) h dX8_appeal_78 rfl rfl (by decide) rfl ?_
        refine r_goto (tgt := 51) h dX8_appeal_81 (by decide) ?_
        exact r_forget (L' := [some (k_p 1 (i0)), some (k_i (a1)), some (k_i ((x2 + 0))), some (k_i ((x3 + 1)))]) (k_le_ok ⟨rfl, ⟨rfl, ⟨rfl, ⟨rfl, trivial⟩⟩⟩⟩) (ih ((x2 + 0)) ((x3 + 1)) _ hoc kk)
      · replace hoc := (if_pos c20).symm.trans hoc
        refine r_iconst (v := 1) h dX8_appeal_71 (by decide) ?_
        refine r_goto (tgt := 76) h dX8_appeal_72 (by decide) ?_
        refine r_iadd h dX8_appeal_76 ?_
        refine r_istore_n (L' := [some (k_p 1 (i0)), some (k_i (a1)), some (k_i ((x2 + 1))), some (k_i (x3))]) h dX8_appeal_77 (by decide) rfl ?_
        refine r_iinc (v := (x3 + 1)) (L' := [some (k_p 1 (i0)), some (k_i (a1)), some (k_i ((x2 + 1))), some (k_i ((x3 + 1)))]) h dX8_appeal_78 rfl rfl (by decide) rfl ?_
        refine r_goto (tgt := 51) h dX8_appeal_81 (by decide) ?_
        exact r_forget (L' := [some (k_p 1 (i0)), some (k_i (a1)), some (k_i ((x2 + 1))), some (k_i ((x3 + 1)))]) (k_le_ok ⟨rfl, ⟨rfl, ⟨rfl, ⟨rfl, trivial⟩⟩⟩⟩) (ih ((x2 + 1)) ((x3 + 1)) _ hoc kk)
def f_X8_appeal (σ : k_S) (i0 : Nat) (a1 : Int32) : Option (Int32 × k_S) :=
  ((f_X8_isOpen σ (i0) (a1)).bind fun v1 => (if v1.1 = 0 then ((k_P v1.2 1 (i0) (26)).bind fun j4 => (if 0 ≤ a1 ∧ (a1).toNatClampNeg < 20 then (if k_I v1.2 40 (j4) ((a1).toNatClampNeg) = (45 : Int32) then ((k_P v1.2 1 (i0) (25)).bind fun j8 => (if 0 ≤ a1 ∧ (a1).toNatClampNeg < 20 then (if 0 ≤ a1 ∧ (a1).toNatClampNeg < 20 then (if k_isC (k_I v1.2 39 (j8) ((a1).toNatClampNeg)) = true then ((k_P v1.2 1 (i0) (24)).bind fun j13 => (if 0 ≤ a1 ∧ (a1).toNatClampNeg < 20 then ((f_X8_appeal_l1 200 i0 a1 (k_uI (k_uI v1.2 40 (j4) ((a1).toNatClampNeg) (k_I v1.2 39 (j8) ((a1).toNatClampNeg))) 38 (j13) ((a1).toNatClampNeg) (101)) (0) (0)).bind fun v21 => some ((v21.1, (k_uI (k_uI v1.2 40 (j4) ((a1).toNatClampNeg) (k_I v1.2 39 (j8) ((a1).toNatClampNeg))) 38 (j13) ((a1).toNatClampNeg) (101))))) else none)) else none) else none) else none)) else ((f_X8_fails v1.2 (i0) (3)).bind fun v23 => some ((v23.1, v23.2)))) else none)) else some ((0, v1.2))))
theorem j_X8_appeal (la : Launch) (hla : la.flags = flags0) (G : k_G) (σ : k_S) (i0 : Nat) (a1 : Int32) (x : (Int32 × k_S)) (hoc : f_X8_appeal σ i0 a1 = some x) : k_Ct la G yX8_appeal (k_ws yX8_appeal cX8_appeal 4 (Option.some ClassFile.FieldType.int)) { frames := 3, cells := 0, slots := 0, locals := 65 } [k_p 1 (i0), k_i (a1)] σ (.inl (k_mI x.1, x.2)) 0 0 := by
  refine k_body hla (by decide +kernel) (k_wl rfl) (Nat.le_of_ble_eq_true rfl) (fun X h hEn hMe => ?_)
  show k_W X σ 0 0 0 [some (k_p 1 (i0)), some (k_i (a1)), none, none] []
  unfold f_X8_appeal at hoc
  refine r_aload_n h dX8_appeal_0 rfl ?_
  refine r_iload_n h dX8_appeal_1 rfl ?_
  obtain ⟨v1, q2, hoc⟩ := k_ob hoc
  refine r_callV h hMe (rest := []) (as := [k_i (a1)]) (oc := .inl (k_mI v1.1, v1.2)) (j_X8_isOpen la hla G _ (i0) (a1) _ q2) kl_X8_181 dX8_appeal_2 rfl rfl rfl rfl rfl ⟨rfl, rfl, Nat.le_of_ble_eq_true rfl, Nat.le_of_ble_eq_true rfl, Nat.le_of_ble_eq_true rfl, Nat.le_of_ble_eq_true rfl, Nat.le_of_ble_eq_true rfl⟩ (fun E q => by cases q) (fun r s q => ?_)
  cases q
  show k_W X _ _ _ _ _ ([k_i (v1.1)])
  refine r_if_eq (tgt := 10) h dX8_appeal_5 (by decide) (fun c3 => ?_) (fun c3 => ?_)
  · replace hoc := (if_pos c3).symm.trans hoc
    refine r_aload_n h dX8_appeal_10 rfl ?_
    obtain ⟨j4, q5, hoc⟩ := k_ob hoc
    refine r_getR h kf_X8_76 dX8_appeal_11 rfl rfl (by decide) rfl (Eq.trans rfl q5) ?_
    refine r_iload_n h dX8_appeal_14 rfl ?_
    obtain ⟨c6, hoc⟩ := k_gd hoc
    refine r_caload (y := (a1).toNatClampNeg) (t := 0) h dX8_appeal_15 rfl rfl rfl (k_xx c6.1) c6.2 (by decide) ?_
    refine r_bipush (v := 45) h dX8_appeal_16 (by decide) ?_
    refine r_icmp_eq (tgt := 27) h dX8_appeal_18 (by decide) (fun c7 => ?_) (fun c7 => ?_)
    · replace hoc := (if_pos c7).symm.trans hoc
      refine r_aload_n h dX8_appeal_27 rfl ?_
      refine r_getR h kf_X8_76 dX8_appeal_28 rfl rfl (by decide) rfl (Eq.trans rfl q5) ?_
      refine r_iload_n h dX8_appeal_31 rfl ?_
      refine r_aload_n h dX8_appeal_32 rfl ?_
      obtain ⟨j8, q9, hoc⟩ := k_ob hoc
      refine r_getR h kf_X8_73 dX8_appeal_33 rfl rfl (by decide) rfl (Eq.trans rfl q9) ?_
      refine r_iload_n h dX8_appeal_36 rfl ?_
      obtain ⟨c10, hoc⟩ := k_gd hoc
      refine r_caload (y := (a1).toNatClampNeg) (t := 0) h dX8_appeal_37 rfl rfl rfl (k_xx c10.1) c10.2 (by decide) ?_
      obtain ⟨c11, hoc⟩ := k_gd hoc
      obtain ⟨c12, hoc⟩ := k_gd hoc
      refine r_castore (y := (a1).toNatClampNeg) (t := 0) (x := k_I v1.2 39 (j8) ((a1).toNatClampNeg)) h dX8_appeal_38 rfl rfl rfl rfl (k_fC c12) (k_xx c11.1) c11.2 (by decide) ?_
      refine r_aload_n h dX8_appeal_39 rfl ?_
      obtain ⟨j13, q14, hoc⟩ := k_ob hoc
      refine r_getR h kf_X8_69 dX8_appeal_40 rfl rfl (by decide) rfl (Eq.trans rfl q14) ?_
      refine r_iload_n h dX8_appeal_43 rfl ?_
      refine r_bipush (v := 101) h dX8_appeal_44 (by decide) ?_
      obtain ⟨c15, hoc⟩ := k_gd hoc
      refine r_castore (y := (a1).toNatClampNeg) (t := 0) (x := 101) h dX8_appeal_46 rfl rfl rfl rfl ⟨by decide, by decide⟩ (k_xx c15.1) c15.2 (by decide) ?_
      refine r_iconst (v := 0) h dX8_appeal_47 (by decide) ?_
      refine r_istore_n (L' := [some (k_p 1 (i0)), some (k_i (a1)), some (k_i (0)), none]) h dX8_appeal_48 (by decide) rfl ?_
      refine r_iconst (v := 0) h dX8_appeal_49 (by decide) ?_
      refine r_istore_n (L' := [some (k_p 1 (i0)), some (k_i (a1)), some (k_i (0)), some (k_i (0))]) h dX8_appeal_50 (by decide) rfl ?_
      obtain ⟨v21, q22, hoc⟩ := k_ob hoc
      refine j_X8_appeal_l1 la hla G X σ (k_uI (k_uI v1.2 40 (j4) ((a1).toNatClampNeg) (k_I v1.2 39 (j8) ((a1).toNatClampNeg))) 38 (j13) ((a1).toNatClampNeg) (101)) h hMe i0 a1 200 (0) (0) _ q22 ?_
      refine r_iload_n h dX8_appeal_84 rfl ?_
      cases hoc
      exact r_ireturn h hEn dX8_appeal_85 rfl rfl rfl (by decide) (by decide)
    · replace hoc := (if_neg c7).symm.trans hoc
      refine r_aload_n h dX8_appeal_21 rfl ?_
      refine r_iconst (v := 3) h dX8_appeal_22 (by decide) ?_
      obtain ⟨v23, q24, hoc⟩ := k_ob hoc
      refine r_callV h hMe (rest := []) (as := [k_i (3)]) (oc := .inl (k_mI v23.1, v23.2)) (j_X8_fails la hla G _ (i0) (3) _ q24) kl_X8_103 dX8_appeal_23 rfl rfl rfl rfl rfl ⟨rfl, rfl, Nat.le_of_ble_eq_true rfl, Nat.le_of_ble_eq_true rfl, Nat.le_of_ble_eq_true rfl, Nat.le_of_ble_eq_true rfl, Nat.le_of_ble_eq_true rfl⟩ (fun E q => by cases q) (fun r s q => ?_)
      cases q
      show k_W X _ _ _ _ _ ([k_i (v23.1)])
      cases hoc
      exact r_ireturn h hEn dX8_appeal_26 rfl rfl rfl (by decide) (by decide)
  · replace hoc := (if_neg c3).symm.trans hoc
    refine r_iconst (v := 0) h dX8_appeal_8 (by decide) ?_
    cases hoc
    exact r_ireturn h hEn dX8_appeal_9 rfl rfl rfl (by decide) (by decide)
def f_X8_isReversed (σ : k_S) (i0 : Nat) (a1 : Int32) : Option Int32 :=
  ((k_P σ 1 (i0) (24)).bind fun j1 => (if 0 ≤ a1 ∧ (a1).toNatClampNeg < 20 then (if k_I σ 38 (j1) ((a1).toNatClampNeg) = (100 : Int32) then ((k_P σ 1 (i0) (26)).bind fun j5 => (if 0 ≤ a1 ∧ (a1).toNatClampNeg < 20 then (if k_I σ 40 (j5) ((a1).toNatClampNeg) = (45 : Int32) then some (0) else (if 0 ≤ a1 ∧ (a1).toNatClampNeg < 20 then ((k_P σ 1 (i0) (25)).bind fun j10 => (if 0 ≤ a1 ∧ (a1).toNatClampNeg < 20 then (if k_I σ 40 (j5) ((a1).toNatClampNeg) = k_I σ 39 (j10) ((a1).toNatClampNeg) then some (0) else some (1)) else none)) else none)) else none)) else some (0)) else none))
theorem j_X8_isReversed (la : Launch) (hla : la.flags = flags0) (G : k_G) (σ : k_S) (i0 : Nat) (a1 : Int32) (x : Int32) (hoc : f_X8_isReversed σ i0 a1 = some x) : k_Ct la G yX8_isReversed (k_ws yX8_isReversed cX8_isReversed 2 (Option.some ClassFile.FieldType.boolean)) { frames := 0, cells := 0, slots := 0, locals := 1 } [k_p 1 (i0), k_i (a1)] σ (.inl (k_mI x, σ)) 0 0 := by
  refine k_body hla (by decide +kernel) (k_wl rfl) (Nat.le_of_ble_eq_true rfl) (fun X h hEn hMe => ?_)
  show k_W X σ 0 0 0 [some (k_p 1 (i0)), some (k_i (a1))] []
  unfold f_X8_isReversed at hoc
  refine r_aload_n h dX8_isReversed_0 rfl ?_
  obtain ⟨j1, q2, hoc⟩ := k_ob hoc
  refine r_getR h kf_X8_69 dX8_isReversed_1 rfl rfl (by decide) rfl (Eq.trans rfl q2) ?_
  refine r_iload_n h dX8_isReversed_4 rfl ?_
  obtain ⟨c3, hoc⟩ := k_gd hoc
  refine r_caload (y := (a1).toNatClampNeg) (t := 0) h dX8_isReversed_5 rfl rfl rfl (k_xx c3.1) c3.2 (by decide) ?_
  refine r_bipush (v := 100) h dX8_isReversed_6 (by decide) ?_
  refine r_icmp_ne (tgt := 41) h dX8_isReversed_8 (by decide) (fun c4 => ?_) (fun c4 => ?_)
  · replace hoc := (if_neg c4).symm.trans hoc
    refine r_iconst (v := 0) h dX8_isReversed_41 (by decide) ?_
    cases hoc
    exact r_ireturn h hEn dX8_isReversed_42 rfl (by decide) rfl (by decide) (by decide)
  · replace hoc := (if_pos c4).symm.trans hoc
    refine r_aload_n h dX8_isReversed_11 rfl ?_
    obtain ⟨j5, q6, hoc⟩ := k_ob hoc
    refine r_getR h kf_X8_76 dX8_isReversed_12 rfl rfl (by decide) rfl (Eq.trans rfl q6) ?_
    refine r_iload_n h dX8_isReversed_15 rfl ?_
    obtain ⟨c7, hoc⟩ := k_gd hoc
    refine r_caload (y := (a1).toNatClampNeg) (t := 0) h dX8_isReversed_16 rfl rfl rfl (k_xx c7.1) c7.2 (by decide) ?_
    refine r_bipush (v := 45) h dX8_isReversed_17 (by decide) ?_
    refine r_icmp_eq (tgt := 41) h dX8_isReversed_19 (by decide) (fun c8 => ?_) (fun c8 => ?_)
    · replace hoc := (if_pos c8).symm.trans hoc
      refine r_iconst (v := 0) h dX8_isReversed_41 (by decide) ?_
      cases hoc
      exact r_ireturn h hEn dX8_isReversed_42 rfl (by decide) rfl (by decide) (by decide)
    · replace hoc := (if_neg c8).symm.trans hoc
      refine r_aload_n h dX8_isReversed_22 rfl ?_
      refine r_getR h kf_X8_76 dX8_isReversed_23 rfl rfl (by decide) rfl (Eq.trans rfl q6) ?_
      refine r_iload_n h dX8_isReversed_26 rfl ?_
      obtain ⟨c9, hoc⟩ := k_gd hoc
      refine r_caload (y := (a1).toNatClampNeg) (t := 0) h dX8_isReversed_27 rfl rfl rfl (k_xx c9.1) c9.2 (by decide) ?_
      refine r_aload_n h dX8_isReversed_28 rfl ?_
      obtain ⟨j10, q11, hoc⟩ := k_ob hoc
      refine r_getR h kf_X8_73 dX8_isReversed_29 rfl rfl (by decide) rfl (Eq.trans rfl q11) ?_
      refine r_iload_n h dX8_isReversed_32 rfl ?_
      obtain ⟨c12, hoc⟩ := k_gd hoc
      refine r_caload (y := (a1).toNatClampNeg) (t := 0) h dX8_isReversed_33 rfl rfl rfl (k_xx c12.1) c12.2 (by decide) ?_
      refine r_icmp_eq (tgt := 41) h dX8_isReversed_34 (by decide) (fun c13 => ?_) (fun c13 => ?_)
      · replace hoc := (if_pos c13).symm.trans hoc
        refine r_iconst (v := 0) h dX8_isReversed_41 (by decide) ?_
        cases hoc
        exact r_ireturn h hEn dX8_isReversed_42 rfl (by decide) rfl (by decide) (by decide)
      · replace hoc := (if_neg c13).symm.trans hoc
        refine r_iconst (v := 1) h dX8_isReversed_37 (by decide) ?_
        refine r_goto (tgt := 42) h dX8_isReversed_38 (by decide) ?_
        cases hoc
        exact r_ireturn h hEn dX8_isReversed_42 rfl (by decide) rfl (by decide) (by decide)
def f_X8_wasReversed (σ : k_S) (i0 : Nat) (a1 : Int32) : Option (Int32 × k_S) :=
  ((f_X8_isNone σ (i0) (a1)).bind fun v1 => (if v1.1 = 0 then ((f_X8_isReversed v1.2 (i0) (a1)).bind fun v4 => (if v4 = 0 then some ((0, v1.2)) else some ((1, v1.2)))) else some ((0, v1.2))))
theorem j_X8_wasReversed (la : Launch) (hla : la.flags = flags0) (G : k_G) (σ : k_S) (i0 : Nat) (a1 : Int32) (x : (Int32 × k_S)) (hoc : f_X8_wasReversed σ i0 a1 = some x) : k_Ct la G yX8_wasReversed (k_ws yX8_wasReversed cX8_wasReversed 2 (Option.some ClassFile.FieldType.boolean)) { frames := 3, cells := 0, slots := 0, locals := 65 } [k_p 1 (i0), k_i (a1)] σ (.inl (k_mI x.1, x.2)) 0 0 := by
  refine k_body hla (by decide +kernel) (k_wl rfl) (Nat.le_of_ble_eq_true rfl) (fun X h hEn hMe => ?_)
  show k_W X σ 0 0 0 [some (k_p 1 (i0)), some (k_i (a1))] []
  unfold f_X8_wasReversed at hoc
  refine r_aload_n h dX8_wasReversed_0 rfl ?_
  refine r_iload_n h dX8_wasReversed_1 rfl ?_
  obtain ⟨v1, q2, hoc⟩ := k_ob hoc
  refine r_callV h hMe (rest := []) (as := [k_i (a1)]) (oc := .inl (k_mI v1.1, v1.2)) (j_X8_isNone la hla G _ (i0) (a1) _ q2) kl_X8_169 dX8_wasReversed_2 rfl rfl rfl rfl rfl ⟨rfl, rfl, Nat.le_of_ble_eq_true rfl, Nat.le_of_ble_eq_true rfl, Nat.le_of_ble_eq_true rfl, Nat.le_of_ble_eq_true rfl, Nat.le_of_ble_eq_true rfl⟩ (fun E q => by cases q) (fun r s q => ?_)
  cases q
  show k_W X _ _ _ _ _ ([k_i (v1.1)])
  refine r_if_ne (tgt := 20) h dX8_wasReversed_5 (by decide) (fun c3 => ?_) (fun c3 => ?_)
  · replace hoc := (if_neg c3).symm.trans hoc
    refine r_iconst (v := 0) h dX8_wasReversed_20 (by decide) ?_
    cases hoc
    exact r_ireturn h hEn dX8_wasReversed_21 rfl (by decide) rfl (by decide) (by decide)
  · replace hoc := (if_pos c3).symm.trans hoc
    refine r_aload_n h dX8_wasReversed_8 rfl ?_
    refine r_iload_n h dX8_wasReversed_9 rfl ?_
    obtain ⟨v4, q5, hoc⟩ := k_ob hoc
    refine r_callV h hMe (rest := []) (as := [k_i (a1)]) (oc := .inl (k_mI v4, v1.2)) (j_X8_isReversed la hla G _ (i0) (a1) _ q5) kl_X8_188 dX8_wasReversed_10 rfl rfl rfl rfl rfl ⟨rfl, rfl, Nat.le_of_ble_eq_true rfl, Nat.le_of_ble_eq_true rfl, Nat.le_of_ble_eq_true rfl, Nat.le_of_ble_eq_true rfl, Nat.le_of_ble_eq_true rfl⟩ (fun E q => by cases q) (fun r s q => ?_)
    cases q
    show k_W X _ _ _ _ _ ([k_i (v4)])
    refine r_if_eq (tgt := 20) h dX8_wasReversed_13 (by decide) (fun c6 => ?_) (fun c6 => ?_)
    · replace hoc := (if_pos c6).symm.trans hoc
      refine r_iconst (v := 0) h dX8_wasReversed_20 (by decide) ?_
      cases hoc
      exact r_ireturn h hEn dX8_wasReversed_21 rfl (by decide) rfl (by decide) (by decide)
    · replace hoc := (if_neg c6).symm.trans hoc
      refine r_iconst (v := 1) h dX8_wasReversed_16 (by decide) ?_
      refine r_goto (tgt := 21) h dX8_wasReversed_17 (by decide) ?_
      cases hoc
      exact r_ireturn h hEn dX8_wasReversed_21 rfl (by decide) rfl (by decide) (by decide)
def f_X8_today (σ : k_S) (i0 : Nat) : Option (Int32 × k_S) :=
  some ((k_I σ 1 (i0) (14), (k_uI σ 1 (i0) (0) (0))))
theorem j_X8_today (la : Launch) (hla : la.flags = flags0) (G : k_G) (σ : k_S) (i0 : Nat) (x : (Int32 × k_S)) (hoc : f_X8_today σ i0 = some x) : k_Ct la G yX8_today (k_ws yX8_today cX8_today 1 (Option.some ClassFile.FieldType.int)) { frames := 0, cells := 0, slots := 0, locals := 1 } [k_p 1 (i0)] σ (.inl (k_mI x.1, x.2)) 0 0 := by
  refine k_body hla (by decide +kernel) (k_wl rfl) (Nat.le_of_ble_eq_true rfl) (fun X h hEn hMe => ?_)
  show k_W X σ 0 0 0 [some (k_p 1 (i0))] []
  unfold f_X8_today at hoc
  refine r_aload_n h dX8_today_0 rfl ?_
  refine r_iconst (v := 0) h dX8_today_1 (by decide) ?_
  refine r_putI (x := 0) h kp_X8_84 dX8_today_2 rfl rfl (by decide) rfl rfl (k_fit_int _) ?_
  refine r_aload_n h dX8_today_5 rfl ?_
  refine r_getI h kf_X8_100 dX8_today_6 rfl rfl (by decide) rfl ?_
  refine r_eqI (k_I_k (by decide)) ?_
  cases hoc
  exact r_ireturn h hEn dX8_today_9 rfl rfl rfl (by decide) (by decide)
def f_X8_pass_l2 (t : Nat) (i0 : Nat) (a1 : Int32) (b3 : Int32) (σ : k_S) (x2 : Int32) (x4 : Int32) : Option (Int32 × Int32 × k_S) := match t with
  | 0 => none
  | t + 1 => (if k_I σ 1 (i0) (28) ≤ x4 then some ((x2, x4, σ)) else ((f_X8_includes σ (i0) (x4) (k_I σ 1 (i0) (14))).bind fun v7 => (if v7 = 0 then ((f_X8_includes (k_uJ σ 1 (i0) (32) ((k_J σ 1 (i0) (32) + 0))) (i0) (x4) (k_I σ 1 (i0) (14))).bind fun v10 => (if v10 = 0 then f_X8_pass_l2 t i0 a1 b3 (k_uJ σ 1 (i0) (32) ((k_J σ 1 (i0) (32) + 0))) ((x2 + 0)) ((x4 + 1)) else ((k_P σ 1 (i0) (23)).bind fun j13 => (if 0 ≤ x4 ∧ (x4).toNatClampNeg < 20 then (if k_I σ 37 (j13) ((x4).toNatClampNeg) = (k_I σ 1 (i0) (14) + 1) then f_X8_pass_l2 t i0 a1 b3 (k_uJ σ 1 (i0) (32) ((k_J σ 1 (i0) (32) + 0))) ((x2 + 1)) ((x4 + 1)) else f_X8_pass_l2 t i0 a1 b3 (k_uJ σ 1 (i0) (32) ((k_J σ 1 (i0) (32) + 0))) ((x2 + 0)) ((x4 + 1))) else none)))) else ((f_X8_includes (k_uJ σ 1 (i0) (32) ((k_J σ 1 (i0) (32) + 1))) (i0) (x4) (k_I σ 1 (i0) (14))).bind fun v17 => (if v17 = 0 then f_X8_pass_l2 t i0 a1 b3 (k_uJ σ 1 (i0) (32) ((k_J σ 1 (i0) (32) + 1))) ((x2 + 0)) ((x4 + 1)) else ((k_P σ 1 (i0) (23)).bind fun j20 => (if 0 ≤ x4 ∧ (x4).toNatClampNeg < 20 then (if k_I σ 37 (j20) ((x4).toNatClampNeg) = (k_I σ 1 (i0) (14) + 1) then f_X8_pass_l2 t i0 a1 b3 (k_uJ σ 1 (i0) (32) ((k_J σ 1 (i0) (32) + 1))) ((x2 + 1)) ((x4 + 1)) else f_X8_pass_l2 t i0 a1 b3 (k_uJ σ 1 (i0) (32) ((k_J σ 1 (i0) (32) + 1))) ((x2 + 0)) ((x4 + 1))) else none)))))))
theorem j_X8_pass_l2 (la : Launch) (hla : la.flags = flags0) (G : k_G) (X : k_X) (σ0 : k_S) (h : k_Ok X RX8 cX8_pass 5) (hMe : k_Me X la G σ0 { frames := 2, cells := 0, slots := 0, locals := 45 } "pass") (i0 : Nat) (a1 : Int32) (b3 : Int32) : ∀ (t : Nat) (σ : k_S) (x2 : Int32) (x4 : Int32) (e : (Int32 × Int32 × k_S)), f_X8_pass_l2 t i0 a1 b3 σ x2 x4 = some e → k_W X e.2.2 0 0 130 [some (k_p 1 (i0)), some (k_i (a1)), some (k_i (e.1)), some (k_i (b3)), some (k_i (e.2.1))] [] → k_W X σ 0 0 51 [some (k_p 1 (i0)), some (k_i (a1)), some (k_i (x2)), some (k_i (b3)), some (k_i (x4))] [] := by
  intro t
  induction t with
  | zero =>
    intro σ x2 x4 e hoc kk
    cases hoc
  | succ t ih =>
    intro σ x2 x4 e hoc kk
    rw [f_X8_pass_l2] at hoc
    refine r_iload h dX8_pass_51 rfl ?_
    refine r_aload_n h dX8_pass_53 rfl ?_
    refine r_getI h kf_X8_97 dX8_pass_54 rfl rfl (by decide) rfl ?_
    refine r_icmp_ge (tgt := 130) h dX8_pass_57 (by decide) (fun c6 => ?_) (fun c6 => ?_)
    · replace hoc := (if_pos c6).symm.trans hoc
      cases hoc
      exact kk
    · replace hoc := (if_neg c6).symm.trans hoc
      refine r_aload_n h dX8_pass_60 rfl ?_
      refine r_dup h dX8_pass_61 rfl ?_
      refine r_getJ h kf_X8_191 dX8_pass_62 rfl rfl (by decide) rfl ?_
      refine r_aload_n h dX8_pass_65 rfl ?_
      refine r_iload h dX8_pass_66 rfl ?_
      refine r_aload_n h dX8_pass_68 rfl ?_
      refine r_getI h kf_X8_100 dX8_pass_69 rfl rfl (by decide) rfl ?_
      obtain ⟨v7, q8, hoc⟩ := k_ob hoc
      refine r_callV h hMe (rest := [k_l (k_J σ 1 (i0) (32)), k_p 1 (i0)]) (as := [k_i (x4), k_i (k_I σ 1 (i0) (14))]) (oc := .inl (k_mI v7, σ)) (j_X8_includes la hla G _ (i0) (x4) (k_I σ 1 (i0) (14)) _ q8) kl_X8_137 dX8_pass_72 rfl rfl rfl rfl rfl ⟨rfl, rfl, Nat.le_of_ble_eq_true rfl, Nat.le_of_ble_eq_true rfl, Nat.le_of_ble_eq_true rfl, Nat.le_of_ble_eq_true rfl, Nat.le_of_ble_eq_true rfl⟩ (fun E q => by cases q) (fun r s q => ?_)
      cases q
      show k_W X _ _ _ _ _ ([k_i (v7), k_l (k_J σ 1 (i0) (32)), k_p 1 (i0)])
      refine r_if_eq (tgt := 82) h dX8_pass_75 (by decide) (fun c9 => ?_) (fun c9 => ?_)
      · replace hoc := (if_pos c9).symm.trans hoc
        refine r_lconst (v := 0) h dX8_pass_82 (by decide) ?_
        refine r_ladd h dX8_pass_83 ?_
        refine r_putJ (x := (k_J σ 1 (i0) (32) + 0)) h kp_X8_191 dX8_pass_84 rfl rfl (by decide) rfl ?_
        refine r_iload_n h dX8_pass_87 rfl ?_
        refine r_aload_n h dX8_pass_88 rfl ?_
        refine r_iload h dX8_pass_89 rfl ?_
        refine r_aload_n h dX8_pass_91 rfl ?_
        refine r_getI h kf_X8_100 dX8_pass_92 rfl rfl (by decide) rfl ?_
        refine r_eqI rfl ?_
        obtain ⟨v10, q11, hoc⟩ := k_ob hoc
        refine r_callV h hMe (rest := [k_i (x2)]) (as := [k_i (x4), k_i (k_I σ 1 (i0) (14))]) (oc := .inl (k_mI v10, (k_uJ σ 1 (i0) (32) ((k_J σ 1 (i0) (32) + 0))))) (j_X8_includes la hla G _ (i0) (x4) (k_I σ 1 (i0) (14)) _ q11) kl_X8_137 dX8_pass_95 rfl rfl rfl rfl rfl ⟨rfl, rfl, Nat.le_of_ble_eq_true rfl, Nat.le_of_ble_eq_true rfl, Nat.le_of_ble_eq_true rfl, Nat.le_of_ble_eq_true rfl, Nat.le_of_ble_eq_true rfl⟩ (fun E q => by cases q) (fun r s q => ?_)
        cases q
        show k_W X _ _ _ _ _ ([k_i (v10), k_i (x2)])
        refine r_if_eq (tgt := 121) h dX8_pass_98 (by decide) (fun c12 => ?_) (fun c12 => ?_)
        · replace hoc := (if_pos c12).symm.trans hoc
          refine r_iconst (v := 0) h dX8_pass_121 (by decide) ?_
          refine r_iadd h dX8_pass_122 ?_
          refine r_istore_n (L' := [some (k_p 1 (i0)), some (k_i (a1)), some (k_i ((x2 + 0))), some (k_i (b3)), some (k_i (x4))]) h dX8_pass_123 (by decide) rfl ?_
          refine r_iinc (v := (x4 + 1)) (L' := [some (k_p 1 (i0)), some (k_i (a1)), some (k_i ((x2 + 0))), some (k_i (b3)), some (k_i ((x4 + 1)))]) h dX8_pass_124 rfl rfl (by decide) rfl ?_
          refine r_goto (tgt := 51) h dX8_pass_127 (by decide) ?_
          exact r_forget (L' := [some (k_p 1 (i0)), some (k_i (a1)), some (k_i ((x2 + 0))), some (k_i (b3)), some (k_i ((x4 + 1)))]) (k_le_ok ⟨rfl, ⟨rfl, ⟨rfl, ⟨rfl, ⟨rfl, trivial⟩⟩⟩⟩⟩) (ih (k_uJ σ 1 (i0) (32) ((k_J σ 1 (i0) (32) + 0))) ((x2 + 0)) ((x4 + 1)) _ hoc kk)
        · replace hoc := (if_neg c12).symm.trans hoc
          refine r_aload_n h dX8_pass_101 rfl ?_
          obtain ⟨j13, q14, hoc⟩ := k_ob hoc
          refine r_getR h kf_X8_66 dX8_pass_102 rfl rfl (by decide) rfl (Eq.trans rfl q14) ?_
          refine r_iload h dX8_pass_105 rfl ?_
          obtain ⟨c15, hoc⟩ := k_gd hoc
          refine r_iaload (y := (x4).toNatClampNeg) (t := 0) h dX8_pass_107 rfl rfl rfl (k_xx c15.1) c15.2 (by decide) ?_
          refine r_eqI rfl ?_
          refine r_aload_n h dX8_pass_108 rfl ?_
          refine r_getI h kf_X8_100 dX8_pass_109 rfl rfl (by decide) rfl ?_
          refine r_eqI rfl ?_
          refine r_iconst (v := 1) h dX8_pass_112 (by decide) ?_
          refine r_iadd h dX8_pass_113 ?_
          refine r_icmp_ne (tgt := 121) h dX8_pass_114 (by decide) (fun c16 => ?_) (fun c16 => ?_)
          · replace hoc := (if_neg c16).symm.trans hoc
            refine r_iconst (v := 0) h dX8_pass_121 (by decide) ?_
            refine r_iadd h dX8_pass_122 ?_
            refine r_istore_n (L' := [some (k_p 1 (i0)), some (k_i (a1)), some (k_i ((x2 + 0))), some (k_i (b3)), some (k_i (x4))]) h dX8_pass_123 (by decide) rfl ?_
            refine r_iinc (v := (x4 + 1)) (L' := [some (k_p 1 (i0)), some (k_i (a1)), some (k_i ((x2 + 0))), some (k_i (b3)), some (k_i ((x4 + 1)))]) h dX8_pass_124 rfl rfl (by decide) rfl ?_
            refine r_goto (tgt := 51) h dX8_pass_127 (by decide) ?_
            exact r_forget (L' := [some (k_p 1 (i0)), some (k_i (a1)), some (k_i ((x2 + 0))), some (k_i (b3)), some (k_i ((x4 + 1)))]) (k_le_ok ⟨rfl, ⟨rfl, ⟨rfl, ⟨rfl, ⟨rfl, trivial⟩⟩⟩⟩⟩) (ih (k_uJ σ 1 (i0) (32) ((k_J σ 1 (i0) (32) + 0))) ((x2 + 0)) ((x4 + 1)) _ hoc kk)
          · replace hoc := (if_pos c16).symm.trans hoc
            refine r_iconst (v := 1) h dX8_pass_117 (by decide) ?_
            refine r_goto (tgt := 122) h dX8_pass_118 (by decide) ?_
            refine r_iadd h dX8_pass_122 ?_
            refine r_istore_n (L' := [some (k_p 1 (i0)), some (k_i (a1)), some (k_i ((x2 + 1))), some (k_i (b3)), some (k_i (x4))]) h dX8_pass_123 (by decide) rfl ?_
            refine r_iinc (v := (x4 + 1)) (L' := [some (k_p 1 (i0)), some (k_i (a1)), some (k_i ((x2 + 1))), some (k_i (b3)), some (k_i ((x4 + 1)))]) h dX8_pass_124 rfl rfl (by decide) rfl ?_
            refine r_goto (tgt := 51) h dX8_pass_127 (by decide) ?_
            exact r_forget (L' := [some (k_p 1 (i0)), some (k_i (a1)), some (k_i ((x2 + 1))), some (k_i (b3)), some (k_i ((x4 + 1)))]) (k_le_ok ⟨rfl, ⟨rfl, ⟨rfl, ⟨rfl, ⟨rfl, trivial⟩⟩⟩⟩⟩) (ih (k_uJ σ 1 (i0) (32) ((k_J σ 1 (i0) (32) + 0))) ((x2 + 1)) ((x4 + 1)) _ hoc kk)
      · replace hoc := (if_neg c9).symm.trans hoc
        refine r_lconst (v := 1) h dX8_pass_78 (by decide) ?_
        refine r_goto (tgt := 83) h dX8_pass_79 (by decide) ?_
        refine r_ladd h dX8_pass_83 ?_
        refine r_putJ (x := (k_J σ 1 (i0) (32) + 1)) h kp_X8_191 dX8_pass_84 rfl rfl (by decide) rfl ?_
        refine r_iload_n h dX8_pass_87 rfl ?_
        refine r_aload_n h dX8_pass_88 rfl ?_
        refine r_iload h dX8_pass_89 rfl ?_
        refine r_aload_n h dX8_pass_91 rfl ?_
        refine r_getI h kf_X8_100 dX8_pass_92 rfl rfl (by decide) rfl ?_
        refine r_eqI rfl ?_
        obtain ⟨v17, q18, hoc⟩ := k_ob hoc
        refine r_callV h hMe (rest := [k_i (x2)]) (as := [k_i (x4), k_i (k_I σ 1 (i0) (14))]) (oc := .inl (k_mI v17, (k_uJ σ 1 (i0) (32) ((k_J σ 1 (i0) (32) + 1))))) (j_X8_includes la hla G _ (i0) (x4) (k_I σ 1 (i0) (14)) _ q18) kl_X8_137 dX8_pass_95 rfl rfl rfl rfl rfl ⟨rfl, rfl, Nat.le_of_ble_eq_true rfl, Nat.le_of_ble_eq_true rfl, Nat.le_of_ble_eq_true rfl, Nat.le_of_ble_eq_true rfl, Nat.le_of_ble_eq_true rfl⟩ (fun E q => by cases q) (fun r s q => ?_)
        cases q
        show k_W X _ _ _ _ _ ([k_i (v17), k_i (x2)])
        refine r_if_eq (tgt := 121) h dX8_pass_98 (by decide) (fun c19 => ?_) (fun c19 => ?_)
        · replace hoc := (if_pos c19).symm.trans hoc
          refine r_iconst (v := 0) h dX8_pass_121 (by decide) ?_
          refine r_iadd h dX8_pass_122 ?_
          refine r_istore_n (L' := [some (k_p 1 (i0)), some (k_i (a1)), some (k_i ((x2 + 0))), some (k_i (b3)), some (k_i (x4))]) h dX8_pass_123 (by decide) rfl ?_
          refine r_iinc (v := (x4 + 1)) (L' := [some (k_p 1 (i0)), some (k_i (a1)), some (k_i ((x2 + 0))), some (k_i (b3)), some (k_i ((x4 + 1)))]) h dX8_pass_124 rfl rfl (by decide) rfl ?_
          refine r_goto (tgt := 51) h dX8_pass_127 (by decide) ?_
          exact r_forget (L' := [some (k_p 1 (i0)), some (k_i (a1)), some (k_i ((x2 + 0))), some (k_i (b3)), some (k_i ((x4 + 1)))]) (k_le_ok ⟨rfl, ⟨rfl, ⟨rfl, ⟨rfl, ⟨rfl, trivial⟩⟩⟩⟩⟩) (ih (k_uJ σ 1 (i0) (32) ((k_J σ 1 (i0) (32) + 1))) ((x2 + 0)) ((x4 + 1)) _ hoc kk)
        · replace hoc := (if_neg c19).symm.trans hoc
          refine r_aload_n h dX8_pass_101 rfl ?_
          obtain ⟨j20, q21, hoc⟩ := k_ob hoc
          refine r_getR h kf_X8_66 dX8_pass_102 rfl rfl (by decide) rfl (Eq.trans rfl q21) ?_
          refine r_iload h dX8_pass_105 rfl ?_
          obtain ⟨c22, hoc⟩ := k_gd hoc
          refine r_iaload (y := (x4).toNatClampNeg) (t := 0) h dX8_pass_107 rfl rfl rfl (k_xx c22.1) c22.2 (by decide) ?_
          refine r_eqI rfl ?_
          refine r_aload_n h dX8_pass_108 rfl ?_
          refine r_getI h kf_X8_100 dX8_pass_109 rfl rfl (by decide) rfl ?_
          refine r_eqI rfl ?_
          refine r_iconst (v := 1) h dX8_pass_112 (by decide) ?_
          refine r_iadd h dX8_pass_113 ?_
          refine r_icmp_ne (tgt := 121) h dX8_pass_114 (by decide) (fun c23 => ?_) (fun c23 => ?_)
          · replace hoc := (if_neg c23).symm.trans hoc
            refine r_iconst (v := 0) h dX8_pass_121 (by decide) ?_
            refine r_iadd h dX8_pass_122 ?_
            refine r_istore_n (L' := [some (k_p 1 (i0)), some (k_i (a1)), some (k_i ((x2 + 0))), some (k_i (b3)), some (k_i (x4))]) h dX8_pass_123 (by decide) rfl ?_
            refine r_iinc (v := (x4 + 1)) (L' := [some (k_p 1 (i0)), some (k_i (a1)), some (k_i ((x2 + 0))), some (k_i (b3)), some (k_i ((x4 + 1)))]) h dX8_pass_124 rfl rfl (by decide) rfl ?_
            refine r_goto (tgt := 51) h dX8_pass_127 (by decide) ?_
            exact r_forget (L' := [some (k_p 1 (i0)), some (k_i (a1)), some (k_i ((x2 + 0))), some (k_i (b3)), some (k_i ((x4 + 1)))]) (k_le_ok ⟨rfl, ⟨rfl, ⟨rfl, ⟨rfl, ⟨rfl, trivial⟩⟩⟩⟩⟩) (ih (k_uJ σ 1 (i0) (32) ((k_J σ 1 (i0) (32) + 1))) ((x2 + 0)) ((x4 + 1)) _ hoc kk)
          · replace hoc := (if_pos c23).symm.trans hoc
            refine r_iconst (v := 1) h dX8_pass_117 (by decide) ?_
            refine r_goto (tgt := 122) h dX8_pass_118 (by decide) ?_
            refine r_iadd h dX8_pass_122 ?_
            refine r_istore_n (L' := [some (k_p 1 (i0)), some (k_i (a1)), some (k_i ((x2 + 1))), some (k_i (b3)), some (k_i (x4))]) h dX8_pass_123 (by decide) rfl ?_
            refine r_iinc (v := (x4 + 1)) (L' := [some (k_p 1 (i0)), some (k_i (a1)), some (k_i ((x2 + 1))), some (k_i (b3)), some (k_i ((x4 + 1)))]) h dX8_pass_124 rfl rfl (by decide) rfl ?_
            refine r_goto (tgt := 51) h dX8_pass_127 (by decide) ?_
            exact r_forget (L' := [some (k_p 1 (i0)), some (k_i (a1)), some (k_i ((x2 + 1))), some (k_i (b3)), some (k_i ((x4 + 1)))]) (k_le_ok ⟨rfl, ⟨rfl, ⟨rfl, ⟨rfl, ⟨rfl, trivial⟩⟩⟩⟩⟩) (ih (k_uJ σ 1 (i0) (32) ((k_J σ 1 (i0) (32) + 1))) ((x2 + 1)) ((x4 + 1)) _ hoc kk)
def f_X8_pass_l1 (t : Nat) (i0 : Nat) (a1 : Int32) (σ : k_S) (x2 : Int32) (x3 : Int32) : Option (Int32 × Int32 × k_S) := match t with
  | 0 => none
  | t + 1 => (if a1 ≤ x3 then some ((x2, x3, σ)) else ((f_X8_pass_l2 200 i0 a1 (x3) σ (x2) (0)).bind fun v24 => f_X8_pass_l1 t i0 a1 (k_uI v24.2.2 1 (i0) (14) ((k_I v24.2.2 1 (i0) (14) + 1))) (v24.1) ((x3 + 1))))
theorem j_X8_pass_l1 (la : Launch) (hla : la.flags = flags0) (G : k_G) (X : k_X) (σ0 : k_S) (h : k_Ok X RX8 cX8_pass 5) (hMe : k_Me X la G σ0 { frames := 2, cells := 0, slots := 0, locals := 45 } "pass") (i0 : Nat) (a1 : Int32) : ∀ (t : Nat) (σ : k_S) (x2 : Int32) (x3 : Int32) (e : (Int32 × Int32 × k_S)), f_X8_pass_l1 t i0 a1 σ x2 x3 = some e → k_W X e.2.2 0 0 146 [some (k_p 1 (i0)), some (k_i (a1)), some (k_i (e.1)), some (k_i (e.2.1)), none] [] → k_W X σ 0 0 43 [some (k_p 1 (i0)), some (k_i (a1)), some (k_i (x2)), some (k_i (x3)), none] [] := by
  intro t
  induction t with
  | zero =>
    intro σ x2 x3 e hoc kk
    cases hoc
  | succ t ih =>
    intro σ x2 x3 e hoc kk
    rw [f_X8_pass_l1] at hoc
    refine r_iload_n h dX8_pass_43 rfl ?_
    refine r_iload_n h dX8_pass_44 rfl ?_
    refine r_icmp_ge (tgt := 146) h dX8_pass_45 (by decide) (fun c5 => ?_) (fun c5 => ?_)
    · replace hoc := (if_pos c5).symm.trans hoc
      cases hoc
      exact kk
    · replace hoc := (if_neg c5).symm.trans hoc
      refine r_iconst (v := 0) h dX8_pass_48 (by decide) ?_
      refine r_istore (L' := [some (k_p 1 (i0)), some (k_i (a1)), some (k_i (x2)), some (k_i (x3)), some (k_i (0))]) h dX8_pass_49 (by decide) rfl ?_
      obtain ⟨v24, q25, hoc⟩ := k_ob hoc
      refine j_X8_pass_l2 la hla G X σ0 h hMe i0 a1 (x3) 200 σ (x2) (0) _ q25 ?_
      refine r_aload_n h dX8_pass_130 rfl ?_
      refine r_dup h dX8_pass_131 rfl ?_
      refine r_getI h kf_X8_100 dX8_pass_132 rfl rfl (by decide) rfl ?_
      refine r_iconst (v := 1) h dX8_pass_135 (by decide) ?_
      refine r_iadd h dX8_pass_136 ?_
      refine r_putI (x := (k_I v24.2.2 1 (i0) (14) + 1)) h kp_X8_100 dX8_pass_137 rfl rfl (by decide) rfl rfl (k_fit_int _) ?_
      refine r_iinc (v := (x3 + 1)) (L' := [some (k_p 1 (i0)), some (k_i (a1)), some (k_i (v24.1)), some (k_i ((x3 + 1))), some (k_i (v24.2.1))]) h dX8_pass_140 rfl rfl (by decide) rfl ?_
      refine r_goto (tgt := 43) h dX8_pass_143 (by decide) ?_
      exact r_forget (L' := [some (k_p 1 (i0)), some (k_i (a1)), some (k_i (v24.1)), some (k_i ((x3 + 1))), none]) (k_le_ok ⟨rfl, ⟨rfl, ⟨rfl, ⟨rfl, trivial⟩⟩⟩⟩) (ih (k_uI v24.2.2 1 (i0) (14) ((k_I v24.2.2 1 (i0) (14) + 1))) (v24.1) ((x3 + 1)) _ hoc kk)
def f_X8_pass (σ : k_S) (i0 : Nat) (a1 : Int32) : Option (Int32 × k_S) :=
  ((f_X8_isBetween (k_uI σ 1 (i0) (0) (0)) (a1) (1) (100)).bind fun v1 => (if v1 = 0 then ((f_X8_fails (k_uI σ 1 (i0) (0) (0)) (i0) (1)).bind fun v30 => some ((v30.1, v30.2))) else (if (k_I σ 1 (i0) (14) + a1) ≤ (1000 : Int32) then ((f_X8_pass_l1 200 i0 a1 (k_uI σ 1 (i0) (0) (0)) (0) (0)).bind fun v26 => some ((v26.1, v26.2.2))) else ((f_X8_fails (k_uI σ 1 (i0) (0) (0)) (i0) (2)).bind fun v28 => some ((v28.1, v28.2))))))
theorem j_X8_pass (la : Launch) (hla : la.flags = flags0) (G : k_G) (σ : k_S) (i0 : Nat) (a1 : Int32) (x : (Int32 × k_S)) (hoc : f_X8_pass σ i0 a1 = some x) : k_Ct la G yX8_pass (k_ws yX8_pass cX8_pass 5 (Option.some ClassFile.FieldType.int)) { frames := 2, cells := 0, slots := 0, locals := 45 } [k_p 1 (i0), k_i (a1)] σ (.inl (k_mI x.1, x.2)) 0 0 := by
  refine k_body hla (by decide +kernel) (k_wl rfl) (Nat.le_of_ble_eq_true rfl) (fun X h hEn hMe => ?_)
  show k_W X σ 0 0 0 [some (k_p 1 (i0)), some (k_i (a1)), none, none, none] []
  unfold f_X8_pass at hoc
  refine r_aload_n h dX8_pass_0 rfl ?_
  refine r_iconst (v := 0) h dX8_pass_1 (by decide) ?_
  refine r_putI (x := 0) h kp_X8_84 dX8_pass_2 rfl rfl (by decide) rfl rfl (k_fit_int _) ?_
  refine r_iload_n h dX8_pass_5 rfl ?_
  refine r_iconst (v := 1) h dX8_pass_6 (by decide) ?_
  refine r_bipush (v := 100) h dX8_pass_7 (by decide) ?_
  obtain ⟨v1, q2, hoc⟩ := k_ob hoc
  refine r_callS h hMe (rest := []) (as := [k_i (a1), k_i (1), k_i (100)]) (oc := .inl (k_mI v1, (k_uI σ 1 (i0) (0) (0)))) (j_X8_isBetween la hla G _ (a1) (1) (100) _ q2) kl_X8_90 dX8_pass_9 rfl rfl  ⟨rfl, rfl, Nat.le_of_ble_eq_true rfl, Nat.le_of_ble_eq_true rfl, Nat.le_of_ble_eq_true rfl, Nat.le_of_ble_eq_true rfl, Nat.le_of_ble_eq_true rfl⟩ (fun E q => by cases q) (fun r s q => ?_)
  cases q
  show k_W X _ _ _ _ _ ([k_i (v1)])
  refine r_if_ne (tgt := 21) h dX8_pass_12 (by decide) (fun c3 => ?_) (fun c3 => ?_)
  · replace hoc := (if_neg c3).symm.trans hoc
    refine r_aload_n h dX8_pass_21 rfl ?_
    refine r_getI h kf_X8_100 dX8_pass_22 rfl rfl (by decide) rfl ?_
    refine r_eqI (k_I_k (by decide)) ?_
    refine r_iload_n h dX8_pass_25 rfl ?_
    refine r_iadd h dX8_pass_26 ?_
    refine r_sipush (v := 1000) h dX8_pass_27 (by decide) ?_
    refine r_icmp_le (tgt := 39) h dX8_pass_30 (by decide) (fun c4 => ?_) (fun c4 => ?_)
    · replace hoc := (if_pos c4).symm.trans hoc
      refine r_iconst (v := 0) h dX8_pass_39 (by decide) ?_
      refine r_istore_n (L' := [some (k_p 1 (i0)), some (k_i (a1)), some (k_i (0)), none, none]) h dX8_pass_40 (by decide) rfl ?_
      refine r_iconst (v := 0) h dX8_pass_41 (by decide) ?_
      refine r_istore_n (L' := [some (k_p 1 (i0)), some (k_i (a1)), some (k_i (0)), some (k_i (0)), none]) h dX8_pass_42 (by decide) rfl ?_
      obtain ⟨v26, q27, hoc⟩ := k_ob hoc
      refine j_X8_pass_l1 la hla G X σ h hMe i0 a1 200 (k_uI σ 1 (i0) (0) (0)) (0) (0) _ q27 ?_
      refine r_iload_n h dX8_pass_146 rfl ?_
      cases hoc
      exact r_ireturn h hEn dX8_pass_147 rfl rfl rfl (by decide) (by decide)
    · replace hoc := (if_neg c4).symm.trans hoc
      refine r_aload_n h dX8_pass_33 rfl ?_
      refine r_iconst (v := 2) h dX8_pass_34 (by decide) ?_
      obtain ⟨v28, q29, hoc⟩ := k_ob hoc
      refine r_callV h hMe (rest := []) (as := [k_i (2)]) (oc := .inl (k_mI v28.1, v28.2)) (j_X8_fails la hla G _ (i0) (2) _ q29) kl_X8_103 dX8_pass_35 rfl rfl rfl rfl rfl ⟨rfl, rfl, Nat.le_of_ble_eq_true rfl, Nat.le_of_ble_eq_true rfl, Nat.le_of_ble_eq_true rfl, Nat.le_of_ble_eq_true rfl, Nat.le_of_ble_eq_true rfl⟩ (fun E q => by cases q) (fun r s q => ?_)
      cases q
      show k_W X _ _ _ _ _ ([k_i (v28.1)])
      cases hoc
      exact r_ireturn h hEn dX8_pass_38 rfl rfl rfl (by decide) (by decide)
  · replace hoc := (if_pos c3).symm.trans hoc
    refine r_aload_n h dX8_pass_15 rfl ?_
    refine r_iconst (v := 1) h dX8_pass_16 (by decide) ?_
    obtain ⟨v30, q31, hoc⟩ := k_ob hoc
    refine r_callV h hMe (rest := []) (as := [k_i (1)]) (oc := .inl (k_mI v30.1, v30.2)) (j_X8_fails la hla G _ (i0) (1) _ q31) kl_X8_103 dX8_pass_17 rfl rfl rfl rfl rfl ⟨rfl, rfl, Nat.le_of_ble_eq_true rfl, Nat.le_of_ble_eq_true rfl, Nat.le_of_ble_eq_true rfl, Nat.le_of_ble_eq_true rfl, Nat.le_of_ble_eq_true rfl⟩ (fun E q => by cases q) (fun r s q => ?_)
    cases q
    show k_W X _ _ _ _ _ ([k_i (v30.1)])
    cases hoc
    exact r_ireturn h hEn dX8_pass_20 rfl rfl rfl (by decide) (by decide)
