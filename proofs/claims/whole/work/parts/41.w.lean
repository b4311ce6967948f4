/-! ===== walks 11 (written by wip/whole/gen_walk.py, emit_walk.py) ===== -/
def f_X8_stands (σ : k_S) (i0 : Nat) (a1 : Int32) (a2 : Int32) : Option Int32 :=
  ((k_P σ 1 (i0) (24)).bind fun j1 => (if 0 ≤ a1 ∧ (a1).toNatClampNeg < 20 then (if k_I σ 38 (j1) ((a1).toNatClampNeg) = (100 : Int32) then ((k_P σ 1 (i0) (25)).bind fun j5 => (if 0 ≤ a1 ∧ (a1).toNatClampNeg < 20 then (if k_I σ 39 (j5) ((a1).toNatClampNeg) = a2 then some (1) else some (0)) else none)) else some (0)) else none))
theorem j_X8_stands (la : Launch) (hla : la.flags = flags0) (G : k_G) (σ : k_S) (i0 : Nat) (a1 : Int32) (a2 : Int32) (x : Int32) (hoc : f_X8_stands σ i0 a1 a2 = some x) : k_Ct la G yX8_stands (k_ws yX8_stands cX8_stands 3 (Option.some ClassFile.FieldType.boolean)) { frames := 0, cells := 0, slots := 0, locals := 1 } [k_p 1 (i0), k_i (a1), k_i (a2)] σ (.inl (k_mI x, σ)) 0 0 := by
  refine k_body hla (by decide +kernel) (k_wl rfl) (Nat.le_of_ble_eq_true rfl) (fun X h hEn hMe => ?_)
  show k_W X σ 0 0 0 [some (k_p 1 (i0)), some (k_i (a1)), some (k_i (a2))] []
  unfold f_X8_stands at hoc
  refine r_aload_n h dX8_stands_0 rfl ?_
  obtain ⟨j1, q2, hoc⟩ := k_ob hoc
  refine r_getR h kf_X8_69 dX8_stands_1 rfl rfl (by decide) rfl (Eq.trans rfl q2) ?_
  refine r_iload_n h dX8_stands_4 rfl ?_
  obtain ⟨c3, hoc⟩ := k_gd hoc
  refine r_caload (y := (a1).toNatClampNeg) (t := 0) h dX8_stands_5 rfl rfl rfl (k_xx c3.1) c3.2 (by decide) ?_
  refine r_bipush (v := 100) h dX8_stands_6 (by decide) ?_
  refine r_icmp_ne (tgt := 25) h dX8_stands_8 (by decide) (fun c4 => ?_) (fun c4 => ?_)
  · replace hoc := (if_neg c4).symm.trans hoc
    refine r_iconst (v := 0) h dX8_stands_25 (by decide) ?_
    cases hoc
    exact r_ireturn h hEn dX8_stands_26 rfl (by decide) rfl (by decide) (by decide)
  · replace hoc := (if_pos c4).symm.trans hoc
    refine r_aload_n h dX8_stands_11 rfl ?_
    obtain ⟨j5, q6, hoc⟩ := k_ob hoc
    refine r_getR h kf_X8_73 dX8_stands_12 rfl rfl (by decide) rfl (Eq.trans rfl q6) ?_
    refine r_iload_n h dX8_stands_15 rfl ?_
    obtain ⟨c7, hoc⟩ := k_gd hoc
    refine r_caload (y := (a1).toNatClampNeg) (t := 0) h dX8_stands_16 rfl rfl rfl (k_xx c7.1) c7.2 (by decide) ?_
    refine r_iload_n h dX8_stands_17 rfl ?_
    refine r_icmp_ne (tgt := 25) h dX8_stands_18 (by decide) (fun c8 => ?_) (fun c8 => ?_)
    · replace hoc := (if_neg c8).symm.trans hoc
      refine r_iconst (v := 0) h dX8_stands_25 (by decide) ?_
      cases hoc
      exact r_ireturn h hEn dX8_stands_26 rfl (by decide) rfl (by decide) (by decide)
    · replace hoc := (if_pos c8).symm.trans hoc
      refine r_iconst (v := 1) h dX8_stands_21 (by decide) ?_
      refine r_goto (tgt := 26) h dX8_stands_22 (by decide) ?_
      cases hoc
      exact r_ireturn h hEn dX8_stands_26 rfl (by decide) rfl (by decide) (by decide)
def f_X8_includes (σ : k_S) (i0 : Nat) (a1 : Int32) (a2 : Int32) : Option Int32 :=
  ((f_X8_stands σ (i0) (a1) (103)).bind fun v1 => (if v1 = 0 then some (0) else ((k_P σ 1 (i0) (22)).bind fun j4 => (if 0 ≤ a1 ∧ (a1).toNatClampNeg < 20 then ((k_P σ 1 (i0) (23)).bind fun j7 => (if 0 ≤ a1 ∧ (a1).toNatClampNeg < 20 then ((f_X8_isBetween σ (a2) (k_I σ 36 (j4) ((a1).toNatClampNeg)) ((k_I σ 37 (j7) ((a1).toNatClampNeg) - 1))).bind fun v10 => (if v10 = 0 then some (0) else some (1))) else none)) else none))))
theorem j_X8_includes (la : Launch) (hla : la.flags = flags0) (G : k_G) (σ : k_S) (i0 : Nat) (a1 : Int32) (a2 : Int32) (x : Int32) (hoc : f_X8_includes σ i0 a1 a2 = some x) : k_Ct la G yX8_includes (k_ws yX8_includes cX8_includes 3 (Option.some ClassFile.FieldType.boolean)) { frames := 1, cells := 0, slots := 0, locals := 23 } [k_p 1 (i0), k_i (a1), k_i (a2)] σ (.inl (k_mI x, σ)) 0 0 := by
  refine k_body hla (by decide +kernel) (k_wl rfl) (Nat.le_of_ble_eq_true rfl) (fun X h hEn hMe => ?_)
  show k_W X σ 0 0 0 [some (k_p 1 (i0)), some (k_i (a1)), some (k_i (a2))] []
  unfold f_X8_includes at hoc
  refine r_aload_n h dX8_includes_0 rfl ?_
  refine r_iload_n h dX8_includes_1 rfl ?_
  refine r_bipush (v := 103) h dX8_includes_2 (by decide) ?_
  obtain ⟨v1, q2, hoc⟩ := k_ob hoc
  refine r_callV h hMe (rest := []) (as := [k_i (a1), k_i (103)]) (oc := .inl (k_mI v1, σ)) (j_X8_stands la hla G _ (i0) (a1) (103) _ q2) kl_X8_133 dX8_includes_4 rfl rfl rfl rfl rfl ⟨rfl, rfl, Nat.le_of_ble_eq_true rfl, Nat.le_of_ble_eq_true rfl, Nat.le_of_ble_eq_true rfl, Nat.le_of_ble_eq_true rfl, Nat.le_of_ble_eq_true rfl⟩ (fun E q => by cases q) (fun r s q => ?_)
  cases q
  show k_W X _ _ _ _ _ ([k_i (v1)])
  refine r_if_eq (tgt := 35) h dX8_includes_7 (by decide) (fun c3 => ?_) (fun c3 => ?_)
  · replace hoc := (if_pos c3).symm.trans hoc
    refine r_iconst (v := 0) h dX8_includes_35 (by decide) ?_
    cases hoc
    exact r_ireturn h hEn dX8_includes_36 rfl (by decide) rfl (by decide) (by decide)
  · replace hoc := (if_neg c3).symm.trans hoc
    refine r_iload_n h dX8_includes_10 rfl ?_
    refine r_aload_n h dX8_includes_11 rfl ?_
    obtain ⟨j4, q5, hoc⟩ := k_ob hoc
    refine r_getR h kf_X8_63 dX8_includes_12 rfl rfl (by decide) rfl (Eq.trans rfl q5) ?_
    refine r_iload_n h dX8_includes_15 rfl ?_
    obtain ⟨c6, hoc⟩ := k_gd hoc
    refine r_iaload (y := (a1).toNatClampNeg) (t := 0) h dX8_includes_16 rfl rfl rfl (k_xx c6.1) c6.2 (by decide) ?_
    refine r_aload_n h dX8_includes_17 rfl ?_
    obtain ⟨j7, q8, hoc⟩ := k_ob hoc
    refine r_getR h kf_X8_66 dX8_includes_18 rfl rfl (by decide) rfl (Eq.trans rfl q8) ?_
    refine r_iload_n h dX8_includes_21 rfl ?_
    obtain ⟨c9, hoc⟩ := k_gd hoc
    refine r_iaload (y := (a1).toNatClampNeg) (t := 0) h dX8_includes_22 rfl rfl rfl (k_xx c9.1) c9.2 (by decide) ?_
    refine r_iconst (v := 1) h dX8_includes_23 (by decide) ?_
    refine r_isub h dX8_includes_24 ?_
    obtain ⟨v10, q11, hoc⟩ := k_ob hoc
    refine r_callS h hMe (rest := []) (as := [k_i (a2), k_i (k_I σ 36 (j4) ((a1).toNatClampNeg)), k_i ((k_I σ 37 (j7) ((a1).toNatClampNeg) - 1))]) (oc := .inl (k_mI v10, σ)) (j_X8_isBetween la hla G _ (a2) (k_I σ 36 (j4) ((a1).toNatClampNeg)) ((k_I σ 37 (j7) ((a1).toNatClampNeg) - 1)) _ q11) kl_X8_90 dX8_includes_25 rfl rfl  ⟨rfl, rfl, Nat.le_of_ble_eq_true rfl, Nat.le_of_ble_eq_true rfl, Nat.le_of_ble_eq_true rfl, Nat.le_of_ble_eq_true rfl, Nat.le_of_ble_eq_true rfl⟩ (fun E q => by cases q) (fun r s q => ?_)
    cases q
    show k_W X _ _ _ _ _ ([k_i (v10)])
    refine r_if_eq (tgt := 35) h dX8_includes_28 (by decide) (fun c12 => ?_) (fun c12 => ?_)
    · replace hoc := (if_pos c12).symm.trans hoc
      refine r_iconst (v := 0) h dX8_includes_35 (by decide) ?_
      cases hoc
      exact r_ireturn h hEn dX8_includes_36 rfl (by decide) rfl (by decide) (by decide)
    · replace hoc := (if_neg c12).symm.trans hoc
      refine r_iconst (v := 1) h dX8_includes_31 (by decide) ?_
      refine r_goto (tgt := 36) h dX8_includes_32 (by decide) ?_
      cases hoc
      exact r_ireturn h hEn dX8_includes_36 rfl (by decide) rfl (by decide) (by decide)
def f_X8_sanctionsOf_l1 (t : Nat) (i0 : Nat) (a1 : Int32) (σ : k_S) (x2 : Int32) (x3 : Int32) : Option (Int32 × Int32) := match t with
  | 0 => none
  | t + 1 => (if k_I σ 1 (i0) (28) ≤ x3 then some ((x2, x3)) else ((k_P σ 1 (i0) (16)).bind fun j2 => (if 0 ≤ x3 ∧ (x3).toNatClampNeg < 20 then (if k_I σ 30 (j2) ((x3).toNatClampNeg) = a1 then ((f_X8_includes σ (i0) (x3) (k_I σ 1 (i0) (14))).bind fun v6 => (if v6 = 0 then f_X8_sanctionsOf_l1 t i0 a1 σ ((x2 + 0)) ((x3 + 1)) else f_X8_sanctionsOf_l1 t i0 a1 σ ((x2 + 1)) ((x3 + 1)))) else f_X8_sanctionsOf_l1 t i0 a1 σ ((x2 + 0)) ((x3 + 1))) else none)))
theorem j_X8_sanctionsOf_l1 (la : Launch) (hla : la.flags = flags0) (G : k_G) (X : k_X) (σ0 σ : k_S) (h : k_Ok X RX8 cX8_sanctionsOf 4) (hMe : k_Me X la G σ0 { frames := 2, cells := 0, slots := 0, locals := 45 } "sanctionsOf") (i0 : Nat) (a1 : Int32) : ∀ (t : Nat) (x2 : Int32) (x3 : Int32) (e : (Int32 × Int32)), f_X8_sanctionsOf_l1 t i0 a1 σ x2 x3 = some e → k_W X σ 0 0 48 [some (k_p 1 (i0)), some (k_i (a1)), some (k_i (e.1)), some (k_i (e.2))] [] → k_W X σ 0 0 4 [some (k_p 1 (i0)), some (k_i (a1)), some (k_i (x2)), some (k_i (x3))] [] := by
  intro t
  induction t with
  | zero =>
    intro x2 x3 e hoc kk
    cases hoc
  | succ t ih =>
    intro x2 x3 e hoc kk
    rw [f_X8_sanctionsOf_l1] at hoc
    refine r_iload_n h dX8_sanctionsOf_4 rfl ?_
    refine r_aload_n h dX8_sanctionsOf_5 rfl ?_
    refine r_getI h kf_X8_97 dX8_sanctionsOf_6 rfl rfl (by decide) rfl ?_
    refine r_icmp_ge (tgt := 48) h dX8_sanctionsOf_9 (by decide) (fun c1 => ?_) (fun c1 => ?_)
    · replace hoc := (if_pos c1).symm.trans hoc
      cases hoc
      exact kk
    · replace hoc := (if_neg c1).symm.trans hoc
      refine r_iload_n h dX8_sanctionsOf_12 rfl ?_
      refine r_aload_n h dX8_sanctionsOf_13 rfl ?_
      obtain ⟨j2, q3, hoc⟩ := k_ob hoc
      refine r_getR h kf_X8_45 dX8_sanctionsOf_14 rfl rfl (by decide) rfl (Eq.trans rfl q3) ?_
      refine r_iload_n h dX8_sanctionsOf_17 rfl ?_
      obtain ⟨c4, hoc⟩ := k_gd hoc
      refine r_iaload (y := (x3).toNatClampNeg) (t := 0) h dX8_sanctionsOf_18 rfl rfl rfl (k_xx c4.1) c4.2 (by decide) ?_
      refine r_iload_n h dX8_sanctionsOf_19 rfl ?_
      refine r_icmp_ne (tgt := 39) h dX8_sanctionsOf_20 (by decide) (fun c5 => ?_) (fun c5 => ?_)
      · replace hoc := (if_neg c5).symm.trans hoc
        refine r_iconst (v := 0) h dX8_sanctionsOf_39 (by decide) ?_
        refine r_iadd h dX8_sanctionsOf_40 ?_
        refine r_istore_n (L' := [some (k_p 1 (i0)), some (k_i (a1)), some (k_i ((x2 + 0))), some (k_i (x3))]) h dX8_sanctionsOf_41 (by decide) rfl ?_
        refine r_iinc (v := (x3 + 1)) (L' := [some (k_p 1 (i0)), some (k_i (a1)), some (k_i ((x2 + 0))), some (k_i ((x3 + 1)))]) h dX8_sanctionsOf_42 rfl rfl (by decide) rfl ?_
        refine r_goto (tgt := 4) h dX8_sanctionsOf_45 (by decide) ?_
        exact r_forget (L' := [some (k_p 1 (i0)), some (k_i (a1)), some (k_i ((x2 + 0))), some (k_i ((x3 + 1)))]) (k_le_ok ⟨rfl, ⟨rfl, ⟨rfl, ⟨rfl, trivial⟩⟩⟩⟩) (ih ((x2 + 0)) ((x3 + 1)) _ hoc kk)
      · replace hoc := (if_pos c5).symm.trans hoc
        refine r_aload_n h dX8_sanctionsOf_23 rfl ?_
        refine r_iload_n h dX8_sanctionsOf_24 rfl ?_
        refine r_aload_n h dX8_sanctionsOf_25 rfl ?_
        refine r_getI h kf_X8_100 dX8_sanctionsOf_26 rfl rfl (by decide) rfl ?_
        obtain ⟨v6, q7, hoc⟩ := k_ob hoc
        refine r_callV h hMe (rest := [k_i (x2)]) (as := [k_i (x3), k_i (k_I σ 1 (i0) (14))]) (oc := .inl (k_mI v6, σ)) (j_X8_includes la hla G _ (i0) (x3) (k_I σ 1 (i0) (14)) _ q7) kl_X8_137 dX8_sanctionsOf_29 rfl rfl rfl rfl rfl ⟨rfl, rfl, Nat.le_of_ble_eq_true rfl, Nat.le_of_ble_eq_true rfl, Nat.le_of_ble_eq_true rfl, Nat.le_of_ble_eq_true rfl, Nat.le_of_ble_eq_true rfl⟩ (fun E q => by cases q) (fun r s q => ?_)
        cases q
        show k_W X _ _ _ _ _ ([k_i (v6), k_i (x2)])
        refine r_if_eq (tgt := 39) h dX8_sanctionsOf_32 (by decide) (fun c8 => ?_) (fun c8 => ?_)
        · replace hoc := (if_pos c8).symm.trans hoc
          refine r_iconst (v := 0) h dX8_sanctionsOf_39 (by decide) ?_
          refine r_iadd h dX8_sanctionsOf_40 ?_
          refine r_istore_n (L' := [some (k_p 1 (i0)), some (k_i (a1)), some (k_i ((x2 + 0))), some (k_i (x3))]) h dX8_sanctionsOf_41 (by decide) rfl ?_
          refine r_iinc (v := (x3 + 1)) (L' := [some (k_p 1 (i0)), some (k_i (a1)), some (k_i ((x2 + 0))), some (k_i ((x3 + 1)))]) h dX8_sanctionsOf_42 rfl rfl (by decide) rfl ?_
          refine r_goto (tgt := 4) h dX8_sanctionsOf_45 (by decide) ?_
          exact r_forget (L' := [some (k_p 1 (i0)), some (k_i (a1)), some (k_i ((x2 + 0))), some (k_i ((x3 + 1)))]) (k_le_ok ⟨rfl, ⟨rfl, ⟨rfl, ⟨rfl, trivial⟩⟩⟩⟩) (ih ((x2 + 0)) ((x3 + 1)) _ hoc kk)
        · replace hoc := (if_neg c8).symm.trans hoc
          refine r_iconst (v := 1) h dX8_sanctionsOf_35 (by decide) ?_
          refine r_goto (tgt := 40) h dX8_sanctionsOf_36 (by decide) ?_
          refine r_iadd h dX8_sanctionsOf_40 ?_
          refine r_istore_n (L' := [some (k_p 1 (i0)), some (k_i (a1)), some (k_i ((x2 + 1))), some (k_i (x3))]) h dX8_sanctionsOf_41 (by decide) rfl ?_
          refine r_iinc (v := (x3 + 1)) (L' := [some (k_p 1 (i0)), some (k_i (a1)), some (k_i ((x2 + 1))), some (k_i ((x3 + 1)))]) h dX8_sanctionsOf_42 rfl rfl (by decide) rfl ?_
          refine r_goto (tgt := 4) h dX8_sanctionsOf_45 (by decide) ?_
          exact r_forget (L' := [some (k_p 1 (i0)), some (k_i (a1)), some (k_i ((x2 + 1))), some (k_i ((x3 + 1)))]) (k_le_ok ⟨rfl, ⟨rfl, ⟨rfl, ⟨rfl, trivial⟩⟩⟩⟩) (ih ((x2 + 1)) ((x3 + 1)) _ hoc kk)
def f_X8_sanctionsOf (σ : k_S) (i0 : Nat) (a1 : Int32) : Option Int32 :=
  ((f_X8_sanctionsOf_l1 200 i0 a1 σ (0) (0)).bind fun v9 => some (v9.1))
theorem j_X8_sanctionsOf (la : Launch) (hla : la.flags = flags0) (G : k_G) (σ : k_S) (i0 : Nat) (a1 : Int32) (x : Int32) (hoc : f_X8_sanctionsOf σ i0 a1 = some x) : k_Ct la G yX8_sanctionsOf (k_ws yX8_sanctionsOf cX8_sanctionsOf 4 (Option.some ClassFile.FieldType.int)) { frames := 2, cells := 0, slots := 0, locals := 45 } [k_p 1 (i0), k_i (a1)] σ (.inl (k_mI x, σ)) 0 0 := by
  refine k_body hla (by decide +kernel) (k_wl rfl) (Nat.le_of_ble_eq_true rfl) (fun X h hEn hMe => ?_)
  show k_W X σ 0 0 0 [some (k_p 1 (i0)), some (k_i (a1)), none, none] []
  unfold f_X8_sanctionsOf at hoc
  refine r_iconst (v := 0) h dX8_sanctionsOf_0 (by decide) ?_
  refine r_istore_n (L' := [some (k_p 1 (i0)), some (k_i (a1)), some (k_i (0)), none]) h dX8_sanctionsOf_1 (by decide) rfl ?_
  refine r_iconst (v := 0) h dX8_sanctionsOf_2 (by decide) ?_
  refine r_istore_n (L' := [some (k_p 1 (i0)), some (k_i (a1)), some (k_i (0)), some (k_i (0))]) h dX8_sanctionsOf_3 (by decide) rfl ?_
  obtain ⟨v9, q10, hoc⟩ := k_ob hoc
  refine j_X8_sanctionsOf_l1 la hla G X σ σ h hMe i0 a1 200 (0) (0) _ q10 ?_
  refine r_iload_n h dX8_sanctionsOf_48 rfl ?_
  cases hoc
  exact r_ireturn h hEn dX8_sanctionsOf_49 rfl rfl rfl (by decide) (by decide)
def f_X8_sanctions (σ : k_S) (i0 : Nat) (a1 : Int32) : Option (Int32 × k_S) :=
  ((f_X8_isUser (k_uI σ 1 (i0) (0) (0)) (i0) (a1)).bind fun v1 => (if v1 = 0 then ((f_X8_fails (k_uI σ 1 (i0) (0) (0)) (i0) (1)).bind fun v4 => some ((v4.1, v4.2))) else ((f_X8_sanctionsOf (k_uI σ 1 (i0) (0) (0)) (i0) (a1)).bind fun v6 => some ((v6, (k_uI σ 1 (i0) (0) (0)))))))
theorem j_X8_sanctions (la : Launch) (hla : la.flags = flags0) (G : k_G) (σ : k_S) (i0 : Nat) (a1 : Int32) (x : (Int32 × k_S)) (hoc : f_X8_sanctions σ i0 a1 = some x) : k_Ct la G yX8_sanctions (k_ws yX8_sanctions cX8_sanctions 2 (Option.some ClassFile.FieldType.int)) { frames := 3, cells := 0, slots := 0, locals := 68 } [k_p 1 (i0), k_i (a1)] σ (.inl (k_mI x.1, x.2)) 0 0 := by
  refine k_body hla (by decide +kernel) (k_wl rfl) (Nat.le_of_ble_eq_true rfl) (fun X h hEn hMe => ?_)
  show k_W X σ 0 0 0 [some (k_p 1 (i0)), some (k_i (a1))] []
  unfold f_X8_sanctions at hoc
  refine r_aload_n h dX8_sanctions_0 rfl ?_
  refine r_iconst (v := 0) h dX8_sanctions_1 (by decide) ?_
  refine r_putI (x := 0) h kp_X8_84 dX8_sanctions_2 rfl rfl (by decide) rfl rfl (k_fit_int _) ?_
  refine r_aload_n h dX8_sanctions_5 rfl ?_
  refine r_iload_n h dX8_sanctions_6 rfl ?_
  obtain ⟨v1, q2, hoc⟩ := k_ob hoc
  refine r_callV h hMe (rest := []) (as := [k_i (a1)]) (oc := .inl (k_mI v1, (k_uI σ 1 (i0) (0) (0)))) (j_X8_isUser la hla G _ (i0) (a1) _ q2) kl_X8_130 dX8_sanctions_7 rfl rfl rfl rfl rfl ⟨rfl, rfl, Nat.le_of_ble_eq_true rfl, Nat.le_of_ble_eq_true rfl, Nat.le_of_ble_eq_true rfl, Nat.le_of_ble_eq_true rfl, Nat.le_of_ble_eq_true rfl⟩ (fun E q => by cases q) (fun r s q => ?_)
  cases q
  show k_W X _ _ _ _ _ ([k_i (v1)])
  refine r_if_eq (tgt := 21) h dX8_sanctions_10 (by decide) (fun c3 => ?_) (fun c3 => ?_)
  · replace hoc := (if_pos c3).symm.trans hoc
    refine r_aload_n h dX8_sanctions_21 rfl ?_
    refine r_iconst (v := 1) h dX8_sanctions_22 (by decide) ?_
    obtain ⟨v4, q5, hoc⟩ := k_ob hoc
    refine r_callV h hMe (rest := []) (as := [k_i (1)]) (oc := .inl (k_mI v4.1, v4.2)) (j_X8_fails la hla G _ (i0) (1) _ q5) kl_X8_103 dX8_sanctions_23 rfl rfl rfl rfl rfl ⟨rfl, rfl, Nat.le_of_ble_eq_true rfl, Nat.le_of_ble_eq_true rfl, Nat.le_of_ble_eq_true rfl, Nat.le_of_ble_eq_true rfl, Nat.le_of_ble_eq_true rfl⟩ (fun E q => by cases q) (fun r s q => ?_)
    cases q
    show k_W X _ _ _ _ _ ([k_i (v4.1)])
    cases hoc
    exact r_ireturn h hEn dX8_sanctions_26 rfl rfl rfl (by decide) (by decide)
  · replace hoc := (if_neg c3).symm.trans hoc
    refine r_aload_n h dX8_sanctions_13 rfl ?_
    refine r_iload_n h dX8_sanctions_14 rfl ?_
    obtain ⟨v6, q7, hoc⟩ := k_ob hoc
    refine r_callV h hMe (rest := []) (as := [k_i (a1)]) (oc := .inl (k_mI v6, (k_uI σ 1 (i0) (0) (0)))) (j_X8_sanctionsOf la hla G _ (i0) (a1) _ q7) kl_X8_140 dX8_sanctions_15 rfl rfl rfl rfl rfl ⟨rfl, rfl, Nat.le_of_ble_eq_true rfl, Nat.le_of_ble_eq_true rfl, Nat.le_of_ble_eq_true rfl, Nat.le_of_ble_eq_true rfl, Nat.le_of_ble_eq_true rfl⟩ (fun E q => by cases q) (fun r s q => ?_)
    cases q
    show k_W X _ _ _ _ _ ([k_i (v6)])
    refine r_goto (tgt := 26) h dX8_sanctions_18 (by decide) ?_
    cases hoc
    exact r_ireturn h hEn dX8_sanctions_26 rfl rfl rfl (by decide) (by decide)
def f_X8_sanctionedUntil_l1 (t : Nat) (i0 : Nat) (a1 : Int32) (σ : k_S) (x2 : Int32) (x3 : Int32) : Option (Int32 × Int32) := match t with
  | 0 => none
  | t + 1 => (if k_I σ 1 (i0) (28) ≤ x3 then some ((x2, x3)) else ((k_P σ 1 (i0) (16)).bind fun j5 => (if 0 ≤ x3 ∧ (x3).toNatClampNeg < 20 then (if k_I σ 30 (j5) ((x3).toNatClampNeg) = a1 then ((f_X8_includes σ (i0) (x3) (k_I σ 1 (i0) (14))).bind fun v9 => (if v9 = 0 then f_X8_sanctionedUntil_l1 t i0 a1 σ (x2) ((x3 + 1)) else ((k_P σ 1 (i0) (23)).bind fun j12 => (if 0 ≤ x3 ∧ (x3).toNatClampNeg < 20 then f_X8_sanctionedUntil_l1 t i0 a1 σ ((if x2 < k_I σ 37 (j12) ((x3).toNatClampNeg) then k_I σ 37 (j12) ((x3).toNatClampNeg) else x2)) ((x3 + 1)) else none)))) else f_X8_sanctionedUntil_l1 t i0 a1 σ (x2) ((x3 + 1))) else none)))
theorem j_X8_sanctionedUntil_l1 (la : Launch) (hla : la.flags = flags0) (G : k_G) (X : k_X) (σ0 σ : k_S) (h : k_Ok X RX8 cX8_sanctionedUntil 4) (hMe : k_Me X la G σ0 { frames := 2, cells := 0, slots := 0, locals := 45 } "sanctionedUntil") (i0 : Nat) (a1 : Int32) : ∀ (t : Nat) (x2 : Int32) (x3 : Int32) (e : (Int32 × Int32)), f_X8_sanctionedUntil_l1 t i0 a1 σ x2 x3 = some e → k_W X σ 0 0 74 [some (k_p 1 (i0)), some (k_i (a1)), some (k_i (e.1)), some (k_i (e.2))] [] → k_W X σ 0 0 23 [some (k_p 1 (i0)), some (k_i (a1)), some (k_i (x2)), some (k_i (x3))] [] := by
  intro t
  induction t with
  | zero =>
    intro x2 x3 e hoc kk
    cases hoc
  | succ t ih =>
    intro x2 x3 e hoc kk
    rw [f_X8_sanctionedUntil_l1] at hoc
    refine r_iload_n h dX8_sanctionedUntil_23 rfl ?_
    refine r_aload_n h dX8_sanctionedUntil_24 rfl ?_
    refine r_getI h kf_X8_97 dX8_sanctionedUntil_25 rfl rfl (by decide) rfl ?_
    refine r_icmp_ge (tgt := 74) h dX8_sanctionedUntil_28 (by decide) (fun c4 => ?_) (fun c4 => ?_)
    · replace hoc := (if_pos c4).symm.trans hoc
      cases hoc
      exact kk
    · replace hoc := (if_neg c4).symm.trans hoc
      refine r_aload_n h dX8_sanctionedUntil_31 rfl ?_
      obtain ⟨j5, q6, hoc⟩ := k_ob hoc
      refine r_getR h kf_X8_45 dX8_sanctionedUntil_32 rfl rfl (by decide) rfl (Eq.trans rfl q6) ?_
      refine r_iload_n h dX8_sanctionedUntil_35 rfl ?_
      obtain ⟨c7, hoc⟩ := k_gd hoc
      refine r_iaload (y := (x3).toNatClampNeg) (t := 0) h dX8_sanctionedUntil_36 rfl rfl rfl (k_xx c7.1) c7.2 (by decide) ?_
      refine r_iload_n h dX8_sanctionedUntil_37 rfl ?_
      refine r_icmp_ne (tgt := 66) h dX8_sanctionedUntil_38 (by decide) (fun c8 => ?_) (fun c8 => ?_)
      · replace hoc := (if_neg c8).symm.trans hoc
        refine r_iload_n h dX8_sanctionedUntil_66 rfl ?_
        refine r_istore_n (L' := [some (k_p 1 (i0)), some (k_i (a1)), some (k_i (x2)), some (k_i (x3))]) h dX8_sanctionedUntil_67 (by decide) rfl ?_
        refine r_iinc (v := (x3 + 1)) (L' := [some (k_p 1 (i0)), some (k_i (a1)), some (k_i (x2)), some (k_i ((x3 + 1)))]) h dX8_sanctionedUntil_68 rfl rfl (by decide) rfl ?_
        refine r_goto (tgt := 23) h dX8_sanctionedUntil_71 (by decide) ?_
        exact r_forget (L' := [some (k_p 1 (i0)), some (k_i (a1)), some (k_i (x2)), some (k_i ((x3 + 1)))]) (k_le_ok ⟨rfl, ⟨rfl, ⟨rfl, ⟨rfl, trivial⟩⟩⟩⟩) (ih (x2) ((x3 + 1)) _ hoc kk)
      · replace hoc := (if_pos c8).symm.trans hoc
        refine r_aload_n h dX8_sanctionedUntil_41 rfl ?_
        refine r_iload_n h dX8_sanctionedUntil_42 rfl ?_
        refine r_aload_n h dX8_sanctionedUntil_43 rfl ?_
        refine r_getI h kf_X8_100 dX8_sanctionedUntil_44 rfl rfl (by decide) rfl ?_
        obtain ⟨v9, q10, hoc⟩ := k_ob hoc
        refine r_callV h hMe (rest := []) (as := [k_i (x3), k_i (k_I σ 1 (i0) (14))]) (oc := .inl (k_mI v9, σ)) (j_X8_includes la hla G _ (i0) (x3) (k_I σ 1 (i0) (14)) _ q10) kl_X8_137 dX8_sanctionedUntil_47 rfl rfl rfl rfl rfl ⟨rfl, rfl, Nat.le_of_ble_eq_true rfl, Nat.le_of_ble_eq_true rfl, Nat.le_of_ble_eq_true rfl, Nat.le_of_ble_eq_true rfl, Nat.le_of_ble_eq_true rfl⟩ (fun E q => by cases q) (fun r s q => ?_)
        cases q
        show k_W X _ _ _ _ _ ([k_i (v9)])
        refine r_if_eq (tgt := 66) h dX8_sanctionedUntil_50 (by decide) (fun c11 => ?_) (fun c11 => ?_)
        · replace hoc := (if_pos c11).symm.trans hoc
          refine r_iload_n h dX8_sanctionedUntil_66 rfl ?_
          refine r_istore_n (L' := [some (k_p 1 (i0)), some (k_i (a1)), some (k_i (x2)), some (k_i (x3))]) h dX8_sanctionedUntil_67 (by decide) rfl ?_
          refine r_iinc (v := (x3 + 1)) (L' := [some (k_p 1 (i0)), some (k_i (a1)), some (k_i (x2)), some (k_i ((x3 + 1)))]) h dX8_sanctionedUntil_68 rfl rfl (by decide) rfl ?_
          refine r_goto (tgt := 23) h dX8_sanctionedUntil_71 (by decide) ?_
          exact r_forget (L' := [some (k_p 1 (i0)), some (k_i (a1)), some (k_i (x2)), some (k_i ((x3 + 1)))]) (k_le_ok ⟨rfl, ⟨rfl, ⟨rfl, ⟨rfl, trivial⟩⟩⟩⟩) (ih (x2) ((x3 + 1)) _ hoc kk)
        · replace hoc := (if_neg c11).symm.trans hoc
          refine r_iload_n h dX8_sanctionedUntil_53 rfl ?_
          refine r_aload_n h dX8_sanctionedUntil_54 rfl ?_
          obtain ⟨j12, q13, hoc⟩ := k_ob hoc
          refine r_getR h kf_X8_66 dX8_sanctionedUntil_55 rfl rfl (by decide) rfl (Eq.trans rfl q13) ?_
          refine r_iload_n h dX8_sanctionedUntil_58 rfl ?_
          obtain ⟨c14, hoc⟩ := k_gd hoc
          refine r_iaload (y := (x3).toNatClampNeg) (t := 0) h dX8_sanctionedUntil_59 rfl rfl rfl (k_xx c14.1) c14.2 (by decide) ?_
          refine r_max h hMe ⟨kl_X8_114.1.1, kl_X8_114.2, kl_X8_114.1.2.1, kl_X8_114.1.2.2.1⟩ dX8_sanctionedUntil_60 ⟨Nat.le_of_ble_eq_true rfl, Nat.le_of_ble_eq_true rfl, Nat.le_of_ble_eq_true rfl, Nat.le_of_ble_eq_true rfl⟩ ?_
          refine r_goto (tgt := 67) h dX8_sanctionedUntil_63 (by decide) ?_
          refine r_istore_n (L' := [some (k_p 1 (i0)), some (k_i (a1)), some (k_i ((if x2 < k_I σ 37 (j12) ((x3).toNatClampNeg) then k_I σ 37 (j12) ((x3).toNatClampNeg) else x2))), some (k_i (x3))]) h dX8_sanctionedUntil_67 (by decide) rfl ?_
          refine r_iinc (v := (x3 + 1)) (L' := [some (k_p 1 (i0)), some (k_i (a1)), some (k_i ((if x2 < k_I σ 37 (j12) ((x3).toNatClampNeg) then k_I σ 37 (j12) ((x3).toNatClampNeg) else x2))), some (k_i ((x3 + 1)))]) h dX8_sanctionedUntil_68 rfl rfl (by decide) rfl ?_
          refine r_goto (tgt := 23) h dX8_sanctionedUntil_71 (by decide) ?_
          exact r_forget (L' := [some (k_p 1 (i0)), some (k_i (a1)), some (k_i ((if x2 < k_I σ 37 (j12) ((x3).toNatClampNeg) then k_I σ 37 (j12) ((x3).toNatClampNeg) else x2))), some (k_i ((x3 + 1)))]) (k_le_ok ⟨rfl, ⟨rfl, ⟨rfl, ⟨rfl, trivial⟩⟩⟩⟩) (ih ((if x2 < k_I σ 37 (j12) ((x3).toNatClampNeg) then k_I σ 37 (j12) ((x3).toNatClampNeg) else x2)) ((x3 + 1)) _ hoc kk)
def f_X8_sanctionedUntil (σ : k_S) (i0 : Nat) (a1 : Int32) : Option (Int32 × k_S) :=
  ((f_X8_isUser (k_uI σ 1 (i0) (0) (0)) (i0) (a1)).bind fun v1 => (if v1 = 0 then ((f_X8_fails (k_uI σ 1 (i0) (0) (0)) (i0) (1)).bind fun v20 => some ((v20.1, v20.2))) else ((f_X8_sanctionedUntil_l1 200 i0 a1 (k_uI σ 1 (i0) (0) (0)) (0) (0)).bind fun v15 => (if v15.1 = 0 then ((f_X8_fails (k_uI σ 1 (i0) (0) (0)) (i0) (2)).bind fun v18 => some ((v18.1, v18.2))) else some ((v15.1, (k_uI σ 1 (i0) (0) (0))))))))
theorem j_X8_sanctionedUntil (la : Launch) (hla : la.flags = flags0) (G : k_G) (σ : k_S) (i0 : Nat) (a1 : Int32) (x : (Int32 × k_S)) (hoc : f_X8_sanctionedUntil σ i0 a1 = some x) : k_Ct la G yX8_sanctionedUntil (k_ws yX8_sanctionedUntil cX8_sanctionedUntil 4 (Option.some ClassFile.FieldType.int)) { frames := 2, cells := 0, slots := 0, locals := 45 } [k_p 1 (i0), k_i (a1)] σ (.inl (k_mI x.1, x.2)) 0 0 := by
  refine k_body hla (by decide +kernel) (k_wl rfl) (Nat.le_of_ble_eq_true rfl) (fun X h hEn hMe => ?_)
  show k_W X σ 0 0 0 [some (k_p 1 (i0)), some (k_i (a1)), none, none] []
  unfold f_X8_sanctionedUntil at hoc
  refine r_aload_n h dX8_sanctionedUntil_0 rfl ?_
  refine r_iconst (v := 0) h dX8_sanctionedUntil_1 (by decide) ?_
  refine r_putI (x := 0) h kp_X8_84 dX8_sanctionedUntil_2 rfl rfl (by decide) rfl rfl (k_fit_int _) ?_
  refine r_aload_n h dX8_sanctionedUntil_5 rfl ?_
  refine r_iload_n h dX8_sanctionedUntil_6 rfl ?_
  obtain ⟨v1, q2, hoc⟩ := k_ob hoc
  refine r_callV h hMe (rest := []) (as := [k_i (a1)]) (oc := .inl (k_mI v1, (k_uI σ 1 (i0) (0) (0)))) (j_X8_isUser la hla G _ (i0) (a1) _ q2) kl_X8_130 dX8_sanctionedUntil_7 rfl rfl rfl rfl rfl ⟨rfl, rfl, Nat.le_of_ble_eq_true rfl, Nat.le_of_ble_eq_true rfl, Nat.le_of_ble_eq_true rfl, Nat.le_of_ble_eq_true rfl, Nat.le_of_ble_eq_true rfl⟩ (fun E q => by cases q) (fun r s q => ?_)
  cases q
  show k_W X _ _ _ _ _ ([k_i (v1)])
  refine r_if_ne (tgt := 19) h dX8_sanctionedUntil_10 (by decide) (fun c3 => ?_) (fun c3 => ?_)
  · replace hoc := (if_neg c3).symm.trans hoc
    refine r_iconst (v := 0) h dX8_sanctionedUntil_19 (by decide) ?_
    refine r_istore_n (L' := [some (k_p 1 (i0)), some (k_i (a1)), some (k_i (0)), none]) h dX8_sanctionedUntil_20 (by decide) rfl ?_
    refine r_iconst (v := 0) h dX8_sanctionedUntil_21 (by decide) ?_
    refine r_istore_n (L' := [some (k_p 1 (i0)), some (k_i (a1)), some (k_i (0)), some (k_i (0))]) h dX8_sanctionedUntil_22 (by decide) rfl ?_
    obtain ⟨v15, q16, hoc⟩ := k_ob hoc
    refine j_X8_sanctionedUntil_l1 la hla G X σ (k_uI σ 1 (i0) (0) (0)) h hMe i0 a1 200 (0) (0) _ q16 ?_
    refine r_iload_n h dX8_sanctionedUntil_74 rfl ?_
    refine r_if_ne (tgt := 86) h dX8_sanctionedUntil_75 (by decide) (fun c17 => ?_) (fun c17 => ?_)
    · replace hoc := (if_neg c17).symm.trans hoc
      refine r_iload_n h dX8_sanctionedUntil_86 rfl ?_
      cases hoc
      exact r_ireturn h hEn dX8_sanctionedUntil_87 rfl rfl rfl (by decide) (by decide)
    · replace hoc := (if_pos c17).symm.trans hoc
      refine r_aload_n h dX8_sanctionedUntil_78 rfl ?_
      refine r_iconst (v := 2) h dX8_sanctionedUntil_79 (by decide) ?_
      obtain ⟨v18, q19, hoc⟩ := k_ob hoc
      refine r_callV h hMe (rest := []) (as := [k_i (2)]) (oc := .inl (k_mI v18.1, v18.2)) (j_X8_fails la hla G _ (i0) (2) _ q19) kl_X8_103 dX8_sanctionedUntil_80 rfl rfl rfl rfl rfl ⟨rfl, rfl, Nat.le_of_ble_eq_true rfl, Nat.le_of_ble_eq_true rfl, Nat.le_of_ble_eq_true rfl, Nat.le_of_ble_eq_true rfl, Nat.le_of_ble_eq_true rfl⟩ (fun E q => by cases q) (fun r s q => ?_)
      cases q
      show k_W X _ _ _ _ _ ([k_i (v18.1)])
      refine r_goto (tgt := 87) h dX8_sanctionedUntil_83 (by decide) ?_
      cases hoc
      exact r_ireturn h hEn dX8_sanctionedUntil_87 rfl rfl rfl (by decide) (by decide)
  · replace hoc := (if_pos c3).symm.trans hoc
    refine r_aload_n h dX8_sanctionedUntil_13 rfl ?_
    refine r_iconst (v := 1) h dX8_sanctionedUntil_14 (by decide) ?_
    obtain ⟨v20, q21, hoc⟩ := k_ob hoc
    refine r_callV h hMe (rest := []) (as := [k_i (1)]) (oc := .inl (k_mI v20.1, v20.2)) (j_X8_fails la hla G _ (i0) (1) _ q21) kl_X8_103 dX8_sanctionedUntil_15 rfl rfl rfl rfl rfl ⟨rfl, rfl, Nat.le_of_ble_eq_true rfl, Nat.le_of_ble_eq_true rfl, Nat.le_of_ble_eq_true rfl, Nat.le_of_ble_eq_true rfl, Nat.le_of_ble_eq_true rfl⟩ (fun E q => by cases q) (fun r s q => ?_)
    cases q
    show k_W X _ _ _ _ _ ([k_i (v20.1)])
    cases hoc
    exact r_ireturn h hEn dX8_sanctionedUntil_18 rfl rfl rfl (by decide) (by decide)
def f_X8_addBot (σ : k_S) (i0 : Nat) (a1 : Int32) (a2 : Int32) : Option (Int32 × k_S) :=
  ((f_X8_isBetween (k_uI σ 1 (i0) (0) (0)) (a1) (0) (7)).bind fun v1 => (if v1 = 0 then ((f_X8_fails (k_uI σ 1 (i0) (0) (0)) (i0) (1)).bind fun v4 => some ((v4.1, v4.2))) else ((f_X8_isBetween (k_uI σ 1 (i0) (0) (0)) (a2) (50) (100)).bind fun v6 => (if v6 = 0 then ((f_X8_fails (k_uI σ 1 (i0) (0) (0)) (i0) (1)).bind fun v18 => some ((v18.1, v18.2))) else (if k_I σ 1 (i0) (12) = (4 : Int32) then ((f_X8_fails (k_uI σ 1 (i0) (0) (0)) (i0) (2)).bind fun v16 => some ((v16.1, v16.2))) else ((k_P σ 1 (i0) (7)).bind fun j10 => (if 0 ≤ k_I σ 1 (i0) (12) ∧ (k_I σ 1 (i0) (12)).toNatClampNeg < 4 then ((k_P σ 1 (i0) (8)).bind fun j13 => (if 0 ≤ k_I σ 1 (i0) (12) ∧ (k_I σ 1 (i0) (12)).toNatClampNeg < 4 then some ((((k_I σ 1 (i0) (12) + 1) - 1), (k_uI (k_uI (k_uI (k_uI σ 1 (i0) (0) (0)) 26 (j10) ((k_I σ 1 (i0) (12)).toNatClampNeg) (a1)) 27 (j13) ((k_I σ 1 (i0) (12)).toNatClampNeg) (a2)) 1 (i0) (12) ((k_I σ 1 (i0) (12) + 1))))) else none)) else none)))))))
theorem j_X8_addBot (la : Launch) (hla : la.flags = flags0) (G : k_G) (σ : k_S) (i0 : Nat) (a1 : Int32) (a2 : Int32) (x : (Int32 × k_S)) (hoc : f_X8_addBot σ i0 a1 a2 = some x) : k_Ct la G yX8_addBot (k_ws yX8_addBot cX8_addBot 3 (Option.some ClassFile.FieldType.int)) { frames := 1, cells := 0, slots := 0, locals := 23 } [k_p 1 (i0), k_i (a1), k_i (a2)] σ (.inl (k_mI x.1, x.2)) 0 0 := by
  refine k_body hla (by decide +kernel) (k_wl rfl) (Nat.le_of_ble_eq_true rfl) (fun X h hEn hMe => ?_)
  show k_W X σ 0 0 0 [some (k_p 1 (i0)), some (k_i (a1)), some (k_i (a2))] []
  unfold f_X8_addBot at hoc
  refine r_aload_n h dX8_addBot_0 rfl ?_
  refine r_iconst (v := 0) h dX8_addBot_1 (by decide) ?_
  refine r_putI (x := 0) h kp_X8_84 dX8_addBot_2 rfl rfl (by decide) rfl rfl (k_fit_int _) ?_
  refine r_iload_n h dX8_addBot_5 rfl ?_
  refine r_iconst (v := 0) h dX8_addBot_6 (by decide) ?_
  refine r_bipush (v := 7) h dX8_addBot_7 (by decide) ?_
  obtain ⟨v1, q2, hoc⟩ := k_ob hoc
  refine r_callS h hMe (rest := []) (as := [k_i (a1), k_i (0), k_i (7)]) (oc := .inl (k_mI v1, (k_uI σ 1 (i0) (0) (0)))) (j_X8_isBetween la hla G _ (a1) (0) (7) _ q2) kl_X8_90 dX8_addBot_9 rfl rfl  ⟨rfl, rfl, Nat.le_of_ble_eq_true rfl, Nat.le_of_ble_eq_true rfl, Nat.le_of_ble_eq_true rfl, Nat.le_of_ble_eq_true rfl, Nat.le_of_ble_eq_true rfl⟩ (fun E q => by cases q) (fun r s q => ?_)
  cases q
  show k_W X _ _ _ _ _ ([k_i (v1)])
  refine r_if_eq (tgt := 26) h dX8_addBot_12 (by decide) (fun c3 => ?_) (fun c3 => ?_)
  · replace hoc := (if_pos c3).symm.trans hoc
    refine r_aload_n h dX8_addBot_26 rfl ?_
    refine r_iconst (v := 1) h dX8_addBot_27 (by decide) ?_
    obtain ⟨v4, q5, hoc⟩ := k_ob hoc
    refine r_callV h hMe (rest := []) (as := [k_i (1)]) (oc := .inl (k_mI v4.1, v4.2)) (j_X8_fails la hla G _ (i0) (1) _ q5) kl_X8_103 dX8_addBot_28 rfl rfl rfl rfl rfl ⟨rfl, rfl, Nat.le_of_ble_eq_true rfl, Nat.le_of_ble_eq_true rfl, Nat.le_of_ble_eq_true rfl, Nat.le_of_ble_eq_true rfl, Nat.le_of_ble_eq_true rfl⟩ (fun E q => by cases q) (fun r s q => ?_)
    cases q
    show k_W X _ _ _ _ _ ([k_i (v4.1)])
    cases hoc
    exact r_ireturn h hEn dX8_addBot_31 rfl rfl rfl (by decide) (by decide)
  · replace hoc := (if_neg c3).symm.trans hoc
    refine r_iload_n h dX8_addBot_15 rfl ?_
    refine r_bipush (v := 50) h dX8_addBot_16 (by decide) ?_
    refine r_bipush (v := 100) h dX8_addBot_18 (by decide) ?_
    obtain ⟨v6, q7, hoc⟩ := k_ob hoc
    refine r_callS h hMe (rest := []) (as := [k_i (a2), k_i (50), k_i (100)]) (oc := .inl (k_mI v6, (k_uI σ 1 (i0) (0) (0)))) (j_X8_isBetween la hla G _ (a2) (50) (100) _ q7) kl_X8_90 dX8_addBot_20 rfl rfl  ⟨rfl, rfl, Nat.le_of_ble_eq_true rfl, Nat.le_of_ble_eq_true rfl, Nat.le_of_ble_eq_true rfl, Nat.le_of_ble_eq_true rfl, Nat.le_of_ble_eq_true rfl⟩ (fun E q => by cases q) (fun r s q => ?_)
    cases q
    show k_W X _ _ _ _ _ ([k_i (v6)])
    refine r_if_ne (tgt := 32) h dX8_addBot_23 (by decide) (fun c8 => ?_) (fun c8 => ?_)
    · replace hoc := (if_neg c8).symm.trans hoc
      refine r_aload_n h dX8_addBot_32 rfl ?_
      refine r_getI h kf_X8_143 dX8_addBot_33 rfl rfl (by decide) rfl ?_
      refine r_eqI (k_I_k (by decide)) ?_
      refine r_iconst (v := 4) h dX8_addBot_36 (by decide) ?_
      refine r_icmp_ne (tgt := 46) h dX8_addBot_37 (by decide) (fun c9 => ?_) (fun c9 => ?_)
      · replace hoc := (if_neg c9).symm.trans hoc
        refine r_aload_n h dX8_addBot_46 rfl ?_
        obtain ⟨j10, q11, hoc⟩ := k_ob hoc
        refine r_getR h kf_X8_28 dX8_addBot_47 rfl rfl (by decide) rfl (Eq.trans rfl q11) ?_
        refine r_aload_n h dX8_addBot_50 rfl ?_
        refine r_getI h kf_X8_143 dX8_addBot_51 rfl rfl (by decide) rfl ?_
        refine r_eqI (k_I_k (by decide)) ?_
        refine r_iload_n h dX8_addBot_54 rfl ?_
        obtain ⟨c12, hoc⟩ := k_gd hoc
        refine r_iastore (y := (k_I σ 1 (i0) (12)).toNatClampNeg) (t := 0) (x := a1) h dX8_addBot_55 rfl rfl rfl rfl (k_fit_int _) (k_xx c12.1) c12.2 (by decide) ?_
        refine r_aload_n h dX8_addBot_56 rfl ?_
        obtain ⟨j13, q14, hoc⟩ := k_ob hoc
        refine r_getR h kf_X8_31 dX8_addBot_57 rfl rfl (by decide) rfl (Eq.trans rfl q14) ?_
        refine r_aload_n h dX8_addBot_60 rfl ?_
        refine r_getI h kf_X8_143 dX8_addBot_61 rfl rfl (by decide) rfl ?_
        refine r_eqI (Eq.trans (k_I_l (by decide)) (k_I_k (by decide))) ?_
        refine r_iload_n h dX8_addBot_64 rfl ?_
        obtain ⟨c15, hoc⟩ := k_gd hoc
        refine r_iastore (y := (k_I σ 1 (i0) (12)).toNatClampNeg) (t := 0) (x := a2) h dX8_addBot_65 rfl rfl rfl rfl (k_fit_int _) (k_xx c15.1) c15.2 (by decide) ?_
        refine r_aload_n h dX8_addBot_66 rfl ?_
        refine r_dup h dX8_addBot_67 rfl ?_
        refine r_getI h kf_X8_143 dX8_addBot_68 rfl rfl (by decide) rfl ?_
        refine r_eqI (Eq.trans (k_I_l (by decide)) (Eq.trans (k_I_l (by decide)) (k_I_k (by decide)))) ?_
        refine r_iconst (v := 1) h dX8_addBot_71 (by decide) ?_
        refine r_iadd h dX8_addBot_72 ?_
        refine r_putI (x := (k_I σ 1 (i0) (12) + 1)) h kp_X8_143 dX8_addBot_73 rfl rfl (by decide) rfl rfl (k_fit_int _) ?_
        refine r_aload_n h dX8_addBot_76 rfl ?_
        refine r_getI h kf_X8_143 dX8_addBot_77 rfl rfl (by decide) rfl ?_
        refine r_eqI k_I_s ?_
        refine r_iconst (v := 1) h dX8_addBot_80 (by decide) ?_
        refine r_isub h dX8_addBot_81 ?_
        cases hoc
        exact r_ireturn h hEn dX8_addBot_82 rfl rfl rfl (by decide) (by decide)
      · replace hoc := (if_pos c9).symm.trans hoc
        refine r_aload_n h dX8_addBot_40 rfl ?_
        refine r_iconst (v := 2) h dX8_addBot_41 (by decide) ?_
        obtain ⟨v16, q17, hoc⟩ := k_ob hoc
        refine r_callV h hMe (rest := []) (as := [k_i (2)]) (oc := .inl (k_mI v16.1, v16.2)) (j_X8_fails la hla G _ (i0) (2) _ q17) kl_X8_103 dX8_addBot_42 rfl rfl rfl rfl rfl ⟨rfl, rfl, Nat.le_of_ble_eq_true rfl, Nat.le_of_ble_eq_true rfl, Nat.le_of_ble_eq_true rfl, Nat.le_of_ble_eq_true rfl, Nat.le_of_ble_eq_true rfl⟩ (fun E q => by cases q) (fun r s q => ?_)
        cases q
        show k_W X _ _ _ _ _ ([k_i (v16.1)])
        cases hoc
        exact r_ireturn h hEn dX8_addBot_45 rfl rfl rfl (by decide) (by decide)
    · replace hoc := (if_pos c8).symm.trans hoc
      refine r_aload_n h dX8_addBot_26 rfl ?_
      refine r_iconst (v := 1) h dX8_addBot_27 (by decide) ?_
      obtain ⟨v18, q19, hoc⟩ := k_ob hoc
      refine r_callV h hMe (rest := []) (as := [k_i (1)]) (oc := .inl (k_mI v18.1, v18.2)) (j_X8_fails la hla G _ (i0) (1) _ q19) kl_X8_103 dX8_addBot_28 rfl rfl rfl rfl rfl ⟨rfl, rfl, Nat.le_of_ble_eq_true rfl, Nat.le_of_ble_eq_true rfl, Nat.le_of_ble_eq_true rfl, Nat.le_of_ble_eq_true rfl, Nat.le_of_ble_eq_true rfl⟩ (fun E q => by cases q) (fun r s q => ?_)
      cases q
      show k_W X _ _ _ _ _ ([k_i (v18.1)])
      cases hoc
      exact r_ireturn h hEn dX8_addBot_31 rfl rfl rfl (by decide) (by decide)
def f_X8_threshold (σ : k_S) (i0 : Nat) (a1 : Int32) : Option (Int32 × k_S) :=
  ((f_X8_isBetween (k_uI σ 1 (i0) (0) (0)) (a1) (0) ((k_I σ 1 (i0) (12) - 1))).bind fun v1 => (if v1 = 0 then ((f_X8_fails (k_uI σ 1 (i0) (0) (0)) (i0) (1)).bind fun v4 => some ((v4.1, v4.2))) else ((k_P σ 1 (i0) (8)).bind fun j6 => (if 0 ≤ a1 ∧ (a1).toNatClampNeg < 4 then some ((k_I σ 27 (j6) ((a1).toNatClampNeg), (k_uI σ 1 (i0) (0) (0)))) else none))))
theorem j_X8_threshold (la : Launch) (hla : la.flags = flags0) (G : k_G) (σ : k_S) (i0 : Nat) (a1 : Int32) (x : (Int32 × k_S)) (hoc : f_X8_threshold σ i0 a1 = some x) : k_Ct la G yX8_threshold (k_ws yX8_threshold cX8_threshold 2 (Option.some ClassFile.FieldType.int)) { frames := 1, cells := 0, slots := 0, locals := 23 } [k_p 1 (i0), k_i (a1)] σ (.inl (k_mI x.1, x.2)) 0 0 := by
  refine k_body hla (by decide +kernel) (k_wl rfl) (Nat.le_of_ble_eq_true rfl) (fun X h hEn hMe => ?_)
  show k_W X σ 0 0 0 [some (k_p 1 (i0)), some (k_i (a1))] []
  unfold f_X8_threshold at hoc
  refine r_aload_n h dX8_threshold_0 rfl ?_
  refine r_iconst (v := 0) h dX8_threshold_1 (by decide) ?_
  refine r_putI (x := 0) h kp_X8_84 dX8_threshold_2 rfl rfl (by decide) rfl rfl (k_fit_int _) ?_
  refine r_iload_n h dX8_threshold_5 rfl ?_
  refine r_iconst (v := 0) h dX8_threshold_6 (by decide) ?_
  refine r_aload_n h dX8_threshold_7 rfl ?_
  refine r_getI h kf_X8_143 dX8_threshold_8 rfl rfl (by decide) rfl ?_
  refine r_eqI (k_I_k (by decide)) ?_
  refine r_iconst (v := 1) h dX8_threshold_11 (by decide) ?_
  refine r_isub h dX8_threshold_12 ?_
  obtain ⟨v1, q2, hoc⟩ := k_ob hoc
  refine r_callS h hMe (rest := []) (as := [k_i (a1), k_i (0), k_i ((k_I σ 1 (i0) (12) - 1))]) (oc := .inl (k_mI v1, (k_uI σ 1 (i0) (0) (0)))) (j_X8_isBetween la hla G _ (a1) (0) ((k_I σ 1 (i0) (12) - 1)) _ q2) kl_X8_90 dX8_threshold_13 rfl rfl  ⟨rfl, rfl, Nat.le_of_ble_eq_true rfl, Nat.le_of_ble_eq_true rfl, Nat.le_of_ble_eq_true rfl, Nat.le_of_ble_eq_true rfl, Nat.le_of_ble_eq_true rfl⟩ (fun E q => by cases q) (fun r s q => ?_)
  cases q
  show k_W X _ _ _ _ _ ([k_i (v1)])
  refine r_if_eq (tgt := 28) h dX8_threshold_16 (by decide) (fun c3 => ?_) (fun c3 => ?_)
  · replace hoc := (if_pos c3).symm.trans hoc
    refine r_aload_n h dX8_threshold_28 rfl ?_
    refine r_iconst (v := 1) h dX8_threshold_29 (by decide) ?_
    obtain ⟨v4, q5, hoc⟩ := k_ob hoc
    refine r_callV h hMe (rest := []) (as := [k_i (1)]) (oc := .inl (k_mI v4.1, v4.2)) (j_X8_fails la hla G _ (i0) (1) _ q5) kl_X8_103 dX8_threshold_30 rfl rfl rfl rfl rfl ⟨rfl, rfl, Nat.le_of_ble_eq_true rfl, Nat.le_of_ble_eq_true rfl, Nat.le_of_ble_eq_true rfl, Nat.le_of_ble_eq_true rfl, Nat.le_of_ble_eq_true rfl⟩ (fun E q => by cases q) (fun r s q => ?_)
    cases q
    show k_W X _ _ _ _ _ ([k_i (v4.1)])
    cases hoc
    exact r_ireturn h hEn dX8_threshold_33 rfl rfl rfl (by decide) (by decide)
  · replace hoc := (if_neg c3).symm.trans hoc
    refine r_aload_n h dX8_threshold_19 rfl ?_
    obtain ⟨j6, q7, hoc⟩ := k_ob hoc
    refine r_getR h kf_X8_31 dX8_threshold_20 rfl rfl (by decide) rfl (Eq.trans rfl q7) ?_
    refine r_iload_n h dX8_threshold_23 rfl ?_
    obtain ⟨c8, hoc⟩ := k_gd hoc
    refine r_iaload (y := (a1).toNatClampNeg) (t := 0) h dX8_threshold_24 rfl rfl rfl (k_xx c8.1) c8.2 (by decide) ?_
    refine r_eqI (k_I_l (by decide)) ?_
    refine r_goto (tgt := 33) h dX8_threshold_25 (by decide) ?_
    cases hoc
    exact r_ireturn h hEn dX8_threshold_33 rfl rfl rfl (by decide) (by decide)
