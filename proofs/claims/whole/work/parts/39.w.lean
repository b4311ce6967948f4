/-! ===== walks 9 (written by wip/whole/gen_walk.py, emit_walk.py) ===== -/
def f_X8_isBetween (σ : k_S) (a1 : Int32) (a2 : Int32) (a3 : Int32) : Option Int32 :=
  (if a1 < a2 then some (0) else (if a3 < a1 then some (0) else some (1)))
theorem j_X8_isBetween (la : Launch) (hla : la.flags = flags0) (G : k_G) (σ : k_S) (a1 : Int32) (a2 : Int32) (a3 : Int32) (x : Int32) (hoc : f_X8_isBetween σ a1 a2 a3 = some x) : k_Ct la G yX8_isBetween (k_ws yX8_isBetween cX8_isBetween 3 (Option.some ClassFile.FieldType.boolean)) { frames := 0, cells := 0, slots := 0, locals := 1 } [k_i (a1), k_i (a2), k_i (a3)] σ (.inl (k_mI x, σ)) 0 0 := by
  refine k_body hla (by decide +kernel) (k_wl rfl) (Nat.le_of_ble_eq_true rfl) (fun X h hEn hMe => ?_)
  show k_W X σ 0 0 0 [some (k_i (a1)), some (k_i (a2)), some (k_i (a3))] []
  unfold f_X8_isBetween at hoc
  refine r_iload_n h dX8_isBetween_0 rfl ?_
  refine r_iload_n h dX8_isBetween_1 rfl ?_
  refine r_icmp_gt (tgt := 14) h dX8_isBetween_2 (by decide) (fun c1 => ?_) (fun c1 => ?_)
  · replace hoc := (if_pos c1).symm.trans hoc
    refine r_iconst (v := 0) h dX8_isBetween_14 (by decide) ?_
    cases hoc
    exact r_ireturn h hEn dX8_isBetween_15 rfl (by decide) rfl (by decide) (by decide)
  · replace hoc := (if_neg c1).symm.trans hoc
    refine r_iload_n h dX8_isBetween_5 rfl ?_
    refine r_iload_n h dX8_isBetween_6 rfl ?_
    refine r_icmp_gt (tgt := 14) h dX8_isBetween_7 (by decide) (fun c2 => ?_) (fun c2 => ?_)
    · replace hoc := (if_pos c2).symm.trans hoc
      refine r_iconst (v := 0) h dX8_isBetween_14 (by decide) ?_
      cases hoc
      exact r_ireturn h hEn dX8_isBetween_15 rfl (by decide) rfl (by decide) (by decide)
    · replace hoc := (if_neg c2).symm.trans hoc
      refine r_iconst (v := 1) h dX8_isBetween_10 (by decide) ?_
      refine r_goto (tgt := 15) h dX8_isBetween_11 (by decide) ?_
      cases hoc
      exact r_ireturn h hEn dX8_isBetween_15 rfl (by decide) rfl (by decide) (by decide)
def f_X8_isRule (σ : k_S) (i0 : Nat) (a1 : Int32) : Option Int32 :=
  ((f_X8_isBetween σ (a1) (0) ((k_I σ 1 (i0) (10) - 1))).bind fun v1 => (if v1 = 0 ∨ v1 = 1 then some (v1) else none))
theorem j_X8_isRule (la : Launch) (hla : la.flags = flags0) (G : k_G) (σ : k_S) (i0 : Nat) (a1 : Int32) (x : Int32) (hoc : f_X8_isRule σ i0 a1 = some x) : k_Ct la G yX8_isRule (k_ws yX8_isRule cX8_isRule 2 (Option.some ClassFile.FieldType.boolean)) { frames := 1, cells := 0, slots := 0, locals := 23 } [k_p 1 (i0), k_i (a1)] σ (.inl (k_mI x, σ)) 0 0 := by
  refine k_body hla (by decide +kernel) (k_wl rfl) (Nat.le_of_ble_eq_true rfl) (fun X h hEn hMe => ?_)
  show k_W X σ 0 0 0 [some (k_p 1 (i0)), some (k_i (a1))] []
  unfold f_X8_isRule at hoc
  refine r_iload_n h dX8_isRule_0 rfl ?_
  refine r_iconst (v := 0) h dX8_isRule_1 (by decide) ?_
  refine r_aload_n h dX8_isRule_2 rfl ?_
  refine r_getI h kf_X8_87 dX8_isRule_3 rfl rfl (by decide) rfl ?_
  refine r_iconst (v := 1) h dX8_isRule_6 (by decide) ?_
  refine r_isub h dX8_isRule_7 ?_
  obtain ⟨v1, q2, hoc⟩ := k_ob hoc
  refine r_callS h hMe (rest := []) (as := [k_i (a1), k_i (0), k_i ((k_I σ 1 (i0) (10) - 1))]) (oc := .inl (k_mI v1, σ)) (j_X8_isBetween la hla G _ (a1) (0) ((k_I σ 1 (i0) (10) - 1)) _ q2) kl_X8_90 dX8_isRule_8 rfl rfl  ⟨rfl, rfl, Nat.le_of_ble_eq_true rfl, Nat.le_of_ble_eq_true rfl, Nat.le_of_ble_eq_true rfl, Nat.le_of_ble_eq_true rfl, Nat.le_of_ble_eq_true rfl⟩ (fun E q => by cases q) (fun r s q => ?_)
  cases q
  show k_W X _ _ _ _ _ ([k_i (v1)])
  obtain ⟨c3, hoc⟩ := k_gd hoc
  cases hoc
  exact r_ireturn h hEn dX8_isRule_11 rfl (k_n01 c3) rfl (by decide) (by decide)
def f_X8_isUser (σ : k_S) (i0 : Nat) (a1 : Int32) : Option Int32 :=
  ((f_X8_isBetween σ (a1) (0) ((k_I σ 1 (i0) (11) - 1))).bind fun v1 => (if v1 = 0 ∨ v1 = 1 then some (v1) else none))
theorem j_X8_isUser (la : Launch) (hla : la.flags = flags0) (G : k_G) (σ : k_S) (i0 : Nat) (a1 : Int32) (x : Int32) (hoc : f_X8_isUser σ i0 a1 = some x) : k_Ct la G yX8_isUser (k_ws yX8_isUser cX8_isUser 2 (Option.some ClassFile.FieldType.boolean)) { frames := 1, cells := 0, slots := 0, locals := 23 } [k_p 1 (i0), k_i (a1)] σ (.inl (k_mI x, σ)) 0 0 := by
  refine k_body hla (by decide +kernel) (k_wl rfl) (Nat.le_of_ble_eq_true rfl) (fun X h hEn hMe => ?_)
  show k_W X σ 0 0 0 [some (k_p 1 (i0)), some (k_i (a1))] []
  unfold f_X8_isUser at hoc
  refine r_iload_n h dX8_isUser_0 rfl ?_
  refine r_iconst (v := 0) h dX8_isUser_1 (by decide) ?_
  refine r_aload_n h dX8_isUser_2 rfl ?_
  refine r_getI h kf_X8_94 dX8_isUser_3 rfl rfl (by decide) rfl ?_
  refine r_iconst (v := 1) h dX8_isUser_6 (by decide) ?_
  refine r_isub h dX8_isUser_7 ?_
  obtain ⟨v1, q2, hoc⟩ := k_ob hoc
  refine r_callS h hMe (rest := []) (as := [k_i (a1), k_i (0), k_i ((k_I σ 1 (i0) (11) - 1))]) (oc := .inl (k_mI v1, σ)) (j_X8_isBetween la hla G _ (a1) (0) ((k_I σ 1 (i0) (11) - 1)) _ q2) kl_X8_90 dX8_isUser_8 rfl rfl  ⟨rfl, rfl, Nat.le_of_ble_eq_true rfl, Nat.le_of_ble_eq_true rfl, Nat.le_of_ble_eq_true rfl, Nat.le_of_ble_eq_true rfl, Nat.le_of_ble_eq_true rfl⟩ (fun E q => by cases q) (fun r s q => ?_)
  cases q
  show k_W X _ _ _ _ _ ([k_i (v1)])
  obtain ⟨c3, hoc⟩ := k_gd hoc
  cases hoc
  exact r_ireturn h hEn dX8_isUser_11 rfl (k_n01 c3) rfl (by decide) (by decide)
def f_X8_isReport (σ : k_S) (i0 : Nat) (a1 : Int32) : Option Int32 :=
  ((f_X8_isBetween σ (a1) (0) ((k_I σ 1 (i0) (28) - 1))).bind fun v1 => (if v1 = 0 ∨ v1 = 1 then some (v1) else none))
theorem j_X8_isReport (la : Launch) (hla : la.flags = flags0) (G : k_G) (σ : k_S) (i0 : Nat) (a1 : Int32) (x : Int32) (hoc : f_X8_isReport σ i0 a1 = some x) : k_Ct la G yX8_isReport (k_ws yX8_isReport cX8_isReport 2 (Option.some ClassFile.FieldType.boolean)) { frames := 1, cells := 0, slots := 0, locals := 23 } [k_p 1 (i0), k_i (a1)] σ (.inl (k_mI x, σ)) 0 0 := by
  refine k_body hla (by decide +kernel) (k_wl rfl) (Nat.le_of_ble_eq_true rfl) (fun X h hEn hMe => ?_)
  show k_W X σ 0 0 0 [some (k_p 1 (i0)), some (k_i (a1))] []
  unfold f_X8_isReport at hoc
  refine r_iload_n h dX8_isReport_0 rfl ?_
  refine r_iconst (v := 0) h dX8_isReport_1 (by decide) ?_
  refine r_aload_n h dX8_isReport_2 rfl ?_
  refine r_getI h kf_X8_97 dX8_isReport_3 rfl rfl (by decide) rfl ?_
  refine r_iconst (v := 1) h dX8_isReport_6 (by decide) ?_
  refine r_isub h dX8_isReport_7 ?_
  obtain ⟨v1, q2, hoc⟩ := k_ob hoc
  refine r_callS h hMe (rest := []) (as := [k_i (a1), k_i (0), k_i ((k_I σ 1 (i0) (28) - 1))]) (oc := .inl (k_mI v1, σ)) (j_X8_isBetween la hla G _ (a1) (0) ((k_I σ 1 (i0) (28) - 1)) _ q2) kl_X8_90 dX8_isReport_8 rfl rfl  ⟨rfl, rfl, Nat.le_of_ble_eq_true rfl, Nat.le_of_ble_eq_true rfl, Nat.le_of_ble_eq_true rfl, Nat.le_of_ble_eq_true rfl, Nat.le_of_ble_eq_true rfl⟩ (fun E q => by cases q) (fun r s q => ?_)
  cases q
  show k_W X _ _ _ _ _ ([k_i (v1)])
  obtain ⟨c3, hoc⟩ := k_gd hoc
  cases hoc
  exact r_ireturn h hEn dX8_isReport_11 rfl (k_n01 c3) rfl (by decide) (by decide)
def f_X8_addRule (σ : k_S) (i0 : Nat) (a1 : Int32) (a2 : Int32) (a3 : Int32) (a4 : Int32) (a5 : Int32) : Option (Int32 × k_S) :=
  ((f_X8_isBetween (k_uI σ 1 (i0) (0) (0)) (a1) (0) (7)).bind fun v1 => (if v1 = 0 then ((f_X8_fails (k_uI σ 1 (i0) (0) (0)) (i0) (1)).bind fun v4 => some ((v4.1, v4.2))) else ((f_X8_isBetween (k_uI σ 1 (i0) (0) (0)) (a3) (0) (9)).bind fun v6 => (if v6 = 0 then ((f_X8_fails (k_uI σ 1 (i0) (0) (0)) (i0) (1)).bind fun v9 => some ((v9.1, v9.2))) else ((f_X8_isBetween (k_uI σ 1 (i0) (0) (0)) (a4) (1) (60)).bind fun v11 => (if v11 = 0 then ((f_X8_fails (k_uI σ 1 (i0) (0) (0)) (i0) (1)).bind fun v14 => some ((v14.1, v14.2))) else ((f_X8_isBetween (k_uI σ 1 (i0) (0) (0)) (a5) ((k_I σ 1 (i0) (14) + 1)) (1000)).bind fun v16 => (if v16 = 0 then ((f_X8_fails (k_uI σ 1 (i0) (0) (0)) (i0) (1)).bind fun v41 => some ((v41.1, v41.2))) else (if k_I σ 1 (i0) (10) = (12 : Int32) then ((f_X8_fails (k_uI σ 1 (i0) (0) (0)) (i0) (2)).bind fun v39 => some ((v39.1, v39.2))) else ((k_P σ 1 (i0) (1)).bind fun j20 => (if 0 ≤ k_I σ 1 (i0) (10) ∧ (k_I σ 1 (i0) (10)).toNatClampNeg < 12 then ((k_P σ 1 (i0) (9)).bind fun j23 => (if 0 ≤ k_I σ 1 (i0) (10) ∧ (k_I σ 1 (i0) (10)).toNatClampNeg < 12 then (if a2 = 0 ∨ a2 = 1 then ((k_P σ 1 (i0) (2)).bind fun j27 => (if 0 ≤ k_I σ 1 (i0) (10) ∧ (k_I σ 1 (i0) (10)).toNatClampNeg < 12 then ((k_P σ 1 (i0) (3)).bind fun j30 => (if 0 ≤ k_I σ 1 (i0) (10) ∧ (k_I σ 1 (i0) (10)).toNatClampNeg < 12 then ((k_P σ 1 (i0) (4)).bind fun j33 => (if 0 ≤ k_I σ 1 (i0) (10) ∧ (k_I σ 1 (i0) (10)).toNatClampNeg < 12 then ((k_P σ 1 (i0) (5)).bind fun j36 => (if 0 ≤ k_I σ 1 (i0) (10) ∧ (k_I σ 1 (i0) (10)).toNatClampNeg < 12 then some ((((k_I σ 1 (i0) (10) + 1) - 1), (k_uI (k_uI (k_uI (k_uI (k_uI (k_uI (k_uI (k_uI σ 1 (i0) (0) (0)) 20 (j20) ((k_I σ 1 (i0) (10)).toNatClampNeg) (a1)) 28 (j23) ((k_I σ 1 (i0) (10)).toNatClampNeg) (a2)) 21 (j27) ((k_I σ 1 (i0) (10)).toNatClampNeg) (a3)) 22 (j30) ((k_I σ 1 (i0) (10)).toNatClampNeg) (a4)) 23 (j33) ((k_I σ 1 (i0) (10)).toNatClampNeg) (a5)) 24 (j36) ((k_I σ 1 (i0) (10)).toNatClampNeg) (2147483647)) 1 (i0) (10) ((k_I σ 1 (i0) (10) + 1))))) else none)) else none)) else none)) else none)) else none) else none)) else none)))))))))))
theorem j_X8_addRule (la : Launch) (hla : la.flags = flags0) (G : k_G) (σ : k_S) (i0 : Nat) (a1 : Int32) (a2 : Int32) (a3 : Int32) (a4 : Int32) (a5 : Int32) (x : (Int32 × k_S)) (hoc : f_X8_addRule σ i0 a1 a2 a3 a4 a5 = some x) : k_Ct la G yX8_addRule (k_ws yX8_addRule cX8_addRule 6 (Option.some ClassFile.FieldType.int)) { frames := 1, cells := 0, slots := 0, locals := 23 } [k_p 1 (i0), k_i (a1), k_i (a2), k_i (a3), k_i (a4), k_i (a5)] σ (.inl (k_mI x.1, x.2)) 0 0 := by
  refine k_body hla (by decide +kernel) (k_wl rfl) (Nat.le_of_ble_eq_true rfl) (fun X h hEn hMe => ?_)
  show k_W X σ 0 0 0 [some (k_p 1 (i0)), some (k_i (a1)), some (k_i (a2)), some (k_i (a3)), some (k_i (a4)), some (k_i (a5))] []
  unfold f_X8_addRule at hoc
  refine r_aload_n h dX8_addRule_0 rfl ?_
  refine r_iconst (v := 0) h dX8_addRule_1 (by decide) ?_
  refine r_putI (x := 0) h kp_X8_84 dX8_addRule_2 rfl rfl (by decide) rfl rfl (k_fit_int _) ?_
  refine r_iload_n h dX8_addRule_5 rfl ?_
  refine r_iconst (v := 0) h dX8_addRule_6 (by decide) ?_
  refine r_bipush (v := 7) h dX8_addRule_7 (by decide) ?_
  obtain ⟨v1, q2, hoc⟩ := k_ob hoc
  refine r_callS h hMe (rest := []) (as := [k_i (a1), k_i (0), k_i (7)]) (oc := .inl (k_mI v1, (k_uI σ 1 (i0) (0) (0)))) (j_X8_isBetween la hla G _ (a1) (0) (7) _ q2) kl_X8_90 dX8_addRule_9 rfl rfl  ⟨rfl, rfl, Nat.le_of_ble_eq_true rfl, Nat.le_of_ble_eq_true rfl, Nat.le_of_ble_eq_true rfl, Nat.le_of_ble_eq_true rfl, Nat.le_of_ble_eq_true rfl⟩ (fun E q => by cases q) (fun r s q => ?_)
  cases q
  show k_W X _ _ _ _ _ ([k_i (v1)])
  refine r_if_eq (tgt := 53) h dX8_addRule_12 (by decide) (fun c3 => ?_) (fun c3 => ?_)
  · replace hoc := (if_pos c3).symm.trans hoc
    refine r_aload_n h dX8_addRule_53 rfl ?_
    refine r_iconst (v := 1) h dX8_addRule_54 (by decide) ?_
    obtain ⟨v4, q5, hoc⟩ := k_ob hoc
    refine r_callV h hMe (rest := []) (as := [k_i (1)]) (oc := .inl (k_mI v4.1, v4.2)) (j_X8_fails la hla G _ (i0) (1) _ q5) kl_X8_103 dX8_addRule_55 rfl rfl rfl rfl rfl ⟨rfl, rfl, Nat.le_of_ble_eq_true rfl, Nat.le_of_ble_eq_true rfl, Nat.le_of_ble_eq_true rfl, Nat.le_of_ble_eq_true rfl, Nat.le_of_ble_eq_true rfl⟩ (fun E q => by cases q) (fun r s q => ?_)
    cases q
    show k_W X _ _ _ _ _ ([k_i (v4.1)])
    cases hoc
    exact r_ireturn h hEn dX8_addRule_58 rfl rfl rfl (by decide) (by decide)
  · replace hoc := (if_neg c3).symm.trans hoc
    refine r_iload_n h dX8_addRule_15 rfl ?_
    refine r_iconst (v := 0) h dX8_addRule_16 (by decide) ?_
    refine r_bipush (v := 9) h dX8_addRule_17 (by decide) ?_
    obtain ⟨v6, q7, hoc⟩ := k_ob hoc
    refine r_callS h hMe (rest := []) (as := [k_i (a3), k_i (0), k_i (9)]) (oc := .inl (k_mI v6, (k_uI σ 1 (i0) (0) (0)))) (j_X8_isBetween la hla G _ (a3) (0) (9) _ q7) kl_X8_90 dX8_addRule_19 rfl rfl  ⟨rfl, rfl, Nat.le_of_ble_eq_true rfl, Nat.le_of_ble_eq_true rfl, Nat.le_of_ble_eq_true rfl, Nat.le_of_ble_eq_true rfl, Nat.le_of_ble_eq_true rfl⟩ (fun E q => by cases q) (fun r s q => ?_)
    cases q
    show k_W X _ _ _ _ _ ([k_i (v6)])
    refine r_if_eq (tgt := 53) h dX8_addRule_22 (by decide) (fun c8 => ?_) (fun c8 => ?_)
    · replace hoc := (if_pos c8).symm.trans hoc
      refine r_aload_n h dX8_addRule_53 rfl ?_
      refine r_iconst (v := 1) h dX8_addRule_54 (by decide) ?_
      obtain ⟨v9, q10, hoc⟩ := k_ob hoc
      refine r_callV h hMe (rest := []) (as := [k_i (1)]) (oc := .inl (k_mI v9.1, v9.2)) (j_X8_fails la hla G _ (i0) (1) _ q10) kl_X8_103 dX8_addRule_55 rfl rfl rfl rfl rfl ⟨rfl, rfl, Nat.le_of_ble_eq_true rfl, Nat.le_of_ble_eq_true rfl, Nat.le_of_ble_eq_true rfl, Nat.le_of_ble_eq_true rfl, Nat.le_of_ble_eq_true rfl⟩ (fun E q => by cases q) (fun r s q => ?_)
      cases q
      show k_W X _ _ _ _ _ ([k_i (v9.1)])
      cases hoc
      exact r_ireturn h hEn dX8_addRule_58 rfl rfl rfl (by decide) (by decide)
    · replace hoc := (if_neg c8).symm.trans hoc
      refine r_iload h dX8_addRule_25 rfl ?_
      refine r_iconst (v := 1) h dX8_addRule_27 (by decide) ?_
      refine r_bipush (v := 60) h dX8_addRule_28 (by decide) ?_
      obtain ⟨v11, q12, hoc⟩ := k_ob hoc
      refine r_callS h hMe (rest := []) (as := [k_i (a4), k_i (1), k_i (60)]) (oc := .inl (k_mI v11, (k_uI σ 1 (i0) (0) (0)))) (j_X8_isBetween la hla G _ (a4) (1) (60) _ q12) kl_X8_90 dX8_addRule_30 rfl rfl  ⟨rfl, rfl, Nat.le_of_ble_eq_true rfl, Nat.le_of_ble_eq_true rfl, Nat.le_of_ble_eq_true rfl, Nat.le_of_ble_eq_true rfl, Nat.le_of_ble_eq_true rfl⟩ (fun E q => by cases q) (fun r s q => ?_)
      cases q
      show k_W X _ _ _ _ _ ([k_i (v11)])
      refine r_if_eq (tgt := 53) h dX8_addRule_33 (by decide) (fun c13 => ?_) (fun c13 => ?_)
      · replace hoc := (if_pos c13).symm.trans hoc
        refine r_aload_n h dX8_addRule_53 rfl ?_
        refine r_iconst (v := 1) h dX8_addRule_54 (by decide) ?_
        obtain ⟨v14, q15, hoc⟩ := k_ob hoc
        refine r_callV h hMe (rest := []) (as := [k_i (1)]) (oc := .inl (k_mI v14.1, v14.2)) (j_X8_fails la hla G _ (i0) (1) _ q15) kl_X8_103 dX8_addRule_55 rfl rfl rfl rfl rfl ⟨rfl, rfl, Nat.le_of_ble_eq_true rfl, Nat.le_of_ble_eq_true rfl, Nat.le_of_ble_eq_true rfl, Nat.le_of_ble_eq_true rfl, Nat.le_of_ble_eq_true rfl⟩ (fun E q => by cases q) (fun r s q => ?_)
        cases q
        show k_W X _ _ _ _ _ ([k_i (v14.1)])
        cases hoc
        exact r_ireturn h hEn dX8_addRule_58 rfl rfl rfl (by decide) (by decide)
      · replace hoc := (if_neg c13).symm.trans hoc
        refine r_iload h dX8_addRule_36 rfl ?_
        refine r_aload_n h dX8_addRule_38 rfl ?_
        refine r_getI h kf_X8_100 dX8_addRule_39 rfl rfl (by decide) rfl ?_
        refine r_eqI (k_I_k (by decide)) ?_
        refine r_iconst (v := 1) h dX8_addRule_42 (by decide) ?_
        refine r_iadd h dX8_addRule_43 ?_
        refine r_sipush (v := 1000) h dX8_addRule_44 (by decide) ?_
        obtain ⟨v16, q17, hoc⟩ := k_ob hoc
        refine r_callS h hMe (rest := []) (as := [k_i (a5), k_i ((k_I σ 1 (i0) (14) + 1)), k_i (1000)]) (oc := .inl (k_mI v16, (k_uI σ 1 (i0) (0) (0)))) (j_X8_isBetween la hla G _ (a5) ((k_I σ 1 (i0) (14) + 1)) (1000) _ q17) kl_X8_90 dX8_addRule_47 rfl rfl  ⟨rfl, rfl, Nat.le_of_ble_eq_true rfl, Nat.le_of_ble_eq_true rfl, Nat.le_of_ble_eq_true rfl, Nat.le_of_ble_eq_true rfl, Nat.le_of_ble_eq_true rfl⟩ (fun E q => by cases q) (fun r s q => ?_)
        cases q
        show k_W X _ _ _ _ _ ([k_i (v16)])
        refine r_if_ne (tgt := 59) h dX8_addRule_50 (by decide) (fun c18 => ?_) (fun c18 => ?_)
        · replace hoc := (if_neg c18).symm.trans hoc
          refine r_aload_n h dX8_addRule_59 rfl ?_
          refine r_getI h kf_X8_87 dX8_addRule_60 rfl rfl (by decide) rfl ?_
          refine r_eqI (k_I_k (by decide)) ?_
          refine r_bipush (v := 12) h dX8_addRule_63 (by decide) ?_
          refine r_icmp_ne (tgt := 74) h dX8_addRule_65 (by decide) (fun c19 => ?_) (fun c19 => ?_)
          · replace hoc := (if_neg c19).symm.trans hoc
            refine r_aload_n h dX8_addRule_74 rfl ?_
            obtain ⟨j20, q21, hoc⟩ := k_ob hoc
            refine r_getR h kf_X8_9 dX8_addRule_75 rfl rfl (by decide) rfl (Eq.trans rfl q21) ?_
            refine r_aload_n h dX8_addRule_78 rfl ?_
            refine r_getI h kf_X8_87 dX8_addRule_79 rfl rfl (by decide) rfl ?_
            refine r_eqI (k_I_k (by decide)) ?_
            refine r_iload_n h dX8_addRule_82 rfl ?_
            obtain ⟨c22, hoc⟩ := k_gd hoc
            refine r_iastore (y := (k_I σ 1 (i0) (10)).toNatClampNeg) (t := 0) (x := a1) h dX8_addRule_83 rfl rfl rfl rfl (k_fit_int _) (k_xx c22.1) c22.2 (by decide) ?_
            refine r_aload_n h dX8_addRule_84 rfl ?_
            obtain ⟨j23, q24, hoc⟩ := k_ob hoc
            refine r_getR h kf_X8_34 dX8_addRule_85 rfl rfl (by decide) rfl (Eq.trans rfl q24) ?_
            refine r_aload_n h dX8_addRule_88 rfl ?_
            refine r_getI h kf_X8_87 dX8_addRule_89 rfl rfl (by decide) rfl ?_
            refine r_eqI (Eq.trans (k_I_l (by decide)) (k_I_k (by decide))) ?_
            refine r_iload_n h dX8_addRule_92 rfl ?_
            obtain ⟨c25, hoc⟩ := k_gd hoc
            obtain ⟨c26, hoc⟩ := k_gd hoc
            refine r_bastore (y := (k_I σ 1 (i0) (10)).toNatClampNeg) (t := 0) (x := a2) h dX8_addRule_93 rfl rfl rfl rfl (k_f01 c26) (k_xx c25.1) c25.2 (by decide) ?_
            refine r_aload_n h dX8_addRule_94 rfl ?_
            obtain ⟨j27, q28, hoc⟩ := k_ob hoc
            refine r_getR h kf_X8_13 dX8_addRule_95 rfl rfl (by decide) rfl (Eq.trans rfl q28) ?_
            refine r_aload_n h dX8_addRule_98 rfl ?_
            refine r_getI h kf_X8_87 dX8_addRule_99 rfl rfl (by decide) rfl ?_
            refine r_eqI (Eq.trans (k_I_l (by decide)) (Eq.trans (k_I_l (by decide)) (k_I_k (by decide)))) ?_
            refine r_iload_n h dX8_addRule_102 rfl ?_
            obtain ⟨c29, hoc⟩ := k_gd hoc
            refine r_iastore (y := (k_I σ 1 (i0) (10)).toNatClampNeg) (t := 0) (x := a3) h dX8_addRule_103 rfl rfl rfl rfl (k_fit_int _) (k_xx c29.1) c29.2 (by decide) ?_
            refine r_aload_n h dX8_addRule_104 rfl ?_
            obtain ⟨j30, q31, hoc⟩ := k_ob hoc
            refine r_getR h kf_X8_16 dX8_addRule_105 rfl rfl (by decide) rfl (Eq.trans rfl q31) ?_
            refine r_aload_n h dX8_addRule_108 rfl ?_
            refine r_getI h kf_X8_87 dX8_addRule_109 rfl rfl (by decide) rfl ?_
            refine r_eqI (Eq.trans (k_I_l (by decide)) (Eq.trans (k_I_l (by decide)) (Eq.trans (k_I_l (by decide)) (k_I_k (by decide))))) ?_
            refine r_iload h dX8_addRule_112 rfl ?_
            obtain ⟨c32, hoc⟩ := k_gd hoc
            refine r_iastore (y := (k_I σ 1 (i0) (10)).toNatClampNeg) (t := 0) (x := a4) h dX8_addRule_114 rfl rfl rfl rfl (k_fit_int _) (k_xx c32.1) c32.2 (by decide) ?_
            refine r_aload_n h dX8_addRule_115 rfl ?_
            obtain ⟨j33, q34, hoc⟩ := k_ob hoc
            refine r_getR h kf_X8_19 dX8_addRule_116 rfl rfl (by decide) rfl (Eq.trans rfl q34) ?_
            refine r_aload_n h dX8_addRule_119 rfl ?_
            refine r_getI h kf_X8_87 dX8_addRule_120 rfl rfl (by decide) rfl ?_
            refine r_eqI (Eq.trans (k_I_l (by decide)) (Eq.trans (k_I_l (by decide)) (Eq.trans (k_I_l (by decide)) (Eq.trans (k_I_l (by decide)) (k_I_k (by decide)))))) ?_
            refine r_iload h dX8_addRule_123 rfl ?_
            obtain ⟨c35, hoc⟩ := k_gd hoc
            refine r_iastore (y := (k_I σ 1 (i0) (10)).toNatClampNeg) (t := 0) (x := a5) h dX8_addRule_125 rfl rfl rfl rfl (k_fit_int _) (k_xx c35.1) c35.2 (by decide) ?_
            refine r_aload_n h dX8_addRule_126 rfl ?_
            obtain ⟨j36, q37, hoc⟩ := k_ob hoc
            refine r_getR h kf_X8_22 dX8_addRule_127 rfl rfl (by decide) rfl (Eq.trans rfl q37) ?_
            refine r_aload_n h dX8_addRule_130 rfl ?_
            refine r_getI h kf_X8_87 dX8_addRule_131 rfl rfl (by decide) rfl ?_
            refine r_eqI (Eq.trans (k_I_l (by decide)) (Eq.trans (k_I_l (by decide)) (Eq.trans (k_I_l (by decide)) (Eq.trans (k_I_l (by decide)) (Eq.trans (k_I_l (by decide)) (k_I_k (by decide))))))) ?_
            refine r_ldc (v := 2147483647) h dX8_addRule_134 wd_1062 ?_
            obtain ⟨c38, hoc⟩ := k_gd hoc
            refine r_iastore (y := (k_I σ 1 (i0) (10)).toNatClampNeg) (t := 0) (x := 2147483647) h dX8_addRule_136 rfl rfl rfl rfl (k_fit_int _) (k_xx c38.1) c38.2 (by decide) ?_
            refine r_aload_n h dX8_addRule_137 rfl ?_
            refine r_dup h dX8_addRule_138 rfl ?_
            refine r_getI h kf_X8_87 dX8_addRule_139 rfl rfl (by decide) rfl ?_
            refine r_eqI (Eq.trans (k_I_l (by decide)) (Eq.trans (k_I_l (by decide)) (Eq.trans (k_I_l (by decide)) (Eq.trans (k_I_l (by decide)) (Eq.trans (k_I_l (by decide)) (Eq.trans (k_I_l (by decide)) (k_I_k (by decide)))))))) ?_
            refine r_iconst (v := 1) h dX8_addRule_142 (by decide) ?_
            refine r_iadd h dX8_addRule_143 ?_
            refine r_putI (x := (k_I σ 1 (i0) (10) + 1)) h kp_X8_87 dX8_addRule_144 rfl rfl (by decide) rfl rfl (k_fit_int _) ?_
            refine r_aload_n h dX8_addRule_147 rfl ?_
            refine r_getI h kf_X8_87 dX8_addRule_148 rfl rfl (by decide) rfl ?_
            refine r_eqI k_I_s ?_
            refine r_iconst (v := 1) h dX8_addRule_151 (by decide) ?_
            refine r_isub h dX8_addRule_152 ?_
            cases hoc
            exact r_ireturn h hEn dX8_addRule_153 rfl rfl rfl (by decide) (by decide)
          · replace hoc := (if_pos c19).symm.trans hoc
            refine r_aload_n h dX8_addRule_68 rfl ?_
            refine r_iconst (v := 2) h dX8_addRule_69 (by decide) ?_
            obtain ⟨v39, q40, hoc⟩ := k_ob hoc
            refine r_callV h hMe (rest := []) (as := [k_i (2)]) (oc := .inl (k_mI v39.1, v39.2)) (j_X8_fails la hla G _ (i0) (2) _ q40) kl_X8_103 dX8_addRule_70 rfl rfl rfl rfl rfl ⟨rfl, rfl, Nat.le_of_ble_eq_true rfl, Nat.le_of_ble_eq_true rfl, Nat.le_of_ble_eq_true rfl, Nat.le_of_ble_eq_true rfl, Nat.le_of_ble_eq_true rfl⟩ (fun E q => by cases q) (fun r s q => ?_)
            cases q
            show k_W X _ _ _ _ _ ([k_i (v39.1)])
            cases hoc
            exact r_ireturn h hEn dX8_addRule_73 rfl rfl rfl (by decide) (by decide)
        · replace hoc := (if_pos c18).symm.trans hoc
          refine r_aload_n h dX8_addRule_53 rfl ?_
          refine r_iconst (v := 1) h dX8_addRule_54 (by decide) ?_
          obtain ⟨v41, q42, hoc⟩ := k_ob hoc
          refine r_callV h hMe (rest := []) (as := [k_i (1)]) (oc := .inl (k_mI v41.1, v41.2)) (j_X8_fails la hla G _ (i0) (1) _ q42) kl_X8_103 dX8_addRule_55 rfl rfl rfl rfl rfl ⟨rfl, rfl, Nat.le_of_ble_eq_true rfl, Nat.le_of_ble_eq_true rfl, Nat.le_of_ble_eq_true rfl, Nat.le_of_ble_eq_true rfl, Nat.le_of_ble_eq_true rfl⟩ (fun E q => by cases q) (fun r s q => ?_)
          cases q
          show k_W X _ _ _ _ _ ([k_i (v41.1)])
          cases hoc
          exact r_ireturn h hEn dX8_addRule_58 rfl rfl rfl (by decide) (by decide)
def f_X8_inForce (σ : k_S) (i0 : Nat) (a1 : Int32) (a2 : Int32) : Option Int32 :=
  ((k_P σ 1 (i0) (4)).bind fun j1 => (if 0 ≤ a1 ∧ (a1).toNatClampNeg < 12 then (if a2 < k_I σ 23 (j1) ((a1).toNatClampNeg) then some (0) else ((k_P σ 1 (i0) (5)).bind fun j5 => (if 0 ≤ a1 ∧ (a1).toNatClampNeg < 12 then (if k_I σ 24 (j5) ((a1).toNatClampNeg) ≤ a2 then some (0) else some (1)) else none))) else none))
theorem j_X8_inForce (la : Launch) (hla : la.flags = flags0) (G : k_G) (σ : k_S) (i0 : Nat) (a1 : Int32) (a2 : Int32) (x : Int32) (hoc : f_X8_inForce σ i0 a1 a2 = some x) : k_Ct la G yX8_inForce (k_ws yX8_inForce cX8_inForce 3 (Option.some ClassFile.FieldType.boolean)) { frames := 0, cells := 0, slots := 0, locals := 1 } [k_p 1 (i0), k_i (a1), k_i (a2)] σ (.inl (k_mI x, σ)) 0 0 := by
  refine k_body hla (by decide +kernel) (k_wl rfl) (Nat.le_of_ble_eq_true rfl) (fun X h hEn hMe => ?_)
  show k_W X σ 0 0 0 [some (k_p 1 (i0)), some (k_i (a1)), some (k_i (a2))] []
  unfold f_X8_inForce at hoc
  refine r_aload_n h dX8_inForce_0 rfl ?_
  obtain ⟨j1, q2, hoc⟩ := k_ob hoc
  refine r_getR h kf_X8_19 dX8_inForce_1 rfl rfl (by decide) rfl (Eq.trans rfl q2) ?_
  refine r_iload_n h dX8_inForce_4 rfl ?_
  obtain ⟨c3, hoc⟩ := k_gd hoc
  refine r_iaload (y := (a1).toNatClampNeg) (t := 0) h dX8_inForce_5 rfl rfl rfl (k_xx c3.1) c3.2 (by decide) ?_
  refine r_iload_n h dX8_inForce_6 rfl ?_
  refine r_icmp_gt (tgt := 24) h dX8_inForce_7 (by decide) (fun c4 => ?_) (fun c4 => ?_)
  · replace hoc := (if_pos c4).symm.trans hoc
    refine r_iconst (v := 0) h dX8_inForce_24 (by decide) ?_
    cases hoc
    exact r_ireturn h hEn dX8_inForce_25 rfl (by decide) rfl (by decide) (by decide)
  · replace hoc := (if_neg c4).symm.trans hoc
    refine r_iload_n h dX8_inForce_10 rfl ?_
    refine r_aload_n h dX8_inForce_11 rfl ?_
    obtain ⟨j5, q6, hoc⟩ := k_ob hoc
    refine r_getR h kf_X8_22 dX8_inForce_12 rfl rfl (by decide) rfl (Eq.trans rfl q6) ?_
    refine r_iload_n h dX8_inForce_15 rfl ?_
    obtain ⟨c7, hoc⟩ := k_gd hoc
    refine r_iaload (y := (a1).toNatClampNeg) (t := 0) h dX8_inForce_16 rfl rfl rfl (k_xx c7.1) c7.2 (by decide) ?_
    refine r_icmp_ge (tgt := 24) h dX8_inForce_17 (by decide) (fun c8 => ?_) (fun c8 => ?_)
    · replace hoc := (if_pos c8).symm.trans hoc
      refine r_iconst (v := 0) h dX8_inForce_24 (by decide) ?_
      cases hoc
      exact r_ireturn h hEn dX8_inForce_25 rfl (by decide) rfl (by decide) (by decide)
    · replace hoc := (if_neg c8).symm.trans hoc
      refine r_iconst (v := 1) h dX8_inForce_20 (by decide) ?_
      refine r_goto (tgt := 25) h dX8_inForce_21 (by decide) ?_
      cases hoc
      exact r_ireturn h hEn dX8_inForce_25 rfl (by decide) rfl (by decide) (by decide)
def f_X8_repeal_l1 (t : Nat) (i0 : Nat) (a1 : Int32) (a2 : Int32) (σ : k_S) (x3 : Int32) (x4 : Int32) : Option (Int32 × Int32) := match t with
  | 0 => none
  | t + 1 => (if k_I σ 1 (i0) (10) ≤ x4 then some ((x3, x4)) else ((f_X8_inForce σ (i0) (x4) (a2)).bind fun v16 => (if v16 = 0 then f_X8_repeal_l1 t i0 a1 a2 σ ((x3 + 0)) ((x4 + 1)) else f_X8_repeal_l1 t i0 a1 a2 σ ((x3 + 1)) ((x4 + 1)))))
theorem j_X8_repeal_l1 (la : Launch) (hla : la.flags = flags0) (G : k_G) (X : k_X) (σ0 σ : k_S) (h : k_Ok X RX8 cX8_repeal 5) (hMe : k_Me X la G σ0 { frames := 2, cells := 0, slots := 0, locals := 44 } "repeal") (i0 : Nat) (a1 : Int32) (a2 : Int32) : ∀ (t : Nat) (x3 : Int32) (x4 : Int32) (e : (Int32 × Int32)), f_X8_repeal_l1 t i0 a1 a2 σ x3 x4 = some e → k_W X σ 0 0 113 [some (k_p 1 (i0)), some (k_i (a1)), some (k_i (a2)), some (k_i (e.1)), some (k_i (e.2))] [] → k_W X σ 0 0 80 [some (k_p 1 (i0)), some (k_i (a1)), some (k_i (a2)), some (k_i (x3)), some (k_i (x4))] [] := by
  intro t
  induction t with
  | zero =>
    intro x3 x4 e hoc kk
    cases hoc
  | succ t ih =>
    intro x3 x4 e hoc kk
    rw [f_X8_repeal_l1] at hoc
    refine r_iload h dX8_repeal_80 rfl ?_
    refine r_aload_n h dX8_repeal_82 rfl ?_
    refine r_getI h kf_X8_87 dX8_repeal_83 rfl rfl (by decide) rfl ?_
    refine r_icmp_ge (tgt := 113) h dX8_repeal_86 (by decide) (fun c15 => ?_) (fun c15 => ?_)
    · replace hoc := (if_pos c15).symm.trans hoc
      cases hoc
      exact kk
    · replace hoc := (if_neg c15).symm.trans hoc
      refine r_iload_n h dX8_repeal_89 rfl ?_
      refine r_aload_n h dX8_repeal_90 rfl ?_
      refine r_iload h dX8_repeal_91 rfl ?_
      refine r_iload_n h dX8_repeal_93 rfl ?_
      obtain ⟨v16, q17, hoc⟩ := k_ob hoc
      refine r_callV h hMe (rest := [k_i (x3)]) (as := [k_i (x4), k_i (a2)]) (oc := .inl (k_mI v16, σ)) (j_X8_inForce la hla G _ (i0) (x4) (a2) _ q17) kl_X8_120 dX8_repeal_94 rfl rfl rfl rfl rfl ⟨rfl, rfl, Nat.le_of_ble_eq_true rfl, Nat.le_of_ble_eq_true rfl, Nat.le_of_ble_eq_true rfl, Nat.le_of_ble_eq_true rfl, Nat.le_of_ble_eq_true rfl⟩ (fun E q => by cases q) (fun r s q => ?_)
      cases q
      show k_W X _ _ _ _ _ ([k_i (v16), k_i (x3)])
      refine r_if_eq (tgt := 104) h dX8_repeal_97 (by decide) (fun c18 => ?_) (fun c18 => ?_)
      · replace hoc := (if_pos c18).symm.trans hoc
        refine r_iconst (v := 0) h dX8_repeal_104 (by decide) ?_
        refine r_iadd h dX8_repeal_105 ?_
        refine r_istore_n (L' := [some (k_p 1 (i0)), some (k_i (a1)), some (k_i (a2)), some (k_i ((x3 + 0))), some (k_i (x4))]) h dX8_repeal_106 (by decide) rfl ?_
        refine r_iinc (v := (x4 + 1)) (L' := [some (k_p 1 (i0)), some (k_i (a1)), some (k_i (a2)), some (k_i ((x3 + 0))), some (k_i ((x4 + 1)))]) h dX8_repeal_107 rfl rfl (by decide) rfl ?_
        refine r_goto (tgt := 80) h dX8_repeal_110 (by decide) ?_
        exact r_forget (L' := [some (k_p 1 (i0)), some (k_i (a1)), some (k_i (a2)), some (k_i ((x3 + 0))), some (k_i ((x4 + 1)))]) (k_le_ok ⟨rfl, ⟨rfl, ⟨rfl, ⟨rfl, ⟨rfl, trivial⟩⟩⟩⟩⟩) (ih ((x3 + 0)) ((x4 + 1)) _ hoc kk)
      · replace hoc := (if_neg c18).symm.trans hoc
        refine r_iconst (v := 1) h dX8_repeal_100 (by decide) ?_
        refine r_goto (tgt := 105) h dX8_repeal_101 (by decide) ?_
        refine r_iadd h dX8_repeal_105 ?_
        refine r_istore_n (L' := [some (k_p 1 (i0)), some (k_i (a1)), some (k_i (a2)), some (k_i ((x3 + 1))), some (k_i (x4))]) h dX8_repeal_106 (by decide) rfl ?_
        refine r_iinc (v := (x4 + 1)) (L' := [some (k_p 1 (i0)), some (k_i (a1)), some (k_i (a2)), some (k_i ((x3 + 1))), some (k_i ((x4 + 1)))]) h dX8_repeal_107 rfl rfl (by decide) rfl ?_
        refine r_goto (tgt := 80) h dX8_repeal_110 (by decide) ?_
        exact r_forget (L' := [some (k_p 1 (i0)), some (k_i (a1)), some (k_i (a2)), some (k_i ((x3 + 1))), some (k_i ((x4 + 1)))]) (k_le_ok ⟨rfl, ⟨rfl, ⟨rfl, ⟨rfl, ⟨rfl, trivial⟩⟩⟩⟩⟩) (ih ((x3 + 1)) ((x4 + 1)) _ hoc kk)
def f_X8_repeal (σ : k_S) (i0 : Nat) (a1 : Int32) (a2 : Int32) : Option (Int32 × k_S) :=
  ((f_X8_isRule (k_uI σ 1 (i0) (0) (0)) (i0) (a1)).bind fun v1 => (if v1 = 0 then ((f_X8_fails (k_uI σ 1 (i0) (0) (0)) (i0) (1)).bind fun v25 => some ((v25.1, v25.2))) else ((k_P σ 1 (i0) (4)).bind fun j4 => (if 0 ≤ a1 ∧ (a1).toNatClampNeg < 12 then ((f_X8_isBetween (k_uI σ 1 (i0) (0) (0)) (a2) (((if k_I σ 1 (i0) (14) < k_I σ 23 (j4) ((a1).toNatClampNeg) then k_I σ 23 (j4) ((a1).toNatClampNeg) else k_I σ 1 (i0) (14)) + 1)) (1000)).bind fun v7 => (if v7 = 0 then ((f_X8_fails (k_uI σ 1 (i0) (0) (0)) (i0) (2)).bind fun v23 => some ((v23.1, v23.2))) else ((k_P σ 1 (i0) (5)).bind fun j10 => (if 0 ≤ a1 ∧ (a1).toNatClampNeg < 12 then (if (1000 : Int32) < k_I σ 24 (j10) ((a1).toNatClampNeg) then (if 0 ≤ a1 ∧ (a1).toNatClampNeg < 12 then ((f_X8_repeal_l1 200 i0 a1 a2 (k_uI (k_uI σ 1 (i0) (0) (0)) 24 (j10) ((a1).toNatClampNeg) (a2)) (0) (0)).bind fun v19 => some ((v19.1, (k_uI (k_uI σ 1 (i0) (0) (0)) 24 (j10) ((a1).toNatClampNeg) (a2))))) else none) else ((f_X8_fails (k_uI σ 1 (i0) (0) (0)) (i0) (3)).bind fun v21 => some ((v21.1, v21.2)))) else none)))) else none))))
theorem j_X8_repeal (la : Launch) (hla : la.flags = flags0) (G : k_G) (σ : k_S) (i0 : Nat) (a1 : Int32) (a2 : Int32) (x : (Int32 × k_S)) (hoc : f_X8_repeal σ i0 a1 a2 = some x) : k_Ct la G yX8_repeal (k_ws yX8_repeal cX8_repeal 5 (Option.some ClassFile.FieldType.int)) { frames := 2, cells := 0, slots := 0, locals := 44 } [k_p 1 (i0), k_i (a1), k_i (a2)] σ (.inl (k_mI x.1, x.2)) 0 0 := by
  refine k_body hla (by decide +kernel) (k_wl rfl) (Nat.le_of_ble_eq_true rfl) (fun X h hEn hMe => ?_)
  show k_W X σ 0 0 0 [some (k_p 1 (i0)), some (k_i (a1)), some (k_i (a2)), none, none] []
  unfold f_X8_repeal at hoc
  refine r_aload_n h dX8_repeal_0 rfl ?_
  refine r_iconst (v := 0) h dX8_repeal_1 (by decide) ?_
  refine r_putI (x := 0) h kp_X8_84 dX8_repeal_2 rfl rfl (by decide) rfl rfl (k_fit_int _) ?_
  refine r_aload_n h dX8_repeal_5 rfl ?_
  refine r_iload_n h dX8_repeal_6 rfl ?_
  obtain ⟨v1, q2, hoc⟩ := k_ob hoc
  refine r_callV h hMe (rest := []) (as := [k_i (a1)]) (oc := .inl (k_mI v1, (k_uI σ 1 (i0) (0) (0)))) (j_X8_isRule la hla G _ (i0) (a1) _ q2) kl_X8_110 dX8_repeal_7 rfl rfl rfl rfl rfl ⟨rfl, rfl, Nat.le_of_ble_eq_true rfl, Nat.le_of_ble_eq_true rfl, Nat.le_of_ble_eq_true rfl, Nat.le_of_ble_eq_true rfl, Nat.le_of_ble_eq_true rfl⟩ (fun E q => by cases q) (fun r s q => ?_)
  cases q
  show k_W X _ _ _ _ _ ([k_i (v1)])
  refine r_if_ne (tgt := 19) h dX8_repeal_10 (by decide) (fun c3 => ?_) (fun c3 => ?_)
  · replace hoc := (if_neg c3).symm.trans hoc
    refine r_iload_n h dX8_repeal_19 rfl ?_
    refine r_aload_n h dX8_repeal_20 rfl ?_
    refine r_getI h kf_X8_100 dX8_repeal_21 rfl rfl (by decide) rfl ?_
    refine r_eqI (k_I_k (by decide)) ?_
    refine r_aload_n h dX8_repeal_24 rfl ?_
    obtain ⟨j4, q5, hoc⟩ := k_ob hoc
    refine r_getR h kf_X8_19 dX8_repeal_25 rfl rfl (by decide) rfl (Eq.trans rfl q5) ?_
    refine r_iload_n h dX8_repeal_28 rfl ?_
    obtain ⟨c6, hoc⟩ := k_gd hoc
    refine r_iaload (y := (a1).toNatClampNeg) (t := 0) h dX8_repeal_29 rfl rfl rfl (k_xx c6.1) c6.2 (by decide) ?_
    refine r_eqI (k_I_l (by decide)) ?_
    refine r_max h hMe ⟨kl_X8_114.1.1, kl_X8_114.2, kl_X8_114.1.2.1, kl_X8_114.1.2.2.1⟩ dX8_repeal_30 ⟨Nat.le_of_ble_eq_true rfl, Nat.le_of_ble_eq_true rfl, Nat.le_of_ble_eq_true rfl, Nat.le_of_ble_eq_true rfl⟩ ?_
    refine r_iconst (v := 1) h dX8_repeal_33 (by decide) ?_
    refine r_iadd h dX8_repeal_34 ?_
    refine r_sipush (v := 1000) h dX8_repeal_35 (by decide) ?_
    obtain ⟨v7, q8, hoc⟩ := k_ob hoc
    refine r_callS h hMe (rest := []) (as := [k_i (a2), k_i (((if k_I σ 1 (i0) (14) < k_I σ 23 (j4) ((a1).toNatClampNeg) then k_I σ 23 (j4) ((a1).toNatClampNeg) else k_I σ 1 (i0) (14)) + 1)), k_i (1000)]) (oc := .inl (k_mI v7, (k_uI σ 1 (i0) (0) (0)))) (j_X8_isBetween la hla G _ (a2) (((if k_I σ 1 (i0) (14) < k_I σ 23 (j4) ((a1).toNatClampNeg) then k_I σ 23 (j4) ((a1).toNatClampNeg) else k_I σ 1 (i0) (14)) + 1)) (1000) _ q8) kl_X8_90 dX8_repeal_38 rfl rfl  ⟨rfl, rfl, Nat.le_of_ble_eq_true rfl, Nat.le_of_ble_eq_true rfl, Nat.le_of_ble_eq_true rfl, Nat.le_of_ble_eq_true rfl, Nat.le_of_ble_eq_true rfl⟩ (fun E q => by cases q) (fun r s q => ?_)
    cases q
    show k_W X _ _ _ _ _ ([k_i (v7)])
    refine r_if_ne (tgt := 50) h dX8_repeal_41 (by decide) (fun c9 => ?_) (fun c9 => ?_)
    · replace hoc := (if_neg c9).symm.trans hoc
      refine r_aload_n h dX8_repeal_50 rfl ?_
      obtain ⟨j10, q11, hoc⟩ := k_ob hoc
      refine r_getR h kf_X8_22 dX8_repeal_51 rfl rfl (by decide) rfl (Eq.trans rfl q11) ?_
      refine r_iload_n h dX8_repeal_54 rfl ?_
      obtain ⟨c12, hoc⟩ := k_gd hoc
      refine r_iaload (y := (a1).toNatClampNeg) (t := 0) h dX8_repeal_55 rfl rfl rfl (k_xx c12.1) c12.2 (by decide) ?_
      refine r_eqI (k_I_l (by decide)) ?_
      refine r_sipush (v := 1000) h dX8_repeal_56 (by decide) ?_
      refine r_icmp_gt (tgt := 68) h dX8_repeal_59 (by decide) (fun c13 => ?_) (fun c13 => ?_)
      · replace hoc := (if_pos c13).symm.trans hoc
        refine r_aload_n h dX8_repeal_68 rfl ?_
        refine r_getR h kf_X8_22 dX8_repeal_69 rfl rfl (by decide) rfl (Eq.trans rfl q11) ?_
        refine r_iload_n h dX8_repeal_72 rfl ?_
        refine r_iload_n h dX8_repeal_73 rfl ?_
        obtain ⟨c14, hoc⟩ := k_gd hoc
        refine r_iastore (y := (a1).toNatClampNeg) (t := 0) (x := a2) h dX8_repeal_74 rfl rfl rfl rfl (k_fit_int _) (k_xx c14.1) c14.2 (by decide) ?_
        refine r_iconst (v := 0) h dX8_repeal_75 (by decide) ?_
        refine r_istore_n (L' := [some (k_p 1 (i0)), some (k_i (a1)), some (k_i (a2)), some (k_i (0)), none]) h dX8_repeal_76 (by decide) rfl ?_
        refine r_iconst (v := 0) h dX8_repeal_77 (by decide) ?_
        refine r_istore (L' := [some (k_p 1 (i0)), some (k_i (a1)), some (k_i (a2)), some (k_i (0)), some (k_i (0))]) h dX8_repeal_78 (by decide) rfl ?_
        obtain ⟨v19, q20, hoc⟩ := k_ob hoc
        refine j_X8_repeal_l1 la hla G X σ (k_uI (k_uI σ 1 (i0) (0) (0)) 24 (j10) ((a1).toNatClampNeg) (a2)) h hMe i0 a1 a2 200 (0) (0) _ q20 ?_
        refine r_iload_n h dX8_repeal_113 rfl ?_
        cases hoc
        exact r_ireturn h hEn dX8_repeal_114 rfl rfl rfl (by decide) (by decide)
      · replace hoc := (if_neg c13).symm.trans hoc
        refine r_aload_n h dX8_repeal_62 rfl ?_
        refine r_iconst (v := 3) h dX8_repeal_63 (by decide) ?_
        obtain ⟨v21, q22, hoc⟩ := k_ob hoc
        refine r_callV h hMe (rest := []) (as := [k_i (3)]) (oc := .inl (k_mI v21.1, v21.2)) (j_X8_fails la hla G _ (i0) (3) _ q22) kl_X8_103 dX8_repeal_64 rfl rfl rfl rfl rfl ⟨rfl, rfl, Nat.le_of_ble_eq_true rfl, Nat.le_of_ble_eq_true rfl, Nat.le_of_ble_eq_true rfl, Nat.le_of_ble_eq_true rfl, Nat.le_of_ble_eq_true rfl⟩ (fun E q => by cases q) (fun r s q => ?_)
        cases q
        show k_W X _ _ _ _ _ ([k_i (v21.1)])
        cases hoc
        exact r_ireturn h hEn dX8_repeal_67 rfl rfl rfl (by decide) (by decide)
    · replace hoc := (if_pos c9).symm.trans hoc
      refine r_aload_n h dX8_repeal_44 rfl ?_
      refine r_iconst (v := 2) h dX8_repeal_45 (by decide) ?_
      obtain ⟨v23, q24, hoc⟩ := k_ob hoc
      refine r_callV h hMe (rest := []) (as := [k_i (2)]) (oc := .inl (k_mI v23.1, v23.2)) (j_X8_fails la hla G _ (i0) (2) _ q24) kl_X8_103 dX8_repeal_46 rfl rfl rfl rfl rfl ⟨rfl, rfl, Nat.le_of_ble_eq_true rfl, Nat.le_of_ble_eq_true rfl, Nat.le_of_ble_eq_true rfl, Nat.le_of_ble_eq_true rfl, Nat.le_of_ble_eq_true rfl⟩ (fun E q => by cases q) (fun r s q => ?_)
      cases q
      show k_W X _ _ _ _ _ ([k_i (v23.1)])
      cases hoc
      exact r_ireturn h hEn dX8_repeal_49 rfl rfl rfl (by decide) (by decide)
  · replace hoc := (if_pos c3).symm.trans hoc
    refine r_aload_n h dX8_repeal_13 rfl ?_
    refine r_iconst (v := 1) h dX8_repeal_14 (by decide) ?_
    obtain ⟨v25, q26, hoc⟩ := k_ob hoc
    refine r_callV h hMe (rest := []) (as := [k_i (1)]) (oc := .inl (k_mI v25.1, v25.2)) (j_X8_fails la hla G _ (i0) (1) _ q26) kl_X8_103 dX8_repeal_15 rfl rfl rfl rfl rfl ⟨rfl, rfl, Nat.le_of_ble_eq_true rfl, Nat.le_of_ble_eq_true rfl, Nat.le_of_ble_eq_true rfl, Nat.le_of_ble_eq_true rfl, Nat.le_of_ble_eq_true rfl⟩ (fun E q => by cases q) (fun r s q => ?_)
    cases q
    show k_W X _ _ _ _ _ ([k_i (v25.1)])
    cases hoc
    exact r_ireturn h hEn dX8_repeal_18 rfl rfl rfl (by decide) (by decide)
def f_X8_isInForce (σ : k_S) (i0 : Nat) (a1 : Int32) (a2 : Int32) : Option (Int32 × k_S) :=
  ((f_X8_isRule σ (i0) (a1)).bind fun v1 => (if v1 = 0 then (if (1 : Int32) = 0 then ((f_X8_inForce (k_uI σ 1 (i0) (0) (1)) (i0) (a1) (a2)).bind fun v16 => (if v16 = 0 then some ((0, (k_uI σ 1 (i0) (0) (1)))) else some ((1, (k_uI σ 1 (i0) (0) (1)))))) else some ((0, (k_uI σ 1 (i0) (0) (1))))) else ((f_X8_isBetween σ (a2) (0) (1000)).bind fun v4 => (if v4 = 0 then (if (2 : Int32) = 0 then ((f_X8_inForce (k_uI σ 1 (i0) (0) (2)) (i0) (a1) (a2)).bind fun v8 => (if v8 = 0 then some ((0, (k_uI σ 1 (i0) (0) (2)))) else some ((1, (k_uI σ 1 (i0) (0) (2)))))) else some ((0, (k_uI σ 1 (i0) (0) (2))))) else (if (0 : Int32) = 0 then ((f_X8_inForce (k_uI σ 1 (i0) (0) (0)) (i0) (a1) (a2)).bind fun v12 => (if v12 = 0 then some ((0, (k_uI σ 1 (i0) (0) (0)))) else some ((1, (k_uI σ 1 (i0) (0) (0)))))) else some ((0, (k_uI σ 1 (i0) (0) (0)))))))))
theorem j_X8_isInForce (la : Launch) (hla : la.flags = flags0) (G : k_G) (σ : k_S) (i0 : Nat) (a1 : Int32) (a2 : Int32) (x : (Int32 × k_S)) (hoc : f_X8_isInForce σ i0 a1 a2 = some x) : k_Ct la G yX8_isInForce (k_ws yX8_isInForce cX8_isInForce 3 (Option.some ClassFile.FieldType.boolean)) { frames := 2, cells := 0, slots := 0, locals := 44 } [k_p 1 (i0), k_i (a1), k_i (a2)] σ (.inl (k_mI x.1, x.2)) 0 0 := by
  refine k_body hla (by decide +kernel) (k_wl rfl) (Nat.le_of_ble_eq_true rfl) (fun X h hEn hMe => ?_)
  show k_W X σ 0 0 0 [some (k_p 1 (i0)), some (k_i (a1)), some (k_i (a2))] []
  unfold f_X8_isInForce at hoc
  refine r_aload_n h dX8_isInForce_0 rfl ?_
  refine r_aload_n h dX8_isInForce_1 rfl ?_
  refine r_iload_n h dX8_isInForce_2 rfl ?_
  obtain ⟨v1, q2, hoc⟩ := k_ob hoc
  refine r_callV h hMe (rest := [k_p 1 (i0)]) (as := [k_i (a1)]) (oc := .inl (k_mI v1, σ)) (j_X8_isRule la hla G _ (i0) (a1) _ q2) kl_X8_110 dX8_isInForce_3 rfl rfl rfl rfl rfl ⟨rfl, rfl, Nat.le_of_ble_eq_true rfl, Nat.le_of_ble_eq_true rfl, Nat.le_of_ble_eq_true rfl, Nat.le_of_ble_eq_true rfl, Nat.le_of_ble_eq_true rfl⟩ (fun E q => by cases q) (fun r s q => ?_)
  cases q
  show k_W X _ _ _ _ _ ([k_i (v1), k_p 1 (i0)])
  refine r_if_ne (tgt := 13) h dX8_isInForce_6 (by decide) (fun c3 => ?_) (fun c3 => ?_)
  · replace hoc := (if_neg c3).symm.trans hoc
    refine r_iload_n h dX8_isInForce_13 rfl ?_
    refine r_iconst (v := 0) h dX8_isInForce_14 (by decide) ?_
    refine r_sipush (v := 1000) h dX8_isInForce_15 (by decide) ?_
    obtain ⟨v4, q5, hoc⟩ := k_ob hoc
    refine r_callS h hMe (rest := [k_p 1 (i0)]) (as := [k_i (a2), k_i (0), k_i (1000)]) (oc := .inl (k_mI v4, σ)) (j_X8_isBetween la hla G _ (a2) (0) (1000) _ q5) kl_X8_90 dX8_isInForce_18 rfl rfl  ⟨rfl, rfl, Nat.le_of_ble_eq_true rfl, Nat.le_of_ble_eq_true rfl, Nat.le_of_ble_eq_true rfl, Nat.le_of_ble_eq_true rfl, Nat.le_of_ble_eq_true rfl⟩ (fun E q => by cases q) (fun r s q => ?_)
    cases q
    show k_W X _ _ _ _ _ ([k_i (v4), k_p 1 (i0)])
    refine r_if_eq (tgt := 28) h dX8_isInForce_21 (by decide) (fun c6 => ?_) (fun c6 => ?_)
    · replace hoc := (if_pos c6).symm.trans hoc
      refine r_iconst (v := 2) h dX8_isInForce_28 (by decide) ?_
      refine r_putI (x := 2) h kp_X8_84 dX8_isInForce_29 rfl rfl (by decide) rfl rfl (k_fit_int _) ?_
      refine r_aload_n h dX8_isInForce_32 rfl ?_
      refine r_getI h kf_X8_84 dX8_isInForce_33 rfl rfl (by decide) rfl ?_
      refine r_eqI k_I_s ?_
      refine r_if_ne (tgt := 52) h dX8_isInForce_36 (by decide) (fun c7 => ?_) (fun c7 => ?_)
      · replace hoc := (if_neg c7).symm.trans hoc
        refine r_iconst (v := 0) h dX8_isInForce_52 (by decide) ?_
        cases hoc
        exact r_ireturn h hEn dX8_isInForce_53 rfl (by decide) rfl (by decide) (by decide)
      · replace hoc := (if_pos c7).symm.trans hoc
        refine r_aload_n h dX8_isInForce_39 rfl ?_
        refine r_iload_n h dX8_isInForce_40 rfl ?_
        refine r_iload_n h dX8_isInForce_41 rfl ?_
        obtain ⟨v8, q9, hoc⟩ := k_ob hoc
        refine r_callV h hMe (rest := []) (as := [k_i (a1), k_i (a2)]) (oc := .inl (k_mI v8, (k_uI σ 1 (i0) (0) (2)))) (j_X8_inForce la hla G _ (i0) (a1) (a2) _ q9) kl_X8_120 dX8_isInForce_42 rfl rfl rfl rfl rfl ⟨rfl, rfl, Nat.le_of_ble_eq_true rfl, Nat.le_of_ble_eq_true rfl, Nat.le_of_ble_eq_true rfl, Nat.le_of_ble_eq_true rfl, Nat.le_of_ble_eq_true rfl⟩ (fun E q => by cases q) (fun r s q => ?_)
        cases q
        show k_W X _ _ _ _ _ ([k_i (v8)])
        refine r_if_eq (tgt := 52) h dX8_isInForce_45 (by decide) (fun c10 => ?_) (fun c10 => ?_)
        · replace hoc := (if_pos c10).symm.trans hoc
          refine r_iconst (v := 0) h dX8_isInForce_52 (by decide) ?_
          cases hoc
          exact r_ireturn h hEn dX8_isInForce_53 rfl (by decide) rfl (by decide) (by decide)
        · replace hoc := (if_neg c10).symm.trans hoc
          refine r_iconst (v := 1) h dX8_isInForce_48 (by decide) ?_
          refine r_goto (tgt := 53) h dX8_isInForce_49 (by decide) ?_
          cases hoc
          exact r_ireturn h hEn dX8_isInForce_53 rfl (by decide) rfl (by decide) (by decide)
    · replace hoc := (if_neg c6).symm.trans hoc
      refine r_iconst (v := 0) h dX8_isInForce_24 (by decide) ?_
      refine r_goto (tgt := 29) h dX8_isInForce_25 (by decide) ?_
      refine r_putI (x := 0) h kp_X8_84 dX8_isInForce_29 rfl rfl (by decide) rfl rfl (k_fit_int _) ?_
      refine r_aload_n h dX8_isInForce_32 rfl ?_
      refine r_getI h kf_X8_84 dX8_isInForce_33 rfl rfl (by decide) rfl ?_
      refine r_eqI k_I_s ?_
      refine r_if_ne (tgt := 52) h dX8_isInForce_36 (by decide) (fun c11 => ?_) (fun c11 => ?_)
      · replace hoc := (if_neg c11).symm.trans hoc
        refine r_iconst (v := 0) h dX8_isInForce_52 (by decide) ?_
        cases hoc
        exact r_ireturn h hEn dX8_isInForce_53 rfl (by decide) rfl (by decide) (by decide)
      · replace hoc := (if_pos c11).symm.trans hoc
        refine r_aload_n h dX8_isInForce_39 rfl ?_
        refine r_iload_n h dX8_isInForce_40 rfl ?_
        refine r_iload_n h dX8_isInForce_41 rfl ?_
        obtain ⟨v12, q13, hoc⟩ := k_ob hoc
        refine r_callV h hMe (rest := []) (as := [k_i (a1), k_i (a2)]) (oc := .inl (k_mI v12, (k_uI σ 1 (i0) (0) (0)))) (j_X8_inForce la hla G _ (i0) (a1) (a2) _ q13) kl_X8_120 dX8_isInForce_42 rfl rfl rfl rfl rfl ⟨rfl, rfl, Nat.le_of_ble_eq_true rfl, Nat.le_of_ble_eq_true rfl, Nat.le_of_ble_eq_true rfl, Nat.le_of_ble_eq_true rfl, Nat.le_of_ble_eq_true rfl⟩ (fun E q => by cases q) (fun r s q => ?_)
        cases q
        show k_W X _ _ _ _ _ ([k_i (v12)])
        refine r_if_eq (tgt := 52) h dX8_isInForce_45 (by decide) (fun c14 => ?_) (fun c14 => ?_)
        · replace hoc := (if_pos c14).symm.trans hoc
          refine r_iconst (v := 0) h dX8_isInForce_52 (by decide) ?_
          cases hoc
          exact r_ireturn h hEn dX8_isInForce_53 rfl (by decide) rfl (by decide) (by decide)
        · replace hoc := (if_neg c14).symm.trans hoc
          refine r_iconst (v := 1) h dX8_isInForce_48 (by decide) ?_
          refine r_goto (tgt := 53) h dX8_isInForce_49 (by decide) ?_
          cases hoc
          exact r_ireturn h hEn dX8_isInForce_53 rfl (by decide) rfl (by decide) (by decide)
  · replace hoc := (if_pos c3).symm.trans hoc
    refine r_iconst (v := 1) h dX8_isInForce_9 (by decide) ?_
    refine r_goto (tgt := 29) h dX8_isInForce_10 (by decide) ?_
    refine r_putI (x := 1) h kp_X8_84 dX8_isInForce_29 rfl rfl (by decide) rfl rfl (k_fit_int _) ?_
    refine r_aload_n h dX8_isInForce_32 rfl ?_
    refine r_getI h kf_X8_84 dX8_isInForce_33 rfl rfl (by decide) rfl ?_
    refine r_eqI k_I_s ?_
    refine r_if_ne (tgt := 52) h dX8_isInForce_36 (by decide) (fun c15 => ?_) (fun c15 => ?_)
    · replace hoc := (if_neg c15).symm.trans hoc
      refine r_iconst (v := 0) h dX8_isInForce_52 (by decide) ?_
      cases hoc
      exact r_ireturn h hEn dX8_isInForce_53 rfl (by decide) rfl (by decide) (by decide)
    · replace hoc := (if_pos c15).symm.trans hoc
      refine r_aload_n h dX8_isInForce_39 rfl ?_
      refine r_iload_n h dX8_isInForce_40 rfl ?_
      refine r_iload_n h dX8_isInForce_41 rfl ?_
      obtain ⟨v16, q17, hoc⟩ := k_ob hoc
      refine r_callV h hMe (rest := []) (as := [k_i (a1), k_i (a2)]) (oc := .inl (k_mI v16, (k_uI σ 1 (i0) (0) (1)))) (j_X8_inForce la hla G _ (i0) (a1) (a2) _ q17) kl_X8_120 dX8_isInForce_42 rfl rfl rfl rfl rfl ⟨rfl, rfl, Nat.le_of_ble_eq_true rfl, Nat.le_of_ble_eq_true rfl, Nat.le_of_ble_eq_true rfl, Nat.le_of_ble_eq_true rfl, Nat.le_of_ble_eq_true rfl⟩ (fun E q => by cases q) (fun r s q => ?_)
      cases q
      show k_W X _ _ _ _ _ ([k_i (v16)])
      refine r_if_eq (tgt := 52) h dX8_isInForce_45 (by decide) (fun c18 => ?_) (fun c18 => ?_)
      · replace hoc := (if_pos c18).symm.trans hoc
        refine r_iconst (v := 0) h dX8_isInForce_52 (by decide) ?_
        cases hoc
        exact r_ireturn h hEn dX8_isInForce_53 rfl (by decide) rfl (by decide) (by decide)
      · replace hoc := (if_neg c18).symm.trans hoc
        refine r_iconst (v := 1) h dX8_isInForce_48 (by decide) ?_
        refine r_goto (tgt := 53) h dX8_isInForce_49 (by decide) ?_
        cases hoc
        exact r_ireturn h hEn dX8_isInForce_53 rfl (by decide) rfl (by decide) (by decide)
